/-! part 97: the class's chase: all goings are tried -/
def q_fnL (a n : Nat) (v : Int64) (h : am_H) : am_H := (h.1, fun b k => if b = a ∧ k < n then v else h.2.1 b k, h.2.2)
theorem q_fnL_rd (a n : Nat) (v : Int64) (h : am_H) (b k : Nat) : (q_fnL a n v h).2.1 b k = if b = a ∧ k < n then v else h.2.1 b k := rfl
theorem q_fnL_0 (a : Nat) (v : Int64) (h : am_H) : q_fnL a 0 v h = h := by
  have : (fun b k => if b = a ∧ k < 0 then v else h.2.1 b k) = h.2.1 := by
    funext b k
    rw [if_neg (by omega)]
  unfold q_fnL
  rw [this]
theorem q_fnL_s (a i : Nat) (v : Int64) (h : am_H) : am_sL (q_fnL a i v h) a i v = q_fnL a (i + 1) v h := by
  have : (fun b k => if b = a ∧ k = i then v else if b = a ∧ k < i then v else h.2.1 b k) = (fun b k => if b = a ∧ k < i + 1 then v else h.2.1 b k) := by
    funext b k
    by_cases c : b = a
    · by_cases c2 : k = i
      · rw [if_pos ⟨c, c2⟩, if_pos ⟨c, by omega⟩]
      · rw [if_neg (fun w => c2 w.2)]
        by_cases c3 : k < i
        · rw [if_pos ⟨c, c3⟩, if_pos ⟨c, by omega⟩]
        · rw [if_neg (fun w => c3 w.2), if_neg (fun w => by omega)]
    · rw [if_neg (fun w => c w.1), if_neg (fun w => c w.1), if_neg (fun w => c w.1)]
  show (h.1, (fun b k => if b = a ∧ k = i then v else if b = a ∧ k < i then v else h.2.1 b k), h.2.2) = _
  rw [this]
  rfl
theorem q_flJ_l (h : am_H) (ok : am_okH h) (v : Int64) : ∀ r i, i + r = 64 → am_ev 86 6 [some (.ref 203), some (.long v), some (.retAddr 0), some (.int (nI i)), some (.int (Int32.ofNat 64))] [] (q_fnL 203 i v h) = some (none, q_fnL 203 64 v h) := by
  intro r
  induction r with
  | zero =>
    intro i hi
    obtain rfl : i = 64 := by omega
    have h1 : (Int32.ofNat 64 : Int32) ≤ nI 64 := by decide
    rw [e86_6]
    simp only [e86_0, e86_1, e86_2, e86_3, e86_4, e86_7, e86_9, e86_12, e86_13, e86_14, e86_15, e86_16, e86_19, e86_22, am_bd_some, Option.toList_some, Option.toList_none, List.cons_append, List.nil_append, am_w8_0, am_w8_1, am_w8_2, am_w8_3, am_w8_4, eq_self, or_true, true_or, am_kd_sI, am_kd_sL, am_kd_sR, am_tc_sI, am_tc_sL, am_tc_sR, am_len_sI, am_len_sL, am_len_sR, am_rfs, if_true, if_false, am_rdL_sI, am_rR_sL, am_rt_cq, am_kd_cq, am_tc_cq, am_len_cq, am_rd_sL, am_rd_sR, am_rdL_sR, h1]
  | succ r ih =>
    intro i hi
    have h1 : ¬ (Int32.ofNat 64 : Int32) ≤ nI i := fun w => nI_ge (b := 64) (a := i) (by omega) (by decide) w
    have o1 : am_okH (q_fnL 203 i v h) := ok
    have x : am_ix (nI i) 64 = true := am_ix_nI (by omega) (by decide)
    have z : (nI i).toNatClampNeg = i := nI_clamp (by omega)
    rw [e86_6]
    simp only [e86_0, e86_1, e86_2, e86_3, e86_4, e86_7, e86_9, e86_12, e86_13, e86_14, e86_15, e86_16, e86_19, e86_22, am_bd_some, Option.toList_some, Option.toList_none, List.cons_append, List.nil_append, am_w8_0, am_w8_1, am_w8_2, am_w8_3, am_w8_4, eq_self, or_true, true_or, am_kd_sI, am_kd_sL, am_kd_sR, am_tc_sI, am_tc_sL, am_tc_sR, am_len_sI, am_len_sL, am_len_sR, am_rfs, if_true, if_false, am_rdL_sI, am_rR_sL, am_rt_cq, am_kd_cq, am_tc_cq, am_len_cq, am_rd_sL, am_rd_sR, am_rdL_sR, h1, okT_203 o1, okL_203 o1, x, z, q_fnL_s, nI_1]
    exact ih (i + 1) (by omega)
theorem den_fillJ (h : am_H) (ok : am_okH h) (v : Int64) : am_den 86 [.ref 203, .long v] h = some (none, q_fnL 203 64 v h) := by
  have lp := q_flJ_l h ok v 64 0 (by omega)
  rw [q_fnL_0, nI_0] at lp
  show am_ev 86 0 [some (.ref 203), some (.long v), some (.retAddr 0), none, none] [] h = _
  simp only [e86_0, e86_1, e86_2, e86_3, e86_4, e86_7, e86_9, e86_12, e86_13, e86_14, e86_15, e86_16, e86_19, e86_22, am_bd_some, Option.toList_some, Option.toList_none, List.cons_append, List.nil_append, am_w8_0, am_w8_1, am_w8_2, am_w8_3, am_w8_4, eq_self, or_true, true_or, am_kd_sI, am_kd_sL, am_kd_sR, am_tc_sI, am_tc_sL, am_tc_sR, am_len_sI, am_len_sL, am_len_sR, am_rfs, if_true, if_false, am_rdL_sI, am_rR_sL, am_rt_cq, am_kd_cq, am_tc_cq, am_len_cq, am_rd_sL, am_rd_sR, am_rdL_sR, e86_3 (okT_203 ok) (by decide), okL_203 ok]
  exact lp
theorem q_cg_set {h : am_H} {f : q_Fl} {g : q_G} (c : q_cg h 178 196 f g) (h1 : F_n f = 1) (gl : G_lies g = false) (gb : G_back g = false) (x y : Nat) : q_cg (am_sI (am_sI (am_sI h 178 1 (nI x)) 182 0 (nI y)) 178 2 0) 178 196 f (G_sx x y (G_min g) (G_went g 0)) := by
  obtain ⟨⟨⟨k1, k2, k3, k4, k5⟩, r0, dj⟩, ⟨⟨o1, o2, o3, o4, o5⟩, c0, c1, c2, c4, c5, c6, c7⟩, ⟨g1, g2, g4, g5, g6⟩, ga, gw⟩ := c
  rw [gl] at g4
  rw [gb] at g5
  refine ⟨⟨⟨k1, k2, k3, k4, k5⟩, r0, dj⟩, ⟨⟨o1, o2, o3, o4, o5⟩, c0, c1, c2, c4, c5, c6, fun b hb => ?_⟩, ⟨rfl, rfl, g4, g5, g6⟩, fun b hb => ?_, fun b hb => ?_⟩
  · rw [am_rd_sI, if_neg (by omega), am_rd_sI, if_neg (by omega), am_rd_sI, if_neg (by omega)]
    exact c7 b hb
  · obtain rfl : b = 0 := by omega
    rfl
  · obtain rfl : b = 0 := by omega
    exact gw 0 hb
theorem q_cg_sx {h : am_H} {f : q_Fl} {g : q_G} (c : q_cg h 178 196 f g) (h1 : F_n f = 1) (gp : G_pen g = 0) (gl : G_lies g = false) (gb : G_back g = false) : q_cg h 178 196 f (G_sx (G_dog g) (G_at g 0) (G_min g) (G_went g 0)) := by
  obtain ⟨a, b, ⟨g1, g2, g4, g5, g6⟩, ga, gw⟩ := c
  rw [gp] at g2
  rw [gl] at g4
  rw [gb] at g5
  refine ⟨a, b, ⟨g1, g2, g4, g5, g6⟩, fun b hb => ?_, fun b hb => ?_⟩
  · obtain rfl : b = 0 := by omega
    exact ga 0 hb
  · obtain rfl : b = 0 := by omega
    exact gw 0 hb
theorem G_s1_p01 (f : q_Fl) (g : q_G) (h : G_pen g = 0 ∨ G_pen g = 1) : G_pen (G_s1 f g 0) = 0 ∨ G_pen (G_s1 f g 0) = 1 := by
  rcases G_s1_sp f g 0 with ⟨_, e⟩ | ⟨d, t, _, _, e, _⟩
  · rw [e]; exact h
  · rw [e]
    show (if t = F_pen f then G_pen g ||| 2 ^ 0 else G_pen g) = 0 ∨ (if t = F_pen f then G_pen g ||| 2 ^ 0 else G_pen g) = 1
    split
    · rcases h with h | h <;> rw [h] <;> decide
    · exact h
theorem G_go_p01 (f : q_Fl) (g : q_G) (h : G_pen g = 0 ∨ G_pen g = 1) : G_pen (G_go f g 0) = 0 ∨ G_pen (G_go f g 0) = 1 := by
  unfold G_go
  split
  · split
    · exact G_s1_p01 f _ (G_s1_p01 f g h)
    · exact G_s1_p01 f g h
  · exact h
def q_c0 (c : Option Nat) : Int32 := match c with
  | none => -1
  | some k => nI (k / 4)
def q_c1 (c : Option Nat) : Int32 := match c with
  | none => -1
  | some k => nI (k % 4)
/-- the chase, as it stands behind H entries -/
def q_SK (f : q_Fl) (x0 y0 T : Nat) (X Y K : Nat → Nat) (H : Nat) : Prop := q_CQ f x0 y0 T X Y K ∧ (H < T → ∀ j, j < T → K j ≤ K H + 4) ∧ (∀ w t, w < 4 → N_dg f x0 y0 w = some t → ∃ j, j < T ∧ X j = t ∧ Y j = y0 ∧ K j ≤ 4 + w) ∧ ∀ i, i < H → i < T → N_b f (X i) (Y i) ≠ F_pen f → ∀ v t, v < 4 → N_dg f (X i) (N_b f (X i) (Y i)) v = some t → ∃ j, j < T ∧ X j = t ∧ Y j = N_b f (X i) (Y i) ∧ K j ≤ K i + 4
def q_cu (f : q_Fl) (T : Nat) (X Y K : Nat → Nat) (H : Nat) (c : Option Nat) : Prop := (c = none → ∀ i, i < H → i < T → N_b f (X i) (Y i) ≠ F_pen f) ∧ ∀ k, c = some k → (∃ i, i < H ∧ i < T ∧ N_b f (X i) (Y i) = F_pen f ∧ K i = k) ∧ ∀ j, j < H → j < T → N_b f (X j) (Y j) = F_pen f → k ≤ K j
def q_ce (f : q_Fl) (y0 T : Nat) (X Y : Nat → Nat) (H : Nat) (cw : Int64) : Prop := ∀ c, c < 64 → (q_bit cw c = true ↔ c = y0 ∨ ∃ i, i < H ∧ i < T ∧ N_b f (X i) (Y i) = c)
theorem q_SK.all {f : q_Fl} {x0 y0 T : Nat} {X Y K : Nat → Nat} {H : Nat} (s : q_SK f x0 y0 T X Y K H) (hT : T ≤ H) : ∀ n w x y, q_E f x0 y0 n w x y → ∃ j, j < T ∧ X j = x ∧ Y j = y ∧ K j ≤ 4 * n + w := by
  intro n
  induction n with
  | zero => intro w x y h; exact absurd h (fun w => w)
  | succ n ih =>
    intro w x y h
    rcases h with ⟨h1, h2, h3, h4⟩ | ⟨x', y', v, hv, he, hb, hd, hy⟩
    · obtain ⟨j, a, b, c, d⟩ := s.2.2.1 w x h2 h3
      exact ⟨j, a, b, by rw [c, h4], by rw [h1]; omega⟩
    · obtain ⟨i, i1, i2, i3, i4⟩ := ih w x' y' he
      obtain ⟨j, a, b, c, d⟩ := s.2.2.2 i (by omega) i1 (by rw [i2, i3]; exact hb) v x hv (by rw [i2, i3]; exact hd)
      exact ⟨j, a, b, by rw [c, i2, i3, hy], by omega⟩
theorem q_SK.min {f : q_Fl} {x0 y0 T : Nat} {X Y K : Nat → Nat} {H : Nat} (s : q_SK f x0 y0 T X Y K H) (hT : T ≤ H) {c : Option Nat} (cu : q_cu f T X Y K H c) : c = q_M f x0 y0 := by
  refine q_M_eq c (fun hc => ?_) (fun k hk => ?_)
  · rintro ⟨k, n, w, x, y, -, he, hb⟩
    obtain ⟨j, j1, j2, j3, -⟩ := s.all hT n w x y he
    exact cu.1 hc j (by omega) j1 (by rw [j2, j3]; exact hb)
  · obtain ⟨⟨i, i1, i2, i3, i4⟩, mn⟩ := cu.2 k hk
    refine ⟨⟨K i / 4, K i % 4, X i, Y i, by omega, (s.1.2.1 i i2).1, i3⟩, ?_⟩
    rintro j ⟨n, w, x, y, e, he, hb⟩
    obtain ⟨a, a1, a2, a3, a4⟩ := s.all hT n w x y he
    have := mn a (by omega) a1 (by rw [a2, a3]; exact hb)
    omega
theorem q_SK.cells {f : q_Fl} {x0 y0 T : Nat} {X Y K : Nat → Nat} {H : Nat} (s : q_SK f x0 y0 T X Y K H) (hT : T ≤ H) {cw : Int64} (ce : q_ce f y0 T X Y H cw) (c : Nat) (hc : c < 64) : q_bit cw c = q_RcB f x0 y0 c := by
  have e : q_bit cw c = true ↔ q_RcB f x0 y0 c = true := by
    rw [q_RcB_iff, ce c hc]
    constructor
    · intro w
      rcases w with w | ⟨i, i1, i2, i3⟩
      · exact Or.inl w
      · exact Or.inr ⟨_, _, _, _, (s.1.2.1 i i2).1, i3⟩
    · intro w
      rcases w with w | ⟨n, w, x, y, he, hb⟩
      · exact Or.inl w
      · obtain ⟨j, j1, j2, j3, -⟩ := s.all hT n w x y he
        exact Or.inr ⟨j, by omega, j1, by rw [j2, j3]; exact hb⟩
  cases h1 : q_bit cw c <;> cases h2 : q_RcB f x0 y0 c
  · rfl
  · rw [h1, h2] at e; exact absurd (e.mpr rfl) (by decide)
  · rw [h1, h2] at e; exact absurd (e.mp rfl) (by decide)
  · rfl
def q_chx (h h' : am_H) : Prop := h'.2.2 = h.2.2 ∧ (∀ a j, a ≠ 178 → a ≠ 182 → a ≠ 183 → a ≠ 202 → a ≠ 204 → h'.1 a j = h.1 a j) ∧ ∀ a j, a ≠ 203 → h'.2.1 a j = h.2.1 a j
theorem q_chx.rf (h : am_H) : q_chx h h := ⟨rfl, fun _ _ _ _ _ _ _ => rfl, fun _ _ _ => rfl⟩
theorem q_chx.tr {h h' h'' : am_H} (x : q_chx h h') (y : q_chx h' h'') : q_chx h h'' := ⟨y.1.trans x.1, fun a j p1 p2 p3 p4 p5 => (y.2.1 a j p1 p2 p3 p4 p5).trans (x.2.1 a j p1 p2 p3 p4 p5), fun a j p => (y.2.2 a j p).trans (x.2.2 a j p)⟩
theorem q_chf.x {h h' : am_H} (f : q_chf h h') : q_chx h h' := ⟨f.1, fun a j p1 p2 p3 p4 p5 => f.2.1 a j p1 p2 p3 (fun w => absurd w p4) p5, f.2.2⟩
theorem q_chx.ok {h h' : am_H} (f : q_chx h h') (ok : am_okH h) : am_okH h' := ok.of f.1
theorem q_chx.wk {h h' : am_H} (f : q_chx h h') (ok : am_okH h) : q_wk h h' := ⟨f.ok ok, by rw [f.1], fun a k w => ⟨f.2.1 a k (by unfold q_told at w; omega) (by unfold q_told at w; omega) (by unfold q_told at w; omega) (by unfold q_told at w; omega) (by unfold q_told at w; omega), f.2.2 a k (by unfold q_told at w; omega)⟩⟩
set_option maxHeartbeats 2000000 in
theorem q_sk_l (f : q_Fl) (wf : F_wf f) (h1 : F_n f = 1) (x0 y0 : Nat) (hx0 : F_in f x0) (hy0 : F_in f y0) (hp0 : y0 ≠ F_pen f) : ∀ (r H T : Nat) (X Y K : Nat → Nat) (h : am_H) (g : q_G) (cw : Int64) (cur : Option Nat) (z5 z6 : Option Value), H + r = 4096 → am_okH h → q_cg h 178 196 f g → G_lies g = false → G_back g = false → q_hC h T X Y K → q_SK f x0 y0 T X Y K H → q_cu f T X Y K H cur → q_ce f y0 T X Y H cw → h.1 202 0 = q_c0 cur → h.1 202 1 = q_c1 cur → ∃ (h' : am_H) (T' : Nat) (X' Y' K' : Nat → Nat) (H' : Nat) (cw' : Int64) (cur' : Option Nat) (z4 z5' z6' : Option Value), q_chx h h' ∧ T' ≤ H' ∧ q_SK f x0 y0 T' X' Y' K' H' ∧ q_cu f T' X' Y' K' H' cur' ∧ q_ce f y0 T' X' Y' H' cw' ∧ h'.1 202 0 = q_c0 cur' ∧ h'.1 202 1 = q_c1 cur' ∧ am_ev 85 42 [some (.ref 202), some (.ref 178), some (.long cw), some (.retAddr 0), some (.int (nI H)), z5, z6] [] h = am_ev 85 176 [some (.ref 202), some (.ref 178), some (.long cw'), some (.retAddr 0), z4, z5', z6'] [] h' := by
  intro r
  induction r with
  | zero =>
    intro H T X Y K h g cw cur z5 z6 hr ok cg gl gb hC sk cu ce e0 e1
    obtain rfl : H = 4096 := by omega
    have T1 := sk.1.1
    have hle : nI T ≤ nI 4096 := nI_le T1 (by decide)
    refine ⟨h, T, X, Y, K, 4096, cw, cur, some (.int (nI 4096)), z5, z6, q_chx.rf h, T1, sk, cu, ce, e0, e1, ?_⟩
    rw [e85_42]
    simp only [e85_0, e85_1, e85_2, e85_5, e85_6, e85_7, e85_10, e85_11, e85_14, e85_15, e85_18, e85_19, e85_20, e85_23, e85_24, e85_25, e85_28, e85_29, e85_30, e85_31, e85_32, e85_33, e85_34, e85_35, e85_36, e85_39, e85_40, e85_44, e85_45, e85_48, e85_51, e85_53, e85_54, e85_57, e85_58, e85_61, e85_62, e85_65, e85_67, e85_68, e85_70, e85_71, e85_73, e85_75, e85_76, e85_79, e85_80, e85_83, e85_84, e85_86, e85_88, e85_89, e85_91, e85_92, e85_93, e85_94, e85_95, e85_98, e85_99, e85_100, e85_103, e85_104, e85_105, e85_106, e85_107, e85_110, e85_111, e85_112, e85_113, e85_114, e85_115, e85_117, e85_119, e85_120, e85_121, e85_122, e85_124, e85_125, e85_126, e85_129, e85_132, e85_133, e85_134, e85_136, e85_138, e85_140, e85_141, e85_144, e85_147, e85_148, e85_151, e85_152, e85_155, e85_156, e85_158, e85_160, e85_161, e85_164, e85_165, e85_167, e85_170, e85_173, e85_177, e85_178, e85_181, e85_184, am_bd_some, Option.toList_some, Option.toList_none, List.cons_append, List.nil_append, am_w8_0, am_w8_1, am_w8_2, am_w8_3, am_w8_4, eq_self, or_true, true_or, am_kd_sI, am_kd_sL, am_kd_sR, am_tc_sI, am_tc_sL, am_tc_sR, am_len_sI, am_len_sL, am_len_sR, am_rfs, if_true, if_false, am_rdL_sI, am_rR_sL, am_rt_cq, am_kd_cq, am_tc_cq, am_len_cq, am_rd_sL, am_rd_sR, am_rdL_sR, okK_202 ok, hC.1, hle]
  | succ r ih =>
    intro H T X Y K h g cw cur z5 z6 hr ok cg gl gb hC sk cu ce e0 e1
    have T1 := sk.1.1
    by_cases hHT : H < T
    · have hle : ¬ nI T ≤ nI H := nI_ge hHT (by omega)
      have hl2 : ¬ (Int32.ofNat 4096 : Int32) ≤ nI H := fun w => nI_ge (b := 4096) (a := H) (by omega) (by decide) w
      have xH : am_ix (nI H) 4096 = true := am_ix_nI (by omega) (by decide)
      have zH : (nI H).toNatClampNeg = H := nI_clamp (by omega)
      have rH := hC.2.1 H hHT
      obtain ⟨EH, bH⟩ := sk.1.2.1 H hHT
      obtain ⟨⟨w4, -⟩, hx, hy, hyp, hxp, hxy⟩ := q_E_ok wf h1 hx0 hy0 hp0 _ _ _ _ EH
      obtain ⟨n1, n2, n3, n4⟩ := q_en_get (x := X H) (y := Y H) (K := K H) hx.1 hy.1 (by omega)
      have x0' : am_ix 0 6 = true := by decide
      have z0' : (0 : Int32).toNatClampNeg = 0 := rfl
      let ha : am_H := am_sI (am_sI (am_sI h 178 1 (nI (X H))) 182 0 (nI (Y H))) 178 2 0
      have cga : q_cg ha 178 196 f (G_sx (X H) (Y H) (G_min g) (G_went g 0)) := q_cg_set cg h1 gl gb (X H) (Y H)
      have oka : am_okH ha := ok
      have fa : q_chf h ha := ⟨rfl, fun a j p1 p2 _ _ _ => by
        show (am_sI (am_sI (am_sI h 178 1 (nI (X H))) 182 0 (nI (Y H))) 178 2 0).1 a j = _
        rw [am_rd_sI, if_neg (fun w => p1 w.1), am_rd_sI, if_neg (fun w => p2 w.1), am_rd_sI, if_neg (fun w => p1 w.1)], fun _ _ _ => rfl⟩
      obtain ⟨hb, fb, gb', sb⟩ := den_goes ha 178 196 f _ cga wf (G_sx_in hx hy) 0 (by omega)
      rw [nI_0] at sb
      have okb : am_okH hb := oka.of (congrArg Prod.snd fb.1)
      have eat : hb.1 182 0 = nI (N_b f (X H) (Y H)) := by
        rw [← N_b_eq f (X H) (Y H) (G_min g) (G_went g 0)]
        exact gb'.2.2.2.1 0 (by omega)
      have bi := N_b_in wf h1 hx hy
      have gpi := G_go_pi wf (G_sx_in hx hy) (G_sx_pi (x := X H) (m := G_min g) (w := G_went g 0) hyp) (b := 0) (by omega)
      have gin := G_go_in wf (G_sx_in (m := G_min g) (w := G_went g 0) hx hy) (b := 0) (by omega)
      have dp := den_isPenned hb 178 196 f _ gb' gin 0 (by decide)
      have pe : G_pnd (G_go f (G_sx (X H) (Y H) (G_min g) (G_went g 0)) 0) 0 = decide (N_b f (X H) (Y H) = F_pen f) := by
        rw [gpi 0 (by omega), N_b_eq]
      rw [pe, nI_0] at dp
      have fab : q_chf h hb := fa.tr fb.chf
      have hCb : q_hC hb T X Y K := hC.cg (by rw [fb.2 _ _ (by decide) (by decide) (by decide)]; rfl) (fun i => by rw [fb.2 _ _ (by decide) (by decide) (by decide)]; rfl) (fun x => by rw [fb.1]; rfl)
      -- what 204 and 202 hold is as it was
      have e202 : ∀ j, hb.1 202 j = h.1 202 j := fun j => by rw [fb.2 _ _ (by decide) (by decide) (by decide)]; rfl
      have ceN : ∀ (T' : Nat) (X' Y' K' : Nat → Nat), q_pfx T X Y K T' X' Y' K' → q_ce f y0 T' X' Y' (H + 1) (cw ||| ((1 : Int64) <<< ((nI (N_b f (X H) (Y H))).toInt64 &&& 63))) := fun T' X' Y' K' p c hc => by
        rw [q_bit_or _ _ c bi.1 hc, Bool.or_eq_true, decide_eq_true_eq, ce c hc]
        have pH := p.2 H hHT
        constructor
        · intro q
          rcases q with (q | ⟨i, i1, i2, i3⟩) | q
          · exact Or.inl q
          · obtain ⟨q1, q2, -⟩ := p.2 i i2
            exact Or.inr ⟨i, by omega, by have := p.1; omega, by rw [q1, q2]; exact i3⟩
          · exact Or.inr ⟨H, by omega, by have := p.1; omega, by rw [pH.1, pH.2.1]; exact q.symm⟩
        · intro q
          rcases q with q | ⟨i, i1, i2, i3⟩
          · exact Or.inl (Or.inl q)
          · by_cases ci : i = H
            · rw [ci, pH.1, pH.2.1] at i3
              exact Or.inr i3.symm
            · obtain ⟨q1, q2, -⟩ := p.2 i (by omega)
              rw [q1, q2] at i3
              exact Or.inl (Or.inr ⟨i, by omega, by omega, i3⟩)
      have s1 : am_ev 85 42 [some (.ref 202), some (.ref 178), some (.long cw), some (.retAddr 0), some (.int (nI H)), z5, z6] [] h = am_ev 85 98 [some (.ref 202), some (.ref 178), some (.long cw), some (.retAddr 0), some (.int (nI H)), some (.int (nI (q_en (X H) (Y H) (K H)))), z6] [] ha := by
        rw [e85_42]
        simp only [e85_0, e85_1, e85_2, e85_5, e85_6, e85_7, e85_10, e85_11, e85_14, e85_15, e85_18, e85_19, e85_20, e85_23, e85_24, e85_25, e85_28, e85_29, e85_30, e85_31, e85_32, e85_33, e85_34, e85_35, e85_36, e85_39, e85_40, e85_44, e85_45, e85_48, e85_51, e85_53, e85_54, e85_57, e85_58, e85_61, e85_62, e85_65, e85_67, e85_68, e85_70, e85_71, e85_73, e85_75, e85_76, e85_79, e85_80, e85_83, e85_84, e85_86, e85_88, e85_89, e85_91, e85_92, e85_93, e85_94, e85_95, e85_99, e85_100, e85_103, e85_104, e85_105, e85_106, e85_107, e85_110, e85_111, e85_112, e85_113, e85_114, e85_115, e85_117, e85_119, e85_120, e85_121, e85_122, e85_124, e85_125, e85_126, e85_129, e85_132, e85_133, e85_134, e85_136, e85_138, e85_140, e85_141, e85_144, e85_147, e85_148, e85_151, e85_152, e85_155, e85_156, e85_158, e85_160, e85_161, e85_164, e85_165, e85_167, e85_170, e85_173, e85_177, e85_178, e85_181, e85_184, am_bd_some, Option.toList_some, Option.toList_none, List.cons_append, List.nil_append, am_w8_0, am_w8_1, am_w8_2, am_w8_3, am_w8_4, eq_self, or_true, true_or, am_kd_sI, am_kd_sL, am_kd_sR, am_tc_sI, am_tc_sL, am_tc_sR, am_len_sI, am_len_sL, am_len_sR, am_rfs, if_true, if_false, am_rdL_sI, am_rR_sL, am_rt_cq, am_kd_cq, am_tc_cq, am_len_cq, am_rd_sL, am_rd_sR, am_rdL_sR, okK_202 ok, okR_202_4 ok, okT_204 ok, okL_204 ok, hC.1, hle, e85_57 (okT_204 ok) (Nat.zero_le _), hl2, xH, zH, rH, n1, n2, okK_178 ok, okR_178_3 ok, okT_182 ok, okL_182 ok, x0', z0']
        rfl
      have s2 : am_ev 85 98 [some (.ref 202), some (.ref 178), some (.long cw), some (.retAddr 0), some (.int (nI H)), some (.int (nI (q_en (X H) (Y H) (K H)))), z6] [] ha = am_ev 85 124 [some (.ref 202), some (.ref 178), some (.long (cw ||| ((1 : Int64) <<< ((nI (N_b f (X H) (Y H))).toInt64 &&& 63)))), some (.retAddr 0), some (.int (nI H)), some (.int (nI (q_en (X H) (Y H) (K H)))), some (.int (nI (K H % 4)))] [] hb := by
        simp only [e85_0, e85_1, e85_2, e85_5, e85_6, e85_7, e85_10, e85_11, e85_14, e85_15, e85_18, e85_19, e85_20, e85_23, e85_24, e85_25, e85_28, e85_29, e85_30, e85_31, e85_32, e85_33, e85_34, e85_35, e85_36, e85_39, e85_40, e85_44, e85_45, e85_48, e85_51, e85_53, e85_54, e85_57, e85_58, e85_61, e85_62, e85_65, e85_67, e85_68, e85_70, e85_71, e85_73, e85_75, e85_76, e85_79, e85_80, e85_83, e85_84, e85_86, e85_88, e85_89, e85_91, e85_92, e85_93, e85_94, e85_95, e85_98, e85_99, e85_100, e85_103, e85_104, e85_105, e85_106, e85_107, e85_110, e85_111, e85_112, e85_113, e85_114, e85_115, e85_117, e85_119, e85_120, e85_121, e85_122, e85_125, e85_126, e85_129, e85_132, e85_133, e85_134, e85_136, e85_138, e85_140, e85_141, e85_144, e85_147, e85_148, e85_151, e85_152, e85_155, e85_156, e85_158, e85_160, e85_161, e85_164, e85_165, e85_167, e85_170, e85_173, e85_177, e85_178, e85_181, e85_184, am_bd_some, Option.toList_some, Option.toList_none, List.cons_append, List.nil_append, am_w8_0, am_w8_1, am_w8_2, am_w8_3, am_w8_4, eq_self, or_true, true_or, am_kd_sI, am_kd_sL, am_kd_sR, am_tc_sI, am_tc_sL, am_tc_sR, am_len_sI, am_len_sL, am_len_sR, am_rfs, if_true, if_false, am_rdL_sI, am_rR_sL, am_rt_cq, am_kd_cq, am_tc_cq, am_len_cq, am_rd_sL, am_rd_sR, am_rdL_sR, okK_178 oka, sb, okK_178 okb, okR_178_3 okb, okT_182 okb, okL_182 okb, x0', z0', eat, n3]
      by_cases cp : N_b f (X H) (Y H) = F_pen f
      · rw [decide_eq_true cp] at dp
        have y : ¬ q_bi true = 0 := by decide
        have lb := G_go_lb f (G_sx (X H) (Y H) (G_min g) (G_went g 0)) 0
        have skN : q_SK f x0 y0 T X Y K (H + 1) := by
          refine ⟨sk.1, fun hl j hj => ?_, sk.2.2.1, fun i i1 i2 i3 => ?_⟩
          · have := sk.2.1 hHT j hj
            have := sk.1.2.2.2 H (H + 1) (by omega) hl
            omega
          · by_cases ci : i = H
            · rw [ci] at i3; exact absurd cp i3
            · exact sk.2.2.2 i (by omega) i2 i3
        have ceN' := ceN T X Y K (q_pfx.rf _ _ _ _)
        cases hc : cur with
        | none =>
          rw [hc] at e0 e1 cu
          have c0 : hb.1 202 0 = -1 := (e202 0).trans e0
          let hc' : am_H := am_sI (am_sI hb 202 0 (nI (K H / 4))) 202 1 (nI (K H % 4))
          have fc : q_chx hb hc' := ⟨rfl, fun a j _ _ _ p4 _ => by
            show (am_sI (am_sI hb 202 0 (nI (K H / 4))) 202 1 (nI (K H % 4))).1 a j = _
            rw [am_rd_sI, if_neg (fun w => p4 w.1), am_rd_sI, if_neg (fun w => p4 w.1)], fun _ _ _ => rfl⟩
          have cgc : q_cg hc' 178 196 f _ := q_cg_of rfl (fun a k w => by
            show (am_sI (am_sI hb 202 0 (nI (K H / 4))) 202 1 (nI (K H % 4))).1 a k = _
            rw [am_rd_sI, if_neg (by omega), am_rd_sI, if_neg (by omega)]) rfl gb'
          have okc : am_okH hc' := okb
          have cuN : q_cu f T X Y K (H + 1) (some (K H)) := by
            refine ⟨fun q => (by cases q), fun k hk => ?_⟩
            cases hk
            refine ⟨⟨H, by omega, hHT, cp, rfl⟩, fun j j1 j2 j3 => ?_⟩
            by_cases cj : j = H
            · rw [cj]; exact Nat.le_refl _
            · exact absurd j3 (cu.1 rfl j (by omega) j2)
          obtain ⟨h3, T3, X3, Y3, K3, H3, cw3, cur3, z4, z5', z6', f3, l3, sk3, cu3, ce3, a0, a1, s3⟩ := ih (H + 1) T X Y K hc' _ _ (some (K H)) (some (.int (nI (q_en (X H) (Y H) (K H))))) (some (.int (nI (K H % 4)))) (by omega) okc cgc lb.1 lb.2 (hCb.cg rfl (fun _ => rfl) (fun _ => rfl)) skN cuN ceN' rfl rfl
          refine ⟨h3, T3, X3, Y3, K3, H3, cw3, cur3, z4, z5', z6', (fab.x.tr fc).tr f3, l3, sk3, cu3, ce3, a0, a1, ?_⟩
          rw [s1, s2]
          simp only [e85_0, e85_1, e85_2, e85_5, e85_6, e85_7, e85_10, e85_11, e85_14, e85_15, e85_18, e85_19, e85_20, e85_23, e85_24, e85_25, e85_28, e85_29, e85_30, e85_31, e85_32, e85_33, e85_34, e85_35, e85_36, e85_39, e85_40, e85_44, e85_45, e85_48, e85_51, e85_53, e85_54, e85_57, e85_58, e85_61, e85_62, e85_65, e85_67, e85_68, e85_70, e85_71, e85_73, e85_75, e85_76, e85_79, e85_80, e85_83, e85_84, e85_86, e85_88, e85_89, e85_91, e85_92, e85_93, e85_94, e85_95, e85_98, e85_99, e85_100, e85_103, e85_104, e85_105, e85_106, e85_107, e85_110, e85_111, e85_112, e85_113, e85_114, e85_115, e85_117, e85_119, e85_120, e85_121, e85_122, e85_124, e85_125, e85_126, e85_129, e85_132, e85_133, e85_134, e85_136, e85_138, e85_140, e85_141, e85_144, e85_147, e85_148, e85_151, e85_152, e85_155, e85_156, e85_158, e85_160, e85_161, e85_164, e85_165, e85_167, e85_170, e85_173, e85_177, e85_178, e85_181, e85_184, am_bd_some, Option.toList_some, Option.toList_none, List.cons_append, List.nil_append, am_w8_0, am_w8_1, am_w8_2, am_w8_3, am_w8_4, eq_self, or_true, true_or, am_kd_sI, am_kd_sL, am_kd_sR, am_tc_sI, am_tc_sL, am_tc_sR, am_len_sI, am_len_sL, am_len_sR, am_rfs, if_true, if_false, am_rdL_sI, am_rR_sL, am_rt_cq, am_kd_cq, am_tc_cq, am_len_cq, am_rd_sL, am_rd_sR, am_rdL_sR, okK_178 okb, dp, y, not_false_eq_true, okK_202 okb, c0, not_true, n4, nI_1]
          exact s3
        | some k =>
          rw [hc] at e0 e1 cu
          have c0 : hb.1 202 0 = nI (k / 4) := (e202 0).trans e0
          obtain ⟨⟨i, i1, i2, i3, i4⟩, mn⟩ := cu.2 k rfl
          have ki := (sk.1.2.1 i i2).2
          have nk : ¬ nI (k / 4) = -1 := q_m1_n _ (by omega)
          have cuN : q_cu f T X Y K (H + 1) (some k) := by
            refine ⟨fun q => (by cases q), fun k' hk => ?_⟩
            cases hk
            refine ⟨⟨i, by omega, i2, i3, i4⟩, fun j j1 j2 j3 => ?_⟩
            by_cases cj : j = H
            · rw [cj, ← i4]; exact sk.1.2.2.2 i H (by omega) hHT
            · exact mn j (by omega) j2 j3
          obtain ⟨h3, T3, X3, Y3, K3, H3, cw3, cur3, z4, z5', z6', f3, l3, sk3, cu3, ce3, a0, a1, s3⟩ := ih (H + 1) T X Y K hb _ _ (some k) (some (.int (nI (q_en (X H) (Y H) (K H))))) (some (.int (nI (K H % 4)))) (by omega) okb gb' lb.1 lb.2 hCb skN cuN ceN' ((e202 0).trans e0) ((e202 1).trans e1)
          refine ⟨h3, T3, X3, Y3, K3, H3, cw3, cur3, z4, z5', z6', fab.x.tr f3, l3, sk3, cu3, ce3, a0, a1, ?_⟩
          rw [s1, s2]
          simp only [e85_0, e85_1, e85_2, e85_5, e85_6, e85_7, e85_10, e85_11, e85_14, e85_15, e85_18, e85_19, e85_20, e85_23, e85_24, e85_25, e85_28, e85_29, e85_30, e85_31, e85_32, e85_33, e85_34, e85_35, e85_36, e85_39, e85_40, e85_44, e85_45, e85_48, e85_51, e85_53, e85_54, e85_57, e85_58, e85_61, e85_62, e85_65, e85_67, e85_68, e85_70, e85_71, e85_73, e85_75, e85_76, e85_79, e85_80, e85_83, e85_84, e85_86, e85_88, e85_89, e85_91, e85_92, e85_93, e85_94, e85_95, e85_98, e85_99, e85_100, e85_103, e85_104, e85_105, e85_106, e85_107, e85_110, e85_111, e85_112, e85_113, e85_114, e85_115, e85_117, e85_119, e85_120, e85_121, e85_122, e85_124, e85_125, e85_126, e85_129, e85_132, e85_133, e85_134, e85_136, e85_138, e85_140, e85_141, e85_144, e85_147, e85_148, e85_151, e85_152, e85_155, e85_156, e85_158, e85_160, e85_161, e85_164, e85_165, e85_167, e85_170, e85_173, e85_177, e85_178, e85_181, e85_184, am_bd_some, Option.toList_some, Option.toList_none, List.cons_append, List.nil_append, am_w8_0, am_w8_1, am_w8_2, am_w8_3, am_w8_4, eq_self, or_true, true_or, am_kd_sI, am_kd_sL, am_kd_sR, am_tc_sI, am_tc_sL, am_tc_sR, am_len_sI, am_len_sL, am_len_sR, am_rfs, if_true, if_false, am_rdL_sI, am_rR_sL, am_rt_cq, am_kd_cq, am_tc_cq, am_len_cq, am_rd_sL, am_rd_sR, am_rdL_sR, okK_178 okb, dp, y, not_false_eq_true, okK_202 okb, c0, nk, nI_1]
          exact s3
      · rw [decide_eq_false cp] at dp
        have y : q_bi false = 0 := rfl
        have lb := G_go_lb f (G_sx (X H) (Y H) (G_min g) (G_went g 0)) 0
        have gp0 : G_pen (G_go f (G_sx (X H) (Y H) (G_min g) (G_went g 0)) 0) = 0 := by
          rcases G_go_p01 f (G_sx (X H) (Y H) (G_min g) (G_went g 0)) (Or.inl rfl) with q | q
          · exact q
          · exfalso
            have : G_pnd (G_go f (G_sx (X H) (Y H) (G_min g) (G_went g 0)) 0) 0 = true := by
              unfold G_pnd
              rw [q]
              decide
            rw [pe, decide_eq_false cp] at this
            cases this
        have cgs := q_cg_sx gb' h1 gp0 lb.1 lb.2
        rw [G_go_dog, N_b_eq] at cgs
        have cgs' : q_cg hb 178 196 f (G_sx (X H) (N_b f (X H) (Y H)) (G_min (G_go f (G_sx (X H) (Y H) (G_min g) (G_went g 0)) 0)) (G_went (G_go f (G_sx (X H) (Y H) (G_min g) (G_went g 0)) 0) 0)) := cgs
        have bg : ¬ nI (K H % 4) = -1 := q_m1_n _ (by omega)
        obtain ⟨hd, T2, X2, Y2, K2, xd2, fd, cg2, xi2, hC2, cq2, p2, e2, k2, sd⟩ := den_goOn f wf h1 x0 y0 hx0 hy0 hp0 (X H) (N_b f (X H) (Y H)) hx bi cp (nI (K H % 4)) (fun _ => K H % 4) (K H / 4) (fun d _ => Or.inr ⟨bg, rfl⟩) (fun _ _ => Nat.le_refl _) (fun _ _ _ _ => Nat.le_refl _) (fun d t hd' ht => Or.inr ⟨X H, Y H, d, hd', EH, cp, ht, rfl⟩) T X Y K hb _ _ okb cgs' hCb sk.1 (fun j e hj _ => by have := sk.2.1 hHT j hj; omega) (by omega)
        have okd := fd.ok okb
        have pH := p2.2 H hHT
        have skN : q_SK f x0 y0 T2 X2 Y2 K2 (H + 1) := by
          refine ⟨cq2, fun hl j hj => ?_, fun w t hw ht => ?_, fun i i1 i2 i3 v t hv ht => ?_⟩
          · have a1 := k2 j hj
            have a2 := cq2.2.2.2 H (H + 1) (by omega) hl
            rw [pH.2.2] at a2
            omega
          · obtain ⟨j, j1, j2, j3, j4⟩ := sk.2.2.1 w t hw ht
            obtain ⟨q1, q2, q3⟩ := p2.2 j j1
            exact ⟨j, Nat.lt_of_lt_of_le j1 p2.1, q1.trans j2, q2.trans j3, by rw [q3]; exact j4⟩
          · by_cases ci : i = H
            · rw [ci, pH.1, pH.2.1] at ht i3 ⊢
              rw [pH.2.2]
              obtain ⟨j, j1, j2, j3, j4⟩ := e2 v t hv ht
              exact ⟨j, j1, j2, j3, by omega⟩
            · have iT : i < T := by omega
              obtain ⟨q1, q2, q3⟩ := p2.2 i iT
              rw [q1, q2] at ht i3 ⊢
              rw [q3]
              obtain ⟨j, j1, j2, j3, j4⟩ := sk.2.2.2 i (by omega) iT i3 v t hv ht
              obtain ⟨u1, u2, u3⟩ := p2.2 j j1
              exact ⟨j, Nat.lt_of_lt_of_le j1 p2.1, u1.trans j2, u2.trans j3, by rw [u3]; exact j4⟩
        have cuN : q_cu f T2 X2 Y2 K2 (H + 1) cur := by
          refine ⟨fun hc i i1 i2 => ?_, fun k hk => ?_⟩
          · by_cases ci : i = H
            · rw [ci, pH.1, pH.2.1]; exact cp
            · obtain ⟨q1, q2, -⟩ := p2.2 i (by omega)
              rw [q1, q2]
              exact cu.1 hc i (by omega) (by omega)
          · obtain ⟨⟨i, i1, i2, i3, i4⟩, mn⟩ := cu.2 k hk
            obtain ⟨q1, q2, q3⟩ := p2.2 i i2
            refine ⟨⟨i, by omega, Nat.lt_of_lt_of_le i2 p2.1, by rw [q1, q2]; exact i3, q3.trans i4⟩, fun j j1 j2 j3 => ?_⟩
            by_cases cj : j = H
            · rw [cj, pH.1, pH.2.1] at j3; exact absurd j3 cp
            · obtain ⟨u1, u2, u3⟩ := p2.2 j (by omega)
              rw [u1, u2] at j3
              rw [u3]
              exact mn j (by omega) (by omega) j3
        have d202 : ∀ j, j ≠ 5 → hd.1 202 j = h.1 202 j := fun j hj => by rw [fd.2.1 _ _ (by decide) (by decide) (by decide) (fun _ => hj) (by decide)]; exact e202 j
        obtain ⟨h3, T3, X3, Y3, K3, H3, cw3, cur3, z4, z5', z6', f3, l3, sk3, cu3, ce3, a0, a1, s3⟩ := ih (H + 1) T2 X2 Y2 K2 hd _ _ cur (some (.int (nI (q_en (X H) (Y H) (K H))))) (some (.int (nI (K H % 4)))) (by omega) okd cg2 rfl rfl hC2 skN cuN (ceN T2 X2 Y2 K2 p2) ((d202 0 (by decide)).trans e0) ((d202 1 (by decide)).trans e1)
        refine ⟨h3, T3, X3, Y3, K3, H3, cw3, cur3, z4, z5', z6', (fab.x.tr fd.x).tr f3, l3, sk3, cu3, ce3, a0, a1, ?_⟩
        rw [s1, s2]
        simp only [e85_0, e85_1, e85_2, e85_5, e85_6, e85_7, e85_10, e85_11, e85_14, e85_15, e85_18, e85_19, e85_20, e85_23, e85_24, e85_25, e85_28, e85_29, e85_30, e85_31, e85_32, e85_33, e85_34, e85_35, e85_36, e85_39, e85_40, e85_44, e85_45, e85_48, e85_51, e85_53, e85_54, e85_57, e85_58, e85_61, e85_62, e85_65, e85_67, e85_68, e85_70, e85_71, e85_73, e85_75, e85_76, e85_79, e85_80, e85_83, e85_84, e85_86, e85_88, e85_89, e85_91, e85_92, e85_93, e85_94, e85_95, e85_98, e85_99, e85_100, e85_103, e85_104, e85_105, e85_106, e85_107, e85_110, e85_111, e85_112, e85_113, e85_114, e85_115, e85_117, e85_119, e85_120, e85_121, e85_122, e85_124, e85_125, e85_126, e85_129, e85_132, e85_133, e85_134, e85_136, e85_138, e85_140, e85_141, e85_144, e85_147, e85_148, e85_151, e85_152, e85_155, e85_156, e85_158, e85_160, e85_161, e85_164, e85_165, e85_167, e85_170, e85_173, e85_177, e85_178, e85_181, e85_184, am_bd_some, Option.toList_some, Option.toList_none, List.cons_append, List.nil_append, am_w8_0, am_w8_1, am_w8_2, am_w8_3, am_w8_4, eq_self, or_true, true_or, am_kd_sI, am_kd_sL, am_kd_sR, am_tc_sI, am_tc_sL, am_tc_sR, am_len_sI, am_len_sL, am_len_sR, am_rfs, if_true, if_false, am_rdL_sI, am_rR_sL, am_rt_cq, am_kd_cq, am_tc_cq, am_len_cq, am_rd_sL, am_rd_sR, am_rdL_sR, okK_178 okb, dp, y, not_true, okK_202 okb, n4, sd, nI_1]
        exact s3
    · have hle : nI T ≤ nI H := nI_le (by omega) (by omega)
      refine ⟨h, T, X, Y, K, H, cw, cur, some (.int (nI H)), z5, z6, q_chx.rf h, by omega, sk, cu, ce, e0, e1, ?_⟩
      rw [e85_42]
      simp only [e85_0, e85_1, e85_2, e85_5, e85_6, e85_7, e85_10, e85_11, e85_14, e85_15, e85_18, e85_19, e85_20, e85_23, e85_24, e85_25, e85_28, e85_29, e85_30, e85_31, e85_32, e85_33, e85_34, e85_35, e85_36, e85_39, e85_40, e85_44, e85_45, e85_48, e85_51, e85_53, e85_54, e85_57, e85_58, e85_61, e85_62, e85_65, e85_67, e85_68, e85_70, e85_71, e85_73, e85_75, e85_76, e85_79, e85_80, e85_83, e85_84, e85_86, e85_88, e85_89, e85_91, e85_92, e85_93, e85_94, e85_95, e85_98, e85_99, e85_100, e85_103, e85_104, e85_105, e85_106, e85_107, e85_110, e85_111, e85_112, e85_113, e85_114, e85_115, e85_117, e85_119, e85_120, e85_121, e85_122, e85_124, e85_125, e85_126, e85_129, e85_132, e85_133, e85_134, e85_136, e85_138, e85_140, e85_141, e85_144, e85_147, e85_148, e85_151, e85_152, e85_155, e85_156, e85_158, e85_160, e85_161, e85_164, e85_165, e85_167, e85_170, e85_173, e85_177, e85_178, e85_181, e85_184, am_bd_some, Option.toList_some, Option.toList_none, List.cons_append, List.nil_append, am_w8_0, am_w8_1, am_w8_2, am_w8_3, am_w8_4, eq_self, or_true, true_or, am_kd_sI, am_kd_sL, am_kd_sR, am_tc_sI, am_tc_sL, am_tc_sR, am_len_sI, am_len_sL, am_len_sR, am_rfs, if_true, if_false, am_rdL_sI, am_rR_sL, am_rt_cq, am_kd_cq, am_tc_cq, am_len_cq, am_rd_sL, am_rd_sR, am_rdL_sR, okK_202 ok, hC.1, hle]
