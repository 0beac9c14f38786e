/-! part 85: the reference's walk -/
theorem q_sm_up (W : Nat → Nat) (m v : Nat) : ∀ n, m < n → q_sm (q_up W m v) 0 n + W m = q_sm W 0 n + v := by
  intro n
  induction n with
  | zero => intro h; omega
  | succ n ih =>
    intro h
    rw [q_sm, q_sm, Nat.zero_add]
    by_cases c : m < n
    · have := ih c
      have e : q_up W m v n = W n := if_neg (by omega)
      rw [e]
      omega
    · obtain rfl : m = n := by omega
      have e : q_up W m v m = v := if_pos rfl
      have e2 : ∀ k, k ≤ m → q_sm (q_up W m v) 0 k = q_sm W 0 k := by
        intro k
        induction k with
        | zero => intro _; rfl
        | succ k ihk =>
          intro hk
          rw [q_sm, q_sm, Nat.zero_add, ihk (by omega)]
          have : q_up W m v k = W k := if_neg (by omega)
          rw [this]
      rw [e, e2 m (Nat.le_refl _)]
      omega
def q_mwl (h h' : am_H) : Prop := h'.2 = h.2 ∧ ∀ a k, a ≠ 230 → h'.1 a k = h.1 a k
theorem q_mwl.rf (h : am_H) : q_mwl h h := ⟨rfl, fun _ _ _ => rfl⟩
theorem q_mwl.tr {h h' h'' : am_H} (a : q_mwl h h') (b : q_mwl h' h'') : q_mwl h h'' := ⟨b.1.trans a.1, fun x k p1 => (b.2 x k p1).trans (a.2 x k p1)⟩
theorem q_mwl.wk {h h' : am_H} (f : q_mwl h h') (ok : am_okH h) : q_wk h h' := ⟨ok.of (congrArg Prod.snd f.1), by rw [f.1], fun a k w => ⟨f.2 a k (by unfold q_told at w; omega), by rw [f.1]⟩⟩
theorem q_mwl.mg {h h' : am_H} (w : q_mwl h h') {f : q_Fl} {g : q_G} (m : q_mg h f g) : q_mg h' f g := by
  obtain ⟨⟨ok, a1, a2, a3, a4, a5, a6, a7⟩, ⟨e1, e2, e3, e4, e5⟩, ea, ew⟩ := m
  refine ⟨⟨ok.of (congrArg Prod.snd w.1), ?_, ?_, ?_, ?_, ?_, fun c hc => ?_, fun b hb => ?_⟩, ⟨?_, ?_, ?_, ?_, ?_⟩, fun b hb => ?_, fun b hb => ?_⟩
  · rw [w.2 _ _ (by decide)]; exact a1
  · rw [w.2 _ _ (by decide)]; exact a2
  · rw [w.2 _ _ (by decide)]; exact a3
  · rw [w.2 _ _ (by decide)]; exact a4
  · rw [w.2 _ _ (by decide)]; exact a5
  · rw [w.2 _ _ (by decide)]; exact a6 c hc
  · rw [w.2 _ _ (by decide)]; exact a7 b hb
  · rw [w.2 _ _ (by decide)]; exact e1
  · rw [w.2 _ _ (by decide)]; exact e2
  · rw [w.2 _ _ (by decide)]; exact e3
  · rw [w.2 _ _ (by decide)]; exact e4
  · rw [w.2 _ _ (by decide)]; exact e5
  · rw [w.2 _ _ (by decide)]; exact ea b hb
  · rw [w.2 _ _ (by decide)]; exact ew b hb
/-- the rounds of relaxing, as they stand; cells by their numbers -/
def q_RX (f : q_Fl) (s : Nat) (W : Nat → Nat) : Prop := (∀ m, m < F_w f * F_h f → W m ≤ 1000000) ∧ W (q_nm f s) = 0 ∧ ∀ m, m < F_w f * F_h f → W m < 1000000 → q_pa f s (W m) (q_cell (F_w f) m)
/-- an edge that has nothing to give -/
def q_ed (f : q_Fl) (W : Nat → Nat) (m e : Nat) : Prop := ∀ t, F_nx f (q_cell (F_w f) m) e = some t → W (q_nm f t) ≤ W m + 1
theorem q_RX.up {f : q_Fl} (wf : F_wf f) {s : Nat} {W : Nat → Nat} (x : q_RX f s W) {m e t : Nat} (hm : m < F_w f * F_h f) (he : e < 4) (hx : F_nx f (q_cell (F_w f) m) e = some t) (hl : W m + 1 < W (q_nm f t)) : q_RX f s (q_up W (q_nm f t) (W m + 1)) ∧ q_sm (q_up W (q_nm f t) (W m + 1)) 0 (F_w f * F_h f) < q_sm W 0 (F_w f * F_h f) := by
  obtain ⟨x1, x2, x3⟩ := x
  have ci := (q_cell_in wf hm).1
  have ti := F_nx_in wf ci hx
  have tn := q_nm_lt ti
  have t1 := x1 _ tn
  refine ⟨⟨fun k hk => ?_, ?_, fun k hk hlt => ?_⟩, ?_⟩
  · unfold q_up
    split
    · omega
    · exact x1 k hk
  · have : q_nm f s ≠ q_nm f t := fun w => by rw [← w, x2] at hl; omega
    unfold q_up
    rw [if_neg this]
    exact x2
  · by_cases c : k = q_nm f t
    · have e1 : q_up W (q_nm f t) (W m + 1) k = W m + 1 := if_pos c
      rw [e1, c, q_cell_nm ti]
      exact ⟨q_cell (F_w f) m, e, he, x3 m hm (by omega), hx⟩
    · have e1 : q_up W (q_nm f t) (W m + 1) k = W k := if_neg c
      rw [e1] at hlt ⊢
      exact x3 k hk hlt
  · have := q_sm_up W (q_nm f t) (W m + 1) _ tn
    omega
theorem q_D_some {f : q_Fl} {s n v : Nat} (h : q_pa f s n v) : ∃ k, q_D f s v = some k ∧ q_pa f s k v ∧ ∀ j, q_pa f s j v → k ≤ j := by
  have c : ∃ n, q_pa f s n v := ⟨n, h⟩
  obtain ⟨h1, h2⟩ := Classical.choose_spec (pk_least _ c)
  refine ⟨Classical.choose (pk_least _ c), ?_, h1, fun j hj => Nat.le_of_not_lt (fun w => h2 j w hj)⟩
  unfold q_D
  rw [dif_pos c]
theorem q_D_chain {f : q_Fl} (wf : F_wf f) {s : Nat} (hs : F_in f s) : ∀ k v, q_pa f s k v → (∀ j, q_pa f s j v → k ≤ j) → ∀ i, i ≤ k → ∃ u, F_in f u ∧ q_pa f s i u ∧ ∀ j, q_pa f s j u → i ≤ j := by
  intro k
  induction k with
  | zero =>
    intro v hv hm i hi
    obtain rfl : i = 0 := by omega
    exact ⟨v, q_pa_in wf hs 0 v hv, hv, hm⟩
  | succ k ih =>
    intro v hv hm i hi
    by_cases c : i = k + 1
    · subst c
      exact ⟨v, q_pa_in wf hs (k + 1) v hv, hv, hm⟩
    · obtain ⟨u, e, he, hu, hx⟩ := hv
      refine ih u hu (fun j hj => ?_) i (by omega)
      have := hm (j + 1) ⟨u, e, he, hj, hx⟩
      omega
theorem q_D_64 {f : q_Fl} (wf : F_wf f) {s : Nat} (hs : F_in f s) {k v : Nat} (hv : q_pa f s k v) (hm : ∀ j, q_pa f s j v → k ≤ j) : k < 64 := by
  have ch : ∀ i, ∃ u, i ≤ k → F_in f u ∧ q_pa f s i u ∧ ∀ j, q_pa f s j u → i ≤ j := fun i => by
    by_cases c : i ≤ k
    · obtain ⟨u, hu⟩ := q_D_chain wf hs k v hv hm i c
      exact ⟨u, fun _ => hu⟩
    · exact ⟨0, fun w => absurd w c⟩
  obtain ⟨F, hF⟩ := Classical.axiomOfChoice ch
  have := fb_holes 64 (k + 1) F (fun i hi => (hF i (by omega)).1.1) (fun i j hij hj w => by
    obtain ⟨_, a2, a3⟩ := hF i (by omega)
    obtain ⟨_, b2, b3⟩ := hF j (by omega)
    rw [w] at a2
    have := b3 i a2
    omega)
  omega
theorem q_ed_le {f : q_Fl} (wf : F_wf f) {s : Nat} (hs : F_in f s) {W : Nat → Nat} (x : q_RX f s W) (ed : ∀ m e, m < F_w f * F_h f → e < 4 → q_ed f W m e) : ∀ n v, q_pa f s n v → W (q_nm f v) ≤ n := by
  intro n
  induction n with
  | zero => intro v h; have e : v = s := h; rw [e, x.2.1]; exact Nat.le_refl _
  | succ n ih =>
    intro v h
    obtain ⟨u, e, he, hu, hx⟩ := h
    have ui := q_pa_in wf hs n u hu
    have h1 := ih u hu
    have h2 := ed (q_nm f u) e (q_nm_lt ui) he v (by rw [q_cell_nm ui]; exact hx)
    omega
theorem q_far {f : q_Fl} (wf : F_wf f) {s : Nat} (hs : F_in f s) {W : Nat → Nat} (ed : ∀ m e, m < F_w f * F_h f → e < 4 → q_ed f W m e) (x : q_RX f s W) {n v : Nat} (hp : q_pa f s n v) : W (q_nm f v) < 1000000 := by
  obtain ⟨k, -, h1, h2⟩ := q_D_some hp
  have h3 := q_D_64 wf hs h1 h2
  have h4 := q_ed_le wf hs x ed k v h1
  omega
theorem q_d4 {k : Nat} (hk : k < 1000) : nI k / 4 = nI (k / 4) ∧ nI k - nI (k / 4) * 4 = nI (k % 4) := by
  have e1 : nI k / 4 = nI (k / 4) := pk_div (d := 4) (by omega) (by decide) (by decide)
  have e2 := pk_rem (a := k) (d := 4) (by omega) (by decide) (by decide)
  rw [show (nI 4 : Int32) = 4 from rfl, e1] at e2
  exact ⟨e1, e2⟩
theorem q_rx_p (f : q_Fl) (wf : F_wf f) (g : q_G) (s : Nat) (a1 : Int32) : ∀ (r k : Nat) (W : Nat → Nat) (mo : Int32) (h : am_H) (z4 : Option Value), k + r = 4 * (F_w f * F_h f) → q_mg h f g → (∀ m, m < F_w f * F_h f → h.1 230 m = nI (W m)) → q_RX f s W → ∃ (h' : am_H) (W' : Nat → Nat) (mo' : Int32) (z4' : Option Value), q_mwl h h' ∧ (∀ m, m < F_w f * F_h f → h'.1 230 m = nI (W' m)) ∧ q_RX f s W' ∧ ((mo' = 1 ∧ q_sm W' 0 (F_w f * F_h f) < q_sm W 0 (F_w f * F_h f)) ∨ (mo' = mo ∧ W' = W ∧ ∀ j, k ≤ j → j < 4 * (F_w f * F_h f) → q_ed f W (j / 4) (j % 4))) ∧ am_ev 241 44 [some (.ref 211), some (.int a1), some (.int mo), some (.int (nI k)), z4] [] h = am_ev 241 36 [some (.ref 211), some (.int a1), some (.int mo'), some (.int (nI (4 * (F_w f * F_h f)))), z4'] [] h' := by
  have c64 := wf.c64
  have n4 : ¬ (4 : Int32) = 0 := by decide
  have m4 : (4 : Int32) * nI (F_w f * F_h f) = nI (4 * (F_w f * F_h f)) := pk_mul 4 _
  intro r
  induction r with
  | zero =>
    intro k W mo h z4 hk mg hW x
    have ok := mg.1.1
    have a2 := mg.1.2.2.1
    obtain rfl : k = 4 * (F_w f * F_h f) := by omega
    have h1 : nI (4 * (F_w f * F_h f)) ≤ nI (4 * (F_w f * F_h f)) := Int32.le_refl _
    refine ⟨h, W, mo, z4, q_mwl.rf h, hW, x, Or.inr ⟨rfl, rfl, fun j h1 h2 => by omega⟩, ?_⟩
    rw [e241_44]
    simp only [e241_0, e241_1, e241_2, e241_3, e241_4, e241_7, e241_10, e241_11, e241_14, e241_15, e241_16, e241_17, e241_20, e241_21, e241_24, e241_27, e241_28, e241_31, e241_34, e241_35, e241_37, e241_40, e241_41, e241_42, e241_43, e241_45, e241_46, e241_47, e241_50, e241_51, e241_54, e241_55, e241_56, e241_57, e241_58, e241_59, e241_60, e241_61, e241_64, e241_66, e241_68, e241_69, e241_72, e241_73, e241_76, e241_78, e241_78z, e241_79, e241_82, e241_83, e241_86, e241_87, e241_88, e241_89, e241_90, e241_91, e241_92, e241_93, e241_96, e241_98, e241_99, e241_102, e241_103, e241_106, e241_108, e241_109, e241_112, e241_113, e241_114, e241_115, e241_116, e241_117, e241_118, e241_119, e241_120, e241_121, e241_124, e241_127, e241_130, am_bd_some, Option.toList_some, Option.toList_none, List.cons_append, List.nil_append, am_w8_0, am_w8_1, am_w8_2, am_w8_3, am_w8_4, eq_self, or_true, true_or, am_kd_sI, am_kd_sL, am_kd_sR, am_tc_sI, am_tc_sL, am_tc_sR, am_len_sI, am_len_sL, am_len_sR, am_rfs, if_true, if_false, am_rdL_sI, am_rR_sL, am_rt_cq, am_kd_cq, am_tc_cq, am_len_cq, am_rd_sL, am_rd_sR, am_rdL_sR, okK_211 ok, a2, m4, h1]
  | succ r ih =>
    intro k W mo h z4 hk mg hW x
    have ok := mg.1.1
    have a2 := mg.1.2.2.1
    have a6 := mg.1.2.2.2.2.2.2.1
    have h1 : ¬ nI (4 * (F_w f * F_h f)) ≤ nI k := nI_ge (by omega) (by omega)
    obtain ⟨d1, d2⟩ := q_d4 (k := k) (by omega)
    have hm : k / 4 < F_w f * F_h f := by omega
    have he : k % 4 < 4 := by omega
    obtain ⟨ci, cn⟩ := q_cell_in wf hm
    have dn := den_mnext h f mg.1 wf (q_cell (F_w f) (k / 4)) (k % 4) ci he
    rw [cn] at dn
    have keep : (∀ t, F_nx f (q_cell (F_w f) (k / 4)) (k % 4) = some t → W (q_nm f t) ≤ W (k / 4) + 1) → ∀ z, ∃ (h' : am_H) (W' : Nat → Nat) (mo' : Int32) (z4' : Option Value), q_mwl h h' ∧ (∀ m, m < F_w f * F_h f → h'.1 230 m = nI (W' m)) ∧ q_RX f s W' ∧ ((mo' = 1 ∧ q_sm W' 0 (F_w f * F_h f) < q_sm W 0 (F_w f * F_h f)) ∨ (mo' = mo ∧ W' = W ∧ ∀ j, k ≤ j → j < 4 * (F_w f * F_h f) → q_ed f W (j / 4) (j % 4))) ∧ am_ev 241 44 [some (.ref 211), some (.int a1), some (.int mo), some (.int (nI (k + 1))), z] [] h = am_ev 241 36 [some (.ref 211), some (.int a1), some (.int mo'), some (.int (nI (4 * (F_w f * F_h f)))), z4'] [] h' := fun hed z => by
      obtain ⟨h2, W2, mo2, z2, w2, hW2, x2, c2, s2⟩ := ih (k + 1) W mo h z (by omega) mg hW x
      refine ⟨h2, W2, mo2, z2, w2, hW2, x2, ?_, s2⟩
      rcases c2 with c2 | ⟨e1, e2, e3⟩
      · exact Or.inl c2
      · refine Or.inr ⟨e1, e2, fun j j1 j2 => ?_⟩
        by_cases c : j = k
        · rw [c]; exact hed
        · exact e3 j (by omega) j2
    rw [e241_44]
    cases hg : F_gx f (q_cell (F_w f) (k / 4)) (k % 4) with
    | none =>
      rw [hg] at dn
      have y : q_nv f none = -1 := rfl
      have hx : F_nx f (q_cell (F_w f) (k / 4)) (k % 4) = none := by unfold F_nx; rw [hg]
      obtain ⟨h2, W2, mo2, z2, w2, hW2, x2, c2, s2⟩ := keep (fun t ht => by rw [hx] at ht; cases ht) (some (.int (-1)))
      refine ⟨h2, W2, mo2, z2, w2, hW2, x2, c2, ?_⟩
      simp only [e241_0, e241_1, e241_2, e241_3, e241_4, e241_7, e241_10, e241_11, e241_14, e241_15, e241_16, e241_17, e241_20, e241_21, e241_24, e241_27, e241_28, e241_31, e241_34, e241_35, e241_37, e241_40, e241_41, e241_42, e241_43, e241_45, e241_46, e241_47, e241_50, e241_51, e241_54, e241_55, e241_56, e241_57, e241_58, e241_59, e241_60, e241_61, e241_64, e241_66, e241_68, e241_69, e241_72, e241_73, e241_76, e241_78, e241_78z, e241_79, e241_82, e241_83, e241_86, e241_87, e241_88, e241_89, e241_90, e241_91, e241_92, e241_93, e241_96, e241_98, e241_99, e241_102, e241_103, e241_106, e241_108, e241_109, e241_112, e241_113, e241_114, e241_115, e241_116, e241_117, e241_118, e241_119, e241_120, e241_121, e241_124, e241_127, e241_130, am_bd_some, Option.toList_some, Option.toList_none, List.cons_append, List.nil_append, am_w8_0, am_w8_1, am_w8_2, am_w8_3, am_w8_4, eq_self, or_true, true_or, am_kd_sI, am_kd_sL, am_kd_sR, am_tc_sI, am_tc_sL, am_tc_sR, am_len_sI, am_len_sL, am_len_sR, am_rfs, if_true, if_false, am_rdL_sI, am_rR_sL, am_rt_cq, am_kd_cq, am_tc_cq, am_len_cq, am_rd_sL, am_rd_sR, am_rdL_sR, okK_211 ok, a2, m4, h1, n4, d1, d2, dn, y, nI_1]
      exact s2
    | some t =>
      rw [hg] at dn
      have y : q_nv f (some t) = nI (q_nm f t) := rfl
      have ti := F_gx_in wf ci hg
      have t64 := q_nm_64 wf ti
      have tn := q_nm_lt ti
      have y1 : ¬ nI (q_nm f t) = -1 := q_m1_n _ (by omega)
      have xt : am_ix (nI (q_nm f t)) 64 = true := am_ix_nI (by omega) (by decide)
      have zt : (nI (q_nm f t)).toNatClampNeg = q_nm f t := nI_clamp (by omega)
      have wv := a6 t ti
      cases hw : F_wall f t with
      | true =>
        rw [hw] at wv
        have yt : ¬ q_bi true = 0 := by decide
        have hx : F_nx f (q_cell (F_w f) (k / 4)) (k % 4) = none := by
          unfold F_nx
          rw [hg]
          show (if F_wall f t = true then none else some t) = none
          rw [if_pos hw]
        obtain ⟨h2, W2, mo2, z2, w2, hW2, x2, c2, s2⟩ := keep (fun t ht => by rw [hx] at ht; cases ht) (some (.int (nI (q_nm f t))))
        refine ⟨h2, W2, mo2, z2, w2, hW2, x2, c2, ?_⟩
        simp only [e241_0, e241_1, e241_2, e241_3, e241_4, e241_7, e241_10, e241_11, e241_14, e241_15, e241_16, e241_17, e241_20, e241_21, e241_24, e241_27, e241_28, e241_31, e241_34, e241_35, e241_37, e241_40, e241_41, e241_42, e241_43, e241_45, e241_46, e241_47, e241_50, e241_51, e241_54, e241_55, e241_56, e241_57, e241_58, e241_59, e241_60, e241_61, e241_64, e241_66, e241_68, e241_69, e241_72, e241_73, e241_76, e241_78, e241_78z, e241_79, e241_82, e241_83, e241_86, e241_87, e241_88, e241_89, e241_90, e241_91, e241_92, e241_93, e241_96, e241_98, e241_99, e241_102, e241_103, e241_106, e241_108, e241_109, e241_112, e241_113, e241_114, e241_115, e241_116, e241_117, e241_118, e241_119, e241_120, e241_121, e241_124, e241_127, e241_130, am_bd_some, Option.toList_some, Option.toList_none, List.cons_append, List.nil_append, am_w8_0, am_w8_1, am_w8_2, am_w8_3, am_w8_4, eq_self, or_true, true_or, am_kd_sI, am_kd_sL, am_kd_sR, am_tc_sI, am_tc_sL, am_tc_sR, am_len_sI, am_len_sL, am_len_sR, am_rfs, if_true, if_false, am_rdL_sI, am_rR_sL, am_rt_cq, am_kd_cq, am_tc_cq, am_len_cq, am_rd_sL, am_rd_sR, am_rdL_sR, okK_211 ok, okR_211_34 ok, okT_223 ok, okL_223 ok, a2, m4, h1, n4, d1, d2, dn, y, y1, xt, zt, wv, yt, not_false_eq_true, nI_1]
        exact s2
      | false =>
        rw [hw] at wv
        have yf : q_bi false = 0 := rfl
        have hx : F_nx f (q_cell (F_w f) (k / 4)) (k % 4) = some t := by
          unfold F_nx
          rw [hg]
          show (if F_wall f t = true then none else some t) = some t
          rw [if_neg (by rw [hw]; decide)]
        have xm : am_ix (nI (k / 4)) 64 = true := am_ix_nI (by omega) (by decide)
        have zm : (nI (k / 4)).toNatClampNeg = k / 4 := nI_clamp (by omega)
        have rm := hW (k / 4) hm
        have rt := hW (q_nm f t) tn
        have lm := x.1 (k / 4) hm
        have lt := x.1 (q_nm f t) tn
        have cm : nI (W (q_nm f t)) ≤ nI (W (k / 4) + 1) ↔ W (q_nm f t) ≤ W (k / 4) + 1 := nI_leI (by omega) (by omega)
        by_cases c : W (q_nm f t) ≤ W (k / 4) + 1
        · have c' := cm.mpr c
          obtain ⟨h2, W2, mo2, z2, w2, hW2, x2, c2, s2⟩ := keep (fun t' ht => by rw [hx] at ht; cases ht; exact c) (some (.int (nI (q_nm f t))))
          refine ⟨h2, W2, mo2, z2, w2, hW2, x2, c2, ?_⟩
          simp only [e241_0, e241_1, e241_2, e241_3, e241_4, e241_7, e241_10, e241_11, e241_14, e241_15, e241_16, e241_17, e241_20, e241_21, e241_24, e241_27, e241_28, e241_31, e241_34, e241_35, e241_37, e241_40, e241_41, e241_42, e241_43, e241_45, e241_46, e241_47, e241_50, e241_51, e241_54, e241_55, e241_56, e241_57, e241_58, e241_59, e241_60, e241_61, e241_64, e241_66, e241_68, e241_69, e241_72, e241_73, e241_76, e241_78, e241_78z, e241_79, e241_82, e241_83, e241_86, e241_87, e241_88, e241_89, e241_90, e241_91, e241_92, e241_93, e241_96, e241_98, e241_99, e241_102, e241_103, e241_106, e241_108, e241_109, e241_112, e241_113, e241_114, e241_115, e241_116, e241_117, e241_118, e241_119, e241_120, e241_121, e241_124, e241_127, e241_130, am_bd_some, Option.toList_some, Option.toList_none, List.cons_append, List.nil_append, am_w8_0, am_w8_1, am_w8_2, am_w8_3, am_w8_4, eq_self, or_true, true_or, am_kd_sI, am_kd_sL, am_kd_sR, am_tc_sI, am_tc_sL, am_tc_sR, am_len_sI, am_len_sL, am_len_sR, am_rfs, if_true, if_false, am_rdL_sI, am_rR_sL, am_rt_cq, am_kd_cq, am_tc_cq, am_len_cq, am_rd_sL, am_rd_sR, am_rdL_sR, okK_211 ok, okR_211_34 ok, okR_211_44 ok, okT_223 ok, okL_223 ok, okT_230 ok, okL_230 ok, a2, m4, h1, n4, d1, d2, dn, y, y1, xt, zt, wv, yf, not_true, xm, zm, rm, rt, c', nI_1]
          exact s2
        · have c' : ¬ nI (W (q_nm f t)) ≤ nI (W (k / 4) + 1) := fun w => c (cm.mp w)
          obtain ⟨x', sl⟩ := x.up wf hm he hx (by omega)
          let ha : am_H := am_sI h 230 (q_nm f t) (nI (W (k / 4) + 1))
          have wl : q_mwl h ha := ⟨rfl, fun a j p => by
            show (am_sI h 230 (q_nm f t) (nI (W (k / 4) + 1))).1 a j = _
            rw [am_rd_sI, if_neg (fun w => p w.1)]⟩
          obtain ⟨h2, W2, mo2, z2, w2, hW2, x2, c2, s2⟩ := ih (k + 1) (q_up W (q_nm f t) (W (k / 4) + 1)) 1 ha (some (.int (nI (q_nm f t)))) (by omega) (wl.mg mg) (fun m hm' => by
            show (am_sI h 230 (q_nm f t) (nI (W (k / 4) + 1))).1 230 m = nI (q_up W (q_nm f t) (W (k / 4) + 1) m)
            unfold q_up
            rw [am_rd_sI]
            by_cases w : m = q_nm f t
            · rw [if_pos ⟨rfl, w⟩, if_pos w]
            · rw [if_neg (fun q => w q.2), if_neg w]
              exact hW m hm') x'
          refine ⟨h2, W2, mo2, z2, wl.tr w2, hW2, x2, Or.inl ?_, ?_⟩
          · rcases c2 with ⟨e1, e2⟩ | ⟨e1, e2, _⟩
            · exact ⟨e1, by omega⟩
            · exact ⟨e1, by rw [e2]; exact sl⟩
          · simp only [e241_0, e241_1, e241_2, e241_3, e241_4, e241_7, e241_10, e241_11, e241_14, e241_15, e241_16, e241_17, e241_20, e241_21, e241_24, e241_27, e241_28, e241_31, e241_34, e241_35, e241_37, e241_40, e241_41, e241_42, e241_43, e241_45, e241_46, e241_47, e241_50, e241_51, e241_54, e241_55, e241_56, e241_57, e241_58, e241_59, e241_60, e241_61, e241_64, e241_66, e241_68, e241_69, e241_72, e241_73, e241_76, e241_78, e241_78z, e241_79, e241_82, e241_83, e241_86, e241_87, e241_88, e241_89, e241_90, e241_91, e241_92, e241_93, e241_96, e241_98, e241_99, e241_102, e241_103, e241_106, e241_108, e241_109, e241_112, e241_113, e241_114, e241_115, e241_116, e241_117, e241_118, e241_119, e241_120, e241_121, e241_124, e241_127, e241_130, am_bd_some, Option.toList_some, Option.toList_none, List.cons_append, List.nil_append, am_w8_0, am_w8_1, am_w8_2, am_w8_3, am_w8_4, eq_self, or_true, true_or, am_kd_sI, am_kd_sL, am_kd_sR, am_tc_sI, am_tc_sL, am_tc_sR, am_len_sI, am_len_sL, am_len_sR, am_rfs, if_true, if_false, am_rdL_sI, am_rR_sL, am_rt_cq, am_kd_cq, am_tc_cq, am_len_cq, am_rd_sL, am_rd_sR, am_rdL_sR, okK_211 ok, okR_211_34 ok, okR_211_44 ok, okT_223 ok, okL_223 ok, okT_230 ok, okL_230 ok, a2, m4, h1, n4, d1, d2, dn, y, y1, xt, zt, wv, yf, not_true, xm, zm, rm, rt, c', nI_1]
            exact s2
theorem q_rx_w (f : q_Fl) (wf : F_wf f) (g : q_G) (s : Nat) (a1 : Int32) : ∀ (N : Nat) (W : Nat → Nat) (h : am_H) (z3 z4 : Option Value), q_sm W 0 (F_w f * F_h f) < N → q_mg h f g → (∀ m, m < F_w f * F_h f → h.1 230 m = nI (W m)) → q_RX f s W → ∃ (h' : am_H) (W' : Nat → Nat), q_mwl h h' ∧ (∀ m, m < F_w f * F_h f → h'.1 230 m = nI (W' m)) ∧ q_RX f s W' ∧ (∀ m e, m < F_w f * F_h f → e < 4 → q_ed f W' m e) ∧ am_ev 241 36 [some (.ref 211), some (.int a1), some (.int 1), z3, z4] [] h = some (none, h') := by
  have y1 : (1 : Int32) = 0 ↔ False := by decide
  intro N
  induction N with
  | zero => intro W h z3 z4 hN; omega
  | succ N ih =>
    intro W h z3 z4 hN mg hW x
    obtain ⟨h1, W1, mo1, z1, w1, hW1, x1, c1, s1⟩ := q_rx_p f wf g s a1 (4 * (F_w f * F_h f)) 0 W 0 h z4 (by omega) mg hW x
    rw [nI_0] at s1
    have st : am_ev 241 36 [some (.ref 211), some (.int a1), some (.int 1), z3, z4] [] h = am_ev 241 44 [some (.ref 211), some (.int a1), some (.int 0), some (.int 0), z4] [] h := by
      rw [e241_36]
      simp only [e241_0, e241_1, e241_2, e241_3, e241_4, e241_7, e241_10, e241_11, e241_14, e241_15, e241_16, e241_17, e241_20, e241_21, e241_24, e241_27, e241_28, e241_31, e241_34, e241_35, e241_37, e241_40, e241_41, e241_42, e241_43, e241_45, e241_46, e241_47, e241_50, e241_51, e241_54, e241_55, e241_56, e241_57, e241_58, e241_59, e241_60, e241_61, e241_64, e241_66, e241_68, e241_69, e241_72, e241_73, e241_76, e241_78, e241_78z, e241_79, e241_82, e241_83, e241_86, e241_87, e241_88, e241_89, e241_90, e241_91, e241_92, e241_93, e241_96, e241_98, e241_99, e241_102, e241_103, e241_106, e241_108, e241_109, e241_112, e241_113, e241_114, e241_115, e241_116, e241_117, e241_118, e241_119, e241_120, e241_121, e241_124, e241_127, e241_130, am_bd_some, Option.toList_some, Option.toList_none, List.cons_append, List.nil_append, am_w8_0, am_w8_1, am_w8_2, am_w8_3, am_w8_4, eq_self, or_true, true_or, am_kd_sI, am_kd_sL, am_kd_sR, am_tc_sI, am_tc_sL, am_tc_sR, am_len_sI, am_len_sL, am_len_sR, am_rfs, if_true, if_false, am_rdL_sI, am_rR_sL, am_rt_cq, am_kd_cq, am_tc_cq, am_len_cq, am_rd_sL, am_rd_sR, am_rdL_sR, y1]
    rcases c1 with ⟨e1, e2⟩ | ⟨e1, e2, e3⟩
    · rw [e1] at s1
      obtain ⟨h2, W2, w2, hW2, x2, ed2, s2⟩ := ih W1 h1 (some (.int (nI (4 * (F_w f * F_h f))))) z1 (by omega) (w1.mg mg) hW1 x1
      exact ⟨h2, W2, w1.tr w2, hW2, x2, ed2, by rw [st, s1]; exact s2⟩
    · rw [e1] at s1
      refine ⟨h1, W1, w1, hW1, x1, fun m e hm he => ?_, ?_⟩
      · rw [e2]
        have := e3 (4 * m + e) (by omega) (by omega)
        rw [show (4 * m + e) / 4 = m by omega, show (4 * m + e) % 4 = e by omega] at this
        exact this
      · rw [st, s1, e241_36]
        simp only [e241_0, e241_1, e241_2, e241_3, e241_4, e241_7, e241_10, e241_11, e241_14, e241_15, e241_16, e241_17, e241_20, e241_21, e241_24, e241_27, e241_28, e241_31, e241_34, e241_35, e241_37, e241_40, e241_41, e241_42, e241_43, e241_44, e241_45, e241_46, e241_47, e241_50, e241_51, e241_54, e241_55, e241_56, e241_57, e241_58, e241_59, e241_60, e241_61, e241_64, e241_66, e241_68, e241_69, e241_72, e241_73, e241_76, e241_78, e241_78z, e241_79, e241_82, e241_83, e241_86, e241_87, e241_88, e241_89, e241_90, e241_91, e241_92, e241_93, e241_96, e241_98, e241_99, e241_102, e241_103, e241_106, e241_108, e241_109, e241_112, e241_113, e241_114, e241_115, e241_116, e241_117, e241_118, e241_119, e241_120, e241_121, e241_124, e241_127, e241_130, am_bd_some, Option.toList_some, Option.toList_none, List.cons_append, List.nil_append, am_w8_0, am_w8_1, am_w8_2, am_w8_3, am_w8_4, eq_self, or_true, true_or, am_kd_sI, am_kd_sL, am_kd_sR, am_tc_sI, am_tc_sL, am_tc_sR, am_len_sI, am_len_sL, am_len_sR, am_rfs, if_true, if_false, am_rdL_sI, am_rR_sL, am_rt_cq, am_kd_cq, am_tc_cq, am_len_cq, am_rd_sL, am_rd_sR, am_rdL_sR]
theorem q_fw_l (f : q_Fl) (wf : F_wf f) (s : Nat) (hs : s < F_w f * F_h f) (h : am_H) (ok : am_okH h) (a2 : h.1 211 26 = nI (F_w f * F_h f)) (z3 z4 : Option Value) : ∀ r c, c + r = F_w f * F_h f → am_ev 241 2 [some (.ref 211), some (.int (nI s)), some (.int (nI c)), z3, z4] [] (q_fn 230 c (fun k => nI (q_up (fun _ => 1000000) s 0 k)) h) = am_ev 241 34 [some (.ref 211), some (.int (nI s)), some (.int (nI (F_w f * F_h f))), z3, z4] [] (q_fn 230 (F_w f * F_h f) (fun k => nI (q_up (fun _ => 1000000) s 0 k)) h) := by
  have c64 := wf.c64
  intro r
  induction r with
  | zero =>
    intro c hc
    obtain rfl : c = F_w f * F_h f := by omega
    have h1 : nI (F_w f * F_h f) ≤ nI (F_w f * F_h f) := Int32.le_refl _
    have ok1 : am_okH (q_fn 230 (F_w f * F_h f) (fun k => nI (q_up (fun _ => 1000000) s 0 k)) h) := ok
    have a2' : (q_fn 230 (F_w f * F_h f) (fun k => nI (q_up (fun _ => 1000000) s 0 k)) h).1 211 26 = nI (F_w f * F_h f) := by rw [q_fn_rd, if_neg (by omega)]; exact a2
    rw [e241_2]
    simp only [e241_0, e241_1, e241_3, e241_4, e241_7, e241_10, e241_11, e241_14, e241_15, e241_16, e241_17, e241_20, e241_21, e241_24, e241_27, e241_28, e241_31, e241_35, e241_36, e241_37, e241_40, e241_41, e241_42, e241_43, e241_44, e241_45, e241_46, e241_47, e241_50, e241_51, e241_54, e241_55, e241_56, e241_57, e241_58, e241_59, e241_60, e241_61, e241_64, e241_66, e241_68, e241_69, e241_72, e241_73, e241_76, e241_78, e241_78z, e241_79, e241_82, e241_83, e241_86, e241_87, e241_88, e241_89, e241_90, e241_91, e241_92, e241_93, e241_96, e241_98, e241_99, e241_102, e241_103, e241_106, e241_108, e241_109, e241_112, e241_113, e241_114, e241_115, e241_116, e241_117, e241_118, e241_119, e241_120, e241_121, e241_124, e241_127, e241_130, am_bd_some, Option.toList_some, Option.toList_none, List.cons_append, List.nil_append, am_w8_0, am_w8_1, am_w8_2, am_w8_3, am_w8_4, eq_self, or_true, true_or, am_kd_sI, am_kd_sL, am_kd_sR, am_tc_sI, am_tc_sL, am_tc_sR, am_len_sI, am_len_sL, am_len_sR, am_rfs, if_true, if_false, am_rdL_sI, am_rR_sL, am_rt_cq, am_kd_cq, am_tc_cq, am_len_cq, am_rd_sL, am_rd_sR, am_rdL_sR, okK_211 ok1, a2', h1]
  | succ r ih =>
    intro c hc
    have h1 : ¬ nI (F_w f * F_h f) ≤ nI c := nI_ge (by omega) (by omega)
    have ok1 : am_okH (q_fn 230 c (fun k => nI (q_up (fun _ => 1000000) s 0 k)) h) := ok
    have a2' : (q_fn 230 c (fun k => nI (q_up (fun _ => 1000000) s 0 k)) h).1 211 26 = nI (F_w f * F_h f) := by rw [q_fn_rd, if_neg (by omega)]; exact a2
    have x : am_ix (nI c) 64 = true := am_ix_nI (by omega) (by decide)
    have z : (nI c).toNatClampNeg = c := nI_clamp (by omega)
    have st := q_fn_s 230 c (fun k => nI (q_up (fun _ => 1000000) s 0 k)) h
    have ce : nI c = nI s ↔ c = s := nI_eq (by omega) (by omega)
    rw [e241_2]
    by_cases w : c = s
    · have w' := eq_true (ce.mpr w)
      have e : nI (q_up (fun _ => 1000000) s 0 c) = 0 := by unfold q_up; rw [if_pos w]; rfl
      have st' : am_sI (q_fn 230 c (fun k => nI (q_up (fun _ => 1000000) s 0 k)) h) 230 c 0 = q_fn 230 (c + 1) (fun k => nI (q_up (fun _ => 1000000) s 0 k)) h := by rw [← e]; exact st
      simp only [e241_0, e241_1, e241_3, e241_4, e241_7, e241_10, e241_11, e241_14, e241_15, e241_16, e241_17, e241_20, e241_21, e241_24, e241_27, e241_28, e241_31, e241_35, e241_36, e241_37, e241_40, e241_41, e241_42, e241_43, e241_44, e241_45, e241_46, e241_47, e241_50, e241_51, e241_54, e241_55, e241_56, e241_57, e241_58, e241_59, e241_60, e241_61, e241_64, e241_66, e241_68, e241_69, e241_72, e241_73, e241_76, e241_78, e241_78z, e241_79, e241_82, e241_83, e241_86, e241_87, e241_88, e241_89, e241_90, e241_91, e241_92, e241_93, e241_96, e241_98, e241_99, e241_102, e241_103, e241_106, e241_108, e241_109, e241_112, e241_113, e241_114, e241_115, e241_116, e241_117, e241_118, e241_119, e241_120, e241_121, e241_124, e241_127, e241_130, am_bd_some, Option.toList_some, Option.toList_none, List.cons_append, List.nil_append, am_w8_0, am_w8_1, am_w8_2, am_w8_3, am_w8_4, eq_self, or_true, true_or, am_kd_sI, am_kd_sL, am_kd_sR, am_tc_sI, am_tc_sL, am_tc_sR, am_len_sI, am_len_sL, am_len_sR, am_rfs, if_true, if_false, am_rdL_sI, am_rR_sL, am_rt_cq, am_kd_cq, am_tc_cq, am_len_cq, am_rd_sL, am_rd_sR, am_rdL_sR, okK_211 ok1, okR_211_44 ok1, okT_230 ok1, okL_230 ok1, a2', h1, x, z, w', not_true, st', nI_1]
      exact ih (c + 1) (by omega)
    · have w' : ¬ nI c = nI s := fun q => w (ce.mp q)
      have e : nI (q_up (fun _ => 1000000) s 0 c) = 1000000 := by unfold q_up; rw [if_neg w]; rfl
      have st' : am_sI (q_fn 230 c (fun k => nI (q_up (fun _ => 1000000) s 0 k)) h) 230 c 1000000 = q_fn 230 (c + 1) (fun k => nI (q_up (fun _ => 1000000) s 0 k)) h := by rw [← e]; exact st
      simp only [e241_0, e241_1, e241_3, e241_4, e241_7, e241_10, e241_11, e241_14, e241_15, e241_16, e241_17, e241_20, e241_21, e241_24, e241_27, e241_28, e241_31, e241_35, e241_36, e241_37, e241_40, e241_41, e241_42, e241_43, e241_44, e241_45, e241_46, e241_47, e241_50, e241_51, e241_54, e241_55, e241_56, e241_57, e241_58, e241_59, e241_60, e241_61, e241_64, e241_66, e241_68, e241_69, e241_72, e241_73, e241_76, e241_78, e241_78z, e241_79, e241_82, e241_83, e241_86, e241_87, e241_88, e241_89, e241_90, e241_91, e241_92, e241_93, e241_96, e241_98, e241_99, e241_102, e241_103, e241_106, e241_108, e241_109, e241_112, e241_113, e241_114, e241_115, e241_116, e241_117, e241_118, e241_119, e241_120, e241_121, e241_124, e241_127, e241_130, am_bd_some, Option.toList_some, Option.toList_none, List.cons_append, List.nil_append, am_w8_0, am_w8_1, am_w8_2, am_w8_3, am_w8_4, eq_self, or_true, true_or, am_kd_sI, am_kd_sL, am_kd_sR, am_tc_sI, am_tc_sL, am_tc_sR, am_len_sI, am_len_sL, am_len_sR, am_rfs, if_true, if_false, am_rdL_sI, am_rR_sL, am_rt_cq, am_kd_cq, am_tc_cq, am_len_cq, am_rd_sL, am_rd_sR, am_rdL_sR, okK_211 ok1, okR_211_44 ok1, okT_230 ok1, okL_230 ok1, a2', h1, x, z, w', not_false_eq_true, st', nI_1]
      exact ih (c + 1) (by omega)
theorem den_findWalk (f : q_Fl) (wf : F_wf f) (g : q_G) (s : Nat) (hs : F_in f s) (h : am_H) (mg : q_mg h f g) : ∃ h' : am_H, q_mwl h h' ∧ (∀ v, F_in f v → (q_D f s v = none ∧ h'.1 230 (q_nm f v) = 1000000) ∨ ∃ n, n < 1000000 ∧ q_D f s v = some n ∧ h'.1 230 (q_nm f v) = nI n) ∧ am_den 241 [.ref 211, .int (nI (q_nm f s))] h = some (none, h') := by
  have ok := mg.1.1
  have sn := q_nm_lt hs
  have lp := q_fw_l f wf (q_nm f s) sn h ok mg.1.2.2.1 none none (F_w f * F_h f) 0 (by omega)
  rw [q_fn_0, nI_0] at lp
  let h1 : am_H := q_fn 230 (F_w f * F_h f) (fun k => nI (q_up (fun _ => 1000000) (q_nm f s) 0 k)) h
  have w1 : q_mwl h h1 := ⟨rfl, fun a k p => by
    show (q_fn 230 (F_w f * F_h f) (fun k => nI (q_up (fun _ => 1000000) (q_nm f s) 0 k)) h).1 a k = _
    rw [q_fn_rd, if_neg (fun w => p w.1)]⟩
  have x0 : q_RX f s (q_up (fun _ => 1000000) (q_nm f s) 0) := by
    refine ⟨fun m hm => ?_, if_pos rfl, fun m hm hl => ?_⟩
    · unfold q_up
      split
      · exact Nat.zero_le _
      · exact Nat.le_refl _
    · by_cases c : m = q_nm f s
      · have e : q_up (fun _ => 1000000) (q_nm f s) 0 m = 0 := if_pos c
        rw [e, c, q_cell_nm hs]
        exact rfl
      · have e : q_up (fun _ => 1000000) (q_nm f s) 0 m = 1000000 := if_neg c
        rw [e] at hl
        omega
  obtain ⟨h2, W, w2, hW, x2, ed, s2⟩ := q_rx_w f wf g s (nI (q_nm f s)) (q_sm (q_up (fun _ => 1000000) (q_nm f s) 0) 0 (F_w f * F_h f) + 1) _ h1 none none (Nat.lt_succ_self _) (w1.mg mg) (fun m hm => by
    show (q_fn 230 (F_w f * F_h f) (fun k => nI (q_up (fun _ => 1000000) (q_nm f s) 0 k)) h).1 230 m = _
    rw [q_fn_rd, if_pos ⟨rfl, hm⟩]) x0
  have ds : q_Ds f s (fun v => if W (q_nm f v) < 1000000 then some (W (q_nm f v)) else none) := by
    refine ⟨?_, fun u e v n he hu hn hx => ?_, fun v n hv hn => ?_⟩
    · show (if W (q_nm f s) < 1000000 then some (W (q_nm f s)) else none) = some 0
      rw [x2.2.1]
      rfl
    · have hn' : (if W (q_nm f u) < 1000000 then some (W (q_nm f u)) else none) = some n := hn
      split at hn'
      · rename_i nu
        cases hn'
        have hv := F_nx_in wf hu hx
        have un := q_nm_lt hu
        have he' := ed (q_nm f u) e un he v (by rw [q_cell_nm hu]; exact hx)
        by_cases c : W (q_nm f v) < 1000000
        · exact ⟨W (q_nm f v), by show (if W (q_nm f v) < 1000000 then some (W (q_nm f v)) else none) = _; rw [if_pos c], he'⟩
        · exfalso
          have hp : q_pa f s (W (q_nm f u) + 1) v := ⟨u, e, he, by have := x2.2.2 _ un nu; rw [q_cell_nm hu] at this; exact this, hx⟩
          exact c (q_far wf hs ed x2 hp)
      · cases hn'
    · have hn' : (if W (q_nm f v) < 1000000 then some (W (q_nm f v)) else none) = some n := hn
      split at hn'
      · rename_i nv
        cases hn'
        have := x2.2.2 _ (q_nm_lt hv) nv
        rw [q_cell_nm hv] at this
        exact this
      · cases hn'
  refine ⟨h2, w1.tr w2, fun v hv => ?_, ?_⟩
  · have e := ds.eq wf hs v hv
    have e' : (if W (q_nm f v) < 1000000 then some (W (q_nm f v)) else none) = q_D f s v := e
    have rv := hW _ (q_nm_lt hv)
    have lv := x2.1 _ (q_nm_lt hv)
    by_cases c : W (q_nm f v) < 1000000
    · rw [if_pos c] at e'
      exact Or.inr ⟨W (q_nm f v), c, e'.symm, rv⟩
    · rw [if_neg c] at e'
      have : W (q_nm f v) = 1000000 := by omega
      rw [this] at rv
      exact Or.inl ⟨e'.symm, rv⟩
  · show am_ev 241 0 [some (.ref 211), some (.int (nI (q_nm f s))), none, none, none] [] h = _
    have s0 : am_ev 241 0 [some (.ref 211), some (.int (nI (q_nm f s))), none, none, none] [] h = am_ev 241 2 [some (.ref 211), some (.int (nI (q_nm f s))), some (.int 0), none, none] [] h := by
      simp only [e241_0, e241_1, e241_3, e241_4, e241_7, e241_10, e241_11, e241_14, e241_15, e241_16, e241_17, e241_20, e241_21, e241_24, e241_27, e241_28, e241_31, e241_34, e241_35, e241_36, e241_37, e241_40, e241_41, e241_42, e241_43, e241_44, e241_45, e241_46, e241_47, e241_50, e241_51, e241_54, e241_55, e241_56, e241_57, e241_58, e241_59, e241_60, e241_61, e241_64, e241_66, e241_68, e241_69, e241_72, e241_73, e241_76, e241_78, e241_78z, e241_79, e241_82, e241_83, e241_86, e241_87, e241_88, e241_89, e241_90, e241_91, e241_92, e241_93, e241_96, e241_98, e241_99, e241_102, e241_103, e241_106, e241_108, e241_109, e241_112, e241_113, e241_114, e241_115, e241_116, e241_117, e241_118, e241_119, e241_120, e241_121, e241_124, e241_127, e241_130, am_bd_some, Option.toList_some, Option.toList_none, List.cons_append, List.nil_append, am_w8_0, am_w8_1, am_w8_2, am_w8_3, am_w8_4, eq_self, or_true, true_or, am_kd_sI, am_kd_sL, am_kd_sR, am_tc_sI, am_tc_sL, am_tc_sR, am_len_sI, am_len_sL, am_len_sR, am_rfs, if_true, if_false, am_rdL_sI, am_rR_sL, am_rt_cq, am_kd_cq, am_tc_cq, am_len_cq, am_rd_sL, am_rd_sR, am_rdL_sR]
    have s3 : am_ev 241 34 [some (.ref 211), some (.int (nI (q_nm f s))), some (.int (nI (F_w f * F_h f))), none, none] [] h1 = am_ev 241 36 [some (.ref 211), some (.int (nI (q_nm f s))), some (.int 1), none, none] [] h1 := by
      simp only [e241_0, e241_1, e241_2, e241_3, e241_4, e241_7, e241_10, e241_11, e241_14, e241_15, e241_16, e241_17, e241_20, e241_21, e241_24, e241_27, e241_28, e241_31, e241_34, e241_35, e241_37, e241_40, e241_41, e241_42, e241_43, e241_44, e241_45, e241_46, e241_47, e241_50, e241_51, e241_54, e241_55, e241_56, e241_57, e241_58, e241_59, e241_60, e241_61, e241_64, e241_66, e241_68, e241_69, e241_72, e241_73, e241_76, e241_78, e241_78z, e241_79, e241_82, e241_83, e241_86, e241_87, e241_88, e241_89, e241_90, e241_91, e241_92, e241_93, e241_96, e241_98, e241_99, e241_102, e241_103, e241_106, e241_108, e241_109, e241_112, e241_113, e241_114, e241_115, e241_116, e241_117, e241_118, e241_119, e241_120, e241_121, e241_124, e241_127, e241_130, am_bd_some, Option.toList_some, Option.toList_none, List.cons_append, List.nil_append, am_w8_0, am_w8_1, am_w8_2, am_w8_3, am_w8_4, eq_self, or_true, true_or, am_kd_sI, am_kd_sL, am_kd_sR, am_tc_sI, am_tc_sL, am_tc_sR, am_len_sI, am_len_sL, am_len_sR, am_rfs, if_true, if_false, am_rdL_sI, am_rR_sL, am_rt_cq, am_kd_cq, am_tc_cq, am_len_cq, am_rd_sL, am_rd_sR, am_rdL_sR]
    rw [s0, lp]
    exact s3.trans s2
