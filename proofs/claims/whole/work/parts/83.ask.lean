/-! part 83: ask -/
def q_gst (cell dog : Nat) (s : (Nat → Nat) × Nat) (code : Nat) : (Nat → Nat) × Nat := (q_up s.1 (F_end code cell dog) (s.1 (F_end code cell dog) + 1), max s.2 (s.1 (F_end code cell dog) + 1))
def q_alk (L : List Nat) (cell dog : Nat) : Nat := (L.foldl (q_gst cell dog) (fun _ => 0, 0)).2
theorem q_gst_le (cell dog : Nat) : ∀ (L : List Nat) (s : (Nat → Nat) × Nat) (n : Nat), (∀ k, s.1 k ≤ n) → s.2 ≤ n → (∀ k, (L.foldl (q_gst cell dog) s).1 k ≤ n + L.length) ∧ (L.foldl (q_gst cell dog) s).2 ≤ n + L.length := by
  intro L
  induction L with
  | nil => intro s n h1 h2; exact ⟨h1, h2⟩
  | cons c L ih =>
    intro s n h1 h2
    have e := h1 (F_end c cell dog)
    rw [List.foldl_cons]
    have := ih (q_gst cell dog s c) (n + 1) (fun k => by
      show q_up s.1 (F_end c cell dog) (s.1 (F_end c cell dog) + 1) k ≤ _
      unfold q_up
      split
      · omega
      · have := h1 k; omega) (by
      show max s.2 (s.1 (F_end c cell dog) + 1) ≤ _
      omega)
    have el : n + (c :: L).length = n + 1 + L.length := by
      show n + (L.length + 1) = _
      omega
    rw [el]
    exact this
theorem q_alk_le {L : List Nat} (h36 : L.length ≤ 36) (cell dog : Nat) : q_alk L cell dog ≤ 36 := by
  have := (q_gst_le cell dog L (fun _ => 0, 0) 0 (fun _ => Nat.le_refl _) (Nat.le_refl _)).2
  unfold q_alk
  omega
/-- what a count by a log changes -/
def q_lgx (h h' : am_H) : Prop := h'.2.2.2 = h.2.2.2 ∧ (∀ a k, ¬ (a = 178 ∧ k = 0) → h'.2.2.1 a k = h.2.2.1 a k) ∧ ∀ a k, a < 178 ∨ (183 < a ∧ a < 196) ∨ 198 < a → a ≠ 200 → h'.1 a k = h.1 a k ∧ h'.2.1 a k = h.2.1 a k
theorem q_lgx.rf (h : am_H) : q_lgx h h := ⟨rfl, fun _ _ _ => rfl, fun _ _ _ _ => ⟨rfl, rfl⟩⟩
theorem q_lgx.tr {h h' h'' : am_H} (a : q_lgx h h') (b : q_lgx h' h'') : q_lgx h h'' := ⟨b.1.trans a.1, fun x k p => (b.2.1 x k p).trans (a.2.1 x k p), fun x k p q => ⟨(b.2.2 x k p q).1.trans (a.2.2 x k p q).1, (b.2.2 x k p q).2.trans (a.2.2 x k p q).2⟩⟩
theorem q_lgx.ok {h h' : am_H} (f : q_lgx h h') (ok : am_okH h) : am_okH h' := by
  refine ⟨by rw [f.1]; exact ok.1, fun p hp hn => ?_⟩
  rw [f.2.1 _ _ (fun w => hn ?_)]
  · exact ok.2 p hp hn
  · rw [w.1, w.2]
    decide
theorem q_lgx.wk {h h' : am_H} (f : q_lgx h h') (ok : am_okH h) : q_wk h h' := ⟨f.ok ok, by rw [f.1], fun a k w => f.2.2 a k (by unfold q_told at w; omega) (by unfold q_told at w; omega)⟩
theorem q_lgw.x {h h' : am_H} (f : q_lgw h h') : q_lgx h h' := ⟨f.1, f.2.1, fun a k w _ => f.2.2 a k w⟩
theorem q_al_l (P : Nat → Bool) (cell dog : Nat) (hc : cell < 64) (hd : dog < 64) : ∀ (r c : Nat) (s : (Nat → Nat) × Nat) (h : am_H) (z8 : Option Value), c + r = 36 → am_okH h → (∀ k, k < 64 → h.1 200 k = nI (s.1 k)) → (∀ k, s.1 k ≤ c) → s.2 ≤ c → ∃ h' : am_H, q_lgx h h' ∧ am_ev 155 21 [some (.ref 0), some (.long (lN (q_msk P 36))), some (.retAddr 0), some (.int (nI cell)), some (.int (nI dog)), some (.ref 200), some (.int (nI s.2)), some (.int (nI c)), z8] [] h = some (some (.int (nI (((List.range' c r).filter P).foldl (q_gst cell dog) s).2)), h') := by
  intro r
  induction r with
  | zero =>
    intro c s h z8 hr ok hs b1 b2
    obtain rfl : c = 36 := by omega
    have h1 : (36 : Int32) ≤ nI 36 := by decide
    refine ⟨h, q_lgx.rf h, ?_⟩
    rw [e155_21]
    simp only [e155_0, e155_1, e155_4, e155_7, e155_9, e155_11, e155_12, e155_15, e155_16, e155_18, e155_19, e155_23, e155_25, e155_28, e155_29, e155_31, e155_32, e155_33, e155_34, e155_35, e155_36, e155_39, e155_40, e155_42, e155_43, e155_45, e155_48, e155_50, e155_52, e155_54, e155_55, e155_56, e155_57, e155_58, e155_59, e155_61, e155_63, e155_65, e155_66, e155_69, e155_71, e155_74, e155_77, e155_79, am_bd_some, Option.toList_some, Option.toList_none, List.cons_append, List.nil_append, am_w8_0, am_w8_1, am_w8_2, am_w8_3, am_w8_4, eq_self, or_true, true_or, am_kd_sI, am_kd_sL, am_kd_sR, am_tc_sI, am_tc_sL, am_tc_sR, am_len_sI, am_len_sL, am_len_sR, am_rfs, if_true, if_false, am_rdL_sI, am_rR_sL, am_rt_cq, am_kd_cq, am_tc_cq, am_len_cq, am_rd_sL, am_rd_sR, am_rdL_sR, h1, List.range'_zero, List.filter_nil, List.foldl_nil]
  | succ r ih =>
    intro c s h z8 hr ok hs b1 b2
    have h1 : ¬ (36 : Int32) ≤ nI c := fun w => nI_ge (b := 36) (a := c) (by omega) (by decide) w
    have mb := q_mbit P c (by omega)
    rw [e155_21, List.range'_succ]
    cases hp : P c with
    | false =>
      have mb' := eq_true (mb.mpr hp)
      rw [List.filter_cons_of_neg (by rw [hp]; decide)]
      obtain ⟨h2, f2, s2⟩ := ih (c + 1) s h z8 (by omega) ok hs (fun k => by have := b1 k; omega) (by omega)
      refine ⟨h2, f2, ?_⟩
      simp only [e155_0, e155_1, e155_4, e155_7, e155_9, e155_11, e155_12, e155_15, e155_16, e155_18, e155_19, e155_23, e155_25, e155_28, e155_29, e155_31, e155_32, e155_33, e155_34, e155_35, e155_36, e155_39, e155_40, e155_42, e155_43, e155_45, e155_48, e155_50, e155_52, e155_54, e155_55, e155_56, e155_57, e155_58, e155_59, e155_61, e155_63, e155_65, e155_66, e155_69, e155_71, e155_74, e155_77, e155_79, am_bd_some, Option.toList_some, Option.toList_none, List.cons_append, List.nil_append, am_w8_0, am_w8_1, am_w8_2, am_w8_3, am_w8_4, eq_self, or_true, true_or, am_kd_sI, am_kd_sL, am_kd_sR, am_tc_sI, am_tc_sL, am_tc_sR, am_len_sI, am_len_sL, am_len_sR, am_rfs, if_true, if_false, am_rdL_sI, am_rR_sL, am_rt_cq, am_kd_cq, am_tc_cq, am_len_cq, am_rd_sL, am_rd_sR, am_rdL_sR, h1, mb', nI_1]
      exact s2
    | true =>
      have mb' := eq_false (fun w => by have := mb.mp w; rw [hp] at this; cases this)
      rw [List.filter_cons_of_pos (by rw [hp]), List.foldl_cons]
      obtain ⟨ha, fa, -, sa⟩ := den_cbm h ok c cell dog (by omega) hc hd
      have oka := fa.ok ok
      have el := F_end_lt (code := c) (b := cell) (d := dog) (by omega) hc hd
      have ra : ∀ k, k < 64 → ha.1 200 k = nI (s.1 k) := fun k hk => by rw [(fa.2.2 200 k (by omega)).1]; exact hs k hk
      have x : am_ix (nI (F_end c cell dog)) 64 = true := am_ix_nI (by omega) (by decide)
      have z : (nI (F_end c cell dog)).toNatClampNeg = F_end c cell dog := nI_clamp (by omega)
      have rt := ra (F_end c cell dog) el
      let hb : am_H := am_sI ha 200 (F_end c cell dog) (nI (s.1 (F_end c cell dog) + 1))
      have fb : q_lgx ha hb := ⟨rfl, fun _ _ _ => rfl, fun a k _ w => ⟨by
        show (am_sI ha 200 (F_end c cell dog) (nI (s.1 (F_end c cell dog) + 1))).1 a k = _
        rw [am_rd_sI, if_neg (fun v => w v.1)], rfl⟩⟩
      have okb : am_okH hb := oka
      have rb : hb.1 200 (F_end c cell dog) = nI (s.1 (F_end c cell dog) + 1) := by
        show (am_sI ha 200 (F_end c cell dog) (nI (s.1 (F_end c cell dog) + 1))).1 200 (F_end c cell dog) = _
        rw [am_rd_sI, if_pos ⟨rfl, rfl⟩]
      have b1e := b1 (F_end c cell dog)
      have mx := q_imax (a := s.2) (b := s.1 (F_end c cell dog) + 1) (by omega) (by omega)
      obtain ⟨h2, f2, s2⟩ := ih (c + 1) (q_gst cell dog s c) hb (some (.int (nI (F_end c cell dog)))) (by omega) okb (fun k hk => by
        show (am_sI ha 200 (F_end c cell dog) (nI (s.1 (F_end c cell dog) + 1))).1 200 k = nI (q_up s.1 (F_end c cell dog) (s.1 (F_end c cell dog) + 1) k)
        unfold q_up
        rw [am_rd_sI]
        by_cases w : k = F_end c cell dog
        · rw [if_pos ⟨rfl, w⟩, if_pos w]
        · rw [if_neg (fun v => w v.2), if_neg w]
          exact ra k hk) (fun k => by
        show q_up s.1 (F_end c cell dog) (s.1 (F_end c cell dog) + 1) k ≤ _
        unfold q_up
        split
        · omega
        · have := b1 k; omega) (by
        show max s.2 (s.1 (F_end c cell dog) + 1) ≤ _
        omega)
      have q2 : (q_gst cell dog s c).2 = max s.2 (s.1 (F_end c cell dog) + 1) := rfl
      rw [q2] at s2
      refine ⟨h2, fa.x.tr (fb.tr f2), ?_⟩
      have st : am_ev 155 28 [some (.ref 0), some (.long (lN (q_msk P 36))), some (.retAddr 0), some (.int (nI cell)), some (.int (nI dog)), some (.ref 200), some (.int (nI s.2)), some (.int (nI c)), z8] [] h = am_ev 155 59 [some (.ref 0), some (.long (lN (q_msk P 36))), some (.retAddr 0), some (.int (nI cell)), some (.int (nI dog)), some (.ref 200), some (.int (nI s.2)), some (.int (nI c)), some (.int (nI (F_end c cell dog)))] [] hb := by
        simp only [e155_0, e155_1, e155_4, e155_7, e155_9, e155_11, e155_12, e155_15, e155_16, e155_18, e155_19, e155_23, e155_25, e155_28, e155_29, e155_31, e155_32, e155_33, e155_34, e155_35, e155_36, e155_39, e155_40, e155_42, e155_43, e155_45, e155_48, e155_50, e155_52, e155_54, e155_55, e155_56, e155_57, e155_58, e155_61, e155_63, e155_65, e155_66, e155_69, e155_71, e155_74, e155_77, e155_79, am_bd_some, Option.toList_some, Option.toList_none, List.cons_append, List.nil_append, am_w8_0, am_w8_1, am_w8_2, am_w8_3, am_w8_4, eq_self, or_true, true_or, am_kd_sI, am_kd_sL, am_kd_sR, am_tc_sI, am_tc_sL, am_tc_sR, am_len_sI, am_len_sL, am_len_sR, am_rfs, if_true, if_false, am_rdL_sI, am_rR_sL, am_rt_cq, am_kd_cq, am_tc_cq, am_len_cq, am_rd_sL, am_rd_sR, am_rdL_sR, mb', okK_0 ok, sa, okT_200 oka, okL_200 oka, x, z, rt, nI_1]
        rfl
      have st2 : am_ev 155 59 [some (.ref 0), some (.long (lN (q_msk P 36))), some (.retAddr 0), some (.int (nI cell)), some (.int (nI dog)), some (.ref 200), some (.int (nI s.2)), some (.int (nI c)), some (.int (nI (F_end c cell dog)))] [] hb = am_ev 155 21 [some (.ref 0), some (.long (lN (q_msk P 36))), some (.retAddr 0), some (.int (nI cell)), some (.int (nI dog)), some (.ref 200), some (.int (nI (max s.2 (s.1 (F_end c cell dog) + 1)))), some (.int (nI (c + 1))), some (.int (nI (F_end c cell dog)))] [] hb := by
        simp only [e155_0, e155_1, e155_4, e155_7, e155_9, e155_11, e155_12, e155_15, e155_16, e155_18, e155_19, e155_23, e155_25, e155_28, e155_29, e155_31, e155_32, e155_33, e155_34, e155_35, e155_36, e155_39, e155_40, e155_42, e155_43, e155_45, e155_48, e155_50, e155_52, e155_54, e155_55, e155_56, e155_57, e155_58, e155_59, e155_61, e155_63, e155_65, e155_66, e155_69, e155_71, e155_74, e155_77, e155_79, am_bd_some, Option.toList_some, Option.toList_none, List.cons_append, List.nil_append, am_w8_0, am_w8_1, am_w8_2, am_w8_3, am_w8_4, eq_self, or_true, true_or, am_kd_sI, am_kd_sL, am_kd_sR, am_tc_sI, am_tc_sL, am_tc_sR, am_len_sI, am_len_sL, am_len_sR, am_rfs, if_true, if_false, am_rdL_sI, am_rR_sL, am_rt_cq, am_kd_cq, am_tc_cq, am_len_cq, am_rd_sL, am_rd_sR, am_rdL_sR, okT_200 okb, okL_200 okb, x, z, rb, mx, nI_1]
      simp only [e155_0, e155_1, e155_4, e155_7, e155_9, e155_11, e155_12, e155_15, e155_16, e155_18, e155_19, e155_23, e155_25, e155_29, e155_31, e155_32, e155_33, e155_34, e155_35, e155_36, e155_39, e155_40, e155_42, e155_43, e155_45, e155_48, e155_50, e155_52, e155_54, e155_55, e155_56, e155_57, e155_58, e155_59, e155_61, e155_63, e155_65, e155_66, e155_69, e155_71, e155_74, e155_77, e155_79, am_bd_some, Option.toList_some, Option.toList_none, List.cons_append, List.nil_append, am_w8_0, am_w8_1, am_w8_2, am_w8_3, am_w8_4, eq_self, or_true, true_or, am_kd_sI, am_kd_sL, am_kd_sR, am_tc_sI, am_tc_sL, am_tc_sR, am_len_sI, am_len_sL, am_len_sR, am_rfs, if_true, if_false, am_rdL_sI, am_rR_sL, am_rt_cq, am_kd_cq, am_tc_cq, am_len_cq, am_rd_sL, am_rd_sR, am_rdL_sR, h1]
      rw [st, st2]
      exact s2
theorem den_alike (P : Nat → Bool) (cell dog : Nat) (hc : cell < 64) (hd : dog < 64) (h : am_H) (ok : am_okH h) : ∃ h' : am_H, q_lgx h h' ∧ am_den 155 [.ref 0, .long (lN (q_msk P 36)), .int (nI cell), .int (nI dog)] h = some (some (.int (nI (q_alk (q_ls P 36) cell dog))), h') := by
  have df := den_fill 200 64 0 h (okK_200 ok) (by decide)
  have f0 : q_lgx h (q_fill 200 64 0 h) := ⟨rfl, fun _ _ _ => rfl, fun a k _ w => ⟨by rw [q_fill_rd, if_neg (fun v => w v.1)], rfl⟩⟩
  have ok0 : am_okH (q_fill 200 64 0 h) := ok
  obtain ⟨h1, f1, s1⟩ := q_al_l P cell dog hc hd 36 0 (fun _ => 0, 0) (q_fill 200 64 0 h) none (by omega) ok0 (fun k hk => by rw [q_fill_rd, if_pos ⟨rfl, hk⟩]; rfl) (fun _ => Nat.le_refl _) (Nat.le_refl _)
  have e : (List.range' 0 36).filter P = q_ls P 36 := by
    unfold q_ls
    rw [List.range_eq_range']
  rw [e, nI_0] at s1
  refine ⟨h1, f0.tr f1, ?_⟩
  show am_ev 155 0 [some (.ref 0), some (.long (lN (q_msk P 36))), some (.retAddr 0), some (.int (nI cell)), some (.int (nI dog)), none, none, none, none] [] h = _
  simp only [e155_0, e155_1, e155_4, e155_7, e155_9, e155_11, e155_12, e155_15, e155_16, e155_18, e155_19, e155_23, e155_25, e155_28, e155_29, e155_31, e155_32, e155_33, e155_34, e155_35, e155_36, e155_39, e155_40, e155_42, e155_43, e155_45, e155_48, e155_50, e155_52, e155_54, e155_55, e155_56, e155_57, e155_58, e155_59, e155_61, e155_63, e155_65, e155_66, e155_69, e155_71, e155_74, e155_77, e155_79, am_bd_some, Option.toList_some, Option.toList_none, List.cons_append, List.nil_append, am_w8_0, am_w8_1, am_w8_2, am_w8_3, am_w8_4, eq_self, or_true, true_or, am_kd_sI, am_kd_sL, am_kd_sR, am_tc_sI, am_tc_sL, am_tc_sR, am_len_sI, am_len_sL, am_len_sR, am_rfs, if_true, if_false, am_rdL_sI, am_rR_sL, am_rt_cq, am_kd_cq, am_tc_cq, am_len_cq, am_rd_sL, am_rd_sR, am_rdL_sR, okK_0 ok, okR_0_8 ok, okK_199 ok, okR_199_0 ok, df]
  exact s1
/-- the best place so far -/
def L_as (L : List Nat) (cell : Nat) (s : Option (Nat × Nat)) (dog : Nat) : Option (Nat × Nat) := if dog = cell then s else match s with
  | none => some (dog, q_alk L cell dog)
  | some (b, v) => if q_alk L cell dog < v then some (dog, q_alk L cell dog) else some (b, v)
theorem L_as_0 {L : List Nat} {cell dog : Nat} {s : Option (Nat × Nat)} (h : dog = cell) : L_as L cell s dog = s := if_pos h
theorem L_as_1 {L : List Nat} {cell dog : Nat} (h : dog ≠ cell) : L_as L cell none dog = some (dog, q_alk L cell dog) := if_neg h
theorem L_as_2 {L : List Nat} {cell dog b v : Nat} (h : dog ≠ cell) (l : q_alk L cell dog < v) : L_as L cell (some (b, v)) dog = some (dog, q_alk L cell dog) := (if_neg h).trans (if_pos l)
theorem L_as_3 {L : List Nat} {cell dog b v : Nat} (h : dog ≠ cell) (l : ¬ q_alk L cell dog < v) : L_as L cell (some (b, v)) dog = some (b, v) := (if_neg h).trans (if_neg l)
theorem q_ask_c (P : Nat → Bool) (a1 : Int32) (cell : Nat) (hc : cell < 64) : ∀ (r d : Nat) (s : Option (Nat × Nat)) (h : am_H) (z8 : Option Value), d + r = 64 → am_okH h → (∀ b v, s = some (b, v) → b < 64 ∧ v ≤ 36) → ∃ h' : am_H, q_lgx h h' ∧ am_ev 154 55 [some (.ref 0), some (.int a1), some (.int (nI cell)), some (.long (lN (q_msk P 36))), some (.retAddr 0), some (.int (q_m1o s)), some (.int (q_m2o s)), some (.int (nI d)), z8] [] h = some (some (.int (q_m1o ((List.range' d r).foldl (L_as (q_ls P 36) cell) s))), h') := by
  have l36 := q_ls_le P 36
  intro r
  induction r with
  | zero =>
    intro d s h z8 hd ok hs
    obtain rfl : d = 64 := by omega
    have h1 : (64 : Int32) ≤ nI 64 := by decide
    refine ⟨h, q_lgx.rf h, ?_⟩
    rw [e154_55]
    simp only [e154_0, e154_1, e154_4, e154_5, e154_6, e154_9, e154_12, e154_13, e154_16, e154_17, e154_19, e154_22, e154_23, e154_24, e154_25, e154_26, e154_29, e154_32, e154_33f, e154_33d, e154_33b, e154_33l, e154_33t, e154_34, e154_37, e154_38, e154_39, e154_40, e154_41, e154_44, e154_45, e154_46, e154_47, e154_49, e154_50, e154_52, e154_53, e154_57, e154_59, e154_62, e154_64, e154_65, e154_68, e154_71, e154_72, e154_73, e154_74, e154_76, e154_79, e154_81, e154_83, e154_84, e154_87, e154_89, e154_91, e154_94, e154_96, e154_98, e154_100, e154_102, e154_105, e154_108, e154_110, am_bd_some, Option.toList_some, Option.toList_none, List.cons_append, List.nil_append, am_w8_0, am_w8_1, am_w8_2, am_w8_3, am_w8_4, eq_self, or_true, true_or, am_kd_sI, am_kd_sL, am_kd_sR, am_tc_sI, am_tc_sL, am_tc_sR, am_len_sI, am_len_sL, am_len_sR, am_rfs, if_true, if_false, am_rdL_sI, am_rR_sL, am_rt_cq, am_kd_cq, am_tc_cq, am_len_cq, am_rd_sL, am_rd_sR, am_rdL_sR, h1, List.range'_zero, List.foldl_nil]
  | succ r ih =>
    intro d s h z8 hd ok hs
    have h1 : ¬ (64 : Int32) ≤ nI d := fun w => nI_ge (b := 64) (a := d) (by omega) (by decide) w
    have ce : nI d = nI cell ↔ d = cell := nI_eq (by omega) (by omega)
    rw [List.range'_succ, List.foldl_cons, e154_55]
    by_cases c : d = cell
    · rw [L_as_0 c]
      have c' := eq_true (ce.mpr c)
      obtain ⟨h2, f2, s2⟩ := ih (d + 1) s h z8 (by omega) ok hs
      refine ⟨h2, f2, ?_⟩
      simp only [e154_0, e154_1, e154_4, e154_5, e154_6, e154_9, e154_12, e154_13, e154_16, e154_17, e154_19, e154_22, e154_23, e154_24, e154_25, e154_26, e154_29, e154_32, e154_33f, e154_33d, e154_33b, e154_33l, e154_33t, e154_34, e154_37, e154_38, e154_39, e154_40, e154_41, e154_44, e154_45, e154_46, e154_47, e154_49, e154_50, e154_52, e154_53, e154_57, e154_59, e154_62, e154_64, e154_65, e154_68, e154_71, e154_72, e154_73, e154_74, e154_76, e154_79, e154_81, e154_83, e154_84, e154_87, e154_89, e154_91, e154_94, e154_96, e154_98, e154_100, e154_102, e154_105, e154_108, e154_110, am_bd_some, Option.toList_some, Option.toList_none, List.cons_append, List.nil_append, am_w8_0, am_w8_1, am_w8_2, am_w8_3, am_w8_4, eq_self, or_true, true_or, am_kd_sI, am_kd_sL, am_kd_sR, am_tc_sI, am_tc_sL, am_tc_sR, am_len_sI, am_len_sL, am_len_sR, am_rfs, if_true, if_false, am_rdL_sI, am_rR_sL, am_rt_cq, am_kd_cq, am_tc_cq, am_len_cq, am_rd_sL, am_rd_sR, am_rdL_sR, h1, c', not_true, nI_1]
      exact s2
    · have c' : ¬ nI d = nI cell := fun w => c (ce.mp w)
      obtain ⟨ha, fa, sa⟩ := den_alike P cell d hc (by omega) h ok
      have oka := fa.ok ok
      have al := q_alk_le l36 cell d
      have new := ih (d + 1) (some (d, q_alk (q_ls P 36) cell d)) ha (some (.int (nI (q_alk (q_ls P 36) cell d)))) (by omega) oka (fun b v w => by cases w; omega)
      cases s with
      | none =>
        rw [L_as_1 c]
        obtain ⟨h2, f2, s2⟩ := new
        have q1 : q_m1o none = -1 := rfl
        refine ⟨h2, fa.tr f2, ?_⟩
        simp only [e154_0, e154_1, e154_4, e154_5, e154_6, e154_9, e154_12, e154_13, e154_16, e154_17, e154_19, e154_22, e154_23, e154_24, e154_25, e154_26, e154_29, e154_32, e154_33f, e154_33d, e154_33b, e154_33l, e154_33t, e154_34, e154_37, e154_38, e154_39, e154_40, e154_41, e154_44, e154_45, e154_46, e154_47, e154_49, e154_50, e154_52, e154_53, e154_57, e154_59, e154_62, e154_64, e154_65, e154_68, e154_71, e154_72, e154_73, e154_74, e154_76, e154_79, e154_81, e154_83, e154_84, e154_87, e154_89, e154_91, e154_94, e154_96, e154_98, e154_100, e154_102, e154_105, e154_108, e154_110, am_bd_some, Option.toList_some, Option.toList_none, List.cons_append, List.nil_append, am_w8_0, am_w8_1, am_w8_2, am_w8_3, am_w8_4, eq_self, or_true, true_or, am_kd_sI, am_kd_sL, am_kd_sR, am_tc_sI, am_tc_sL, am_tc_sR, am_len_sI, am_len_sL, am_len_sR, am_rfs, if_true, if_false, am_rdL_sI, am_rR_sL, am_rt_cq, am_kd_cq, am_tc_cq, am_len_cq, am_rd_sL, am_rd_sR, am_rdL_sR, h1, c', not_false_eq_true, okK_0 ok, sa, q1, nI_1]
        exact s2
      | some p =>
        obtain ⟨b, v⟩ := p
        obtain ⟨b64, v36⟩ := hs b v rfl
        have q1 : ¬ q_m1o (some (b, v)) = -1 := q_m1_n b (by omega)
        have q2 : q_m2o (some (b, v)) = nI v := rfl
        have cm : nI v ≤ nI (q_alk (q_ls P 36) cell d) ↔ v ≤ q_alk (q_ls P 36) cell d := nI_leI (by omega) (by omega)
        by_cases m : q_alk (q_ls P 36) cell d < v
        · rw [L_as_2 c m]
          have m' : ¬ nI v ≤ nI (q_alk (q_ls P 36) cell d) := fun w => by have := cm.mp w; omega
          obtain ⟨h2, f2, s2⟩ := new
          refine ⟨h2, fa.tr f2, ?_⟩
          simp only [e154_0, e154_1, e154_4, e154_5, e154_6, e154_9, e154_12, e154_13, e154_16, e154_17, e154_19, e154_22, e154_23, e154_24, e154_25, e154_26, e154_29, e154_32, e154_33f, e154_33d, e154_33b, e154_33l, e154_33t, e154_34, e154_37, e154_38, e154_39, e154_40, e154_41, e154_44, e154_45, e154_46, e154_47, e154_49, e154_50, e154_52, e154_53, e154_57, e154_59, e154_62, e154_64, e154_65, e154_68, e154_71, e154_72, e154_73, e154_74, e154_76, e154_79, e154_81, e154_83, e154_84, e154_87, e154_89, e154_91, e154_94, e154_96, e154_98, e154_100, e154_102, e154_105, e154_108, e154_110, am_bd_some, Option.toList_some, Option.toList_none, List.cons_append, List.nil_append, am_w8_0, am_w8_1, am_w8_2, am_w8_3, am_w8_4, eq_self, or_true, true_or, am_kd_sI, am_kd_sL, am_kd_sR, am_tc_sI, am_tc_sL, am_tc_sR, am_len_sI, am_len_sL, am_len_sR, am_rfs, if_true, if_false, am_rdL_sI, am_rR_sL, am_rt_cq, am_kd_cq, am_tc_cq, am_len_cq, am_rd_sL, am_rd_sR, am_rdL_sR, h1, c', not_false_eq_true, okK_0 ok, sa, q1, q2, m', nI_1]
          exact s2
        · rw [L_as_3 c m]
          have m' : nI v ≤ nI (q_alk (q_ls P 36) cell d) := cm.mpr (by omega)
          obtain ⟨h2, f2, s2⟩ := ih (d + 1) (some (b, v)) ha (some (.int (nI (q_alk (q_ls P 36) cell d)))) (by omega) oka hs
          refine ⟨h2, fa.tr f2, ?_⟩
          simp only [e154_0, e154_1, e154_4, e154_5, e154_6, e154_9, e154_12, e154_13, e154_16, e154_17, e154_19, e154_22, e154_23, e154_24, e154_25, e154_26, e154_29, e154_32, e154_33f, e154_33d, e154_33b, e154_33l, e154_33t, e154_34, e154_37, e154_38, e154_39, e154_40, e154_41, e154_44, e154_45, e154_46, e154_47, e154_49, e154_50, e154_52, e154_53, e154_57, e154_59, e154_62, e154_64, e154_65, e154_68, e154_71, e154_72, e154_73, e154_74, e154_76, e154_79, e154_81, e154_83, e154_84, e154_87, e154_89, e154_91, e154_94, e154_96, e154_98, e154_100, e154_102, e154_105, e154_108, e154_110, am_bd_some, Option.toList_some, Option.toList_none, List.cons_append, List.nil_append, am_w8_0, am_w8_1, am_w8_2, am_w8_3, am_w8_4, eq_self, or_true, true_or, am_kd_sI, am_kd_sL, am_kd_sR, am_tc_sI, am_tc_sL, am_tc_sR, am_len_sI, am_len_sL, am_len_sR, am_rfs, if_true, if_false, am_rdL_sI, am_rR_sL, am_rt_cq, am_kd_cq, am_tc_cq, am_len_cq, am_rd_sL, am_rd_sR, am_rdL_sR, h1, c', not_false_eq_true, okK_0 ok, sa, q1, q2, m', nI_1]
          exact s2
/-! the reference -/
def q_gbx (h h' : am_H) : Prop := h'.2 = h.2 ∧ ∀ a k, a ≠ 224 → a ≠ 225 → a ≠ 234 → (a = 211 → k ≠ 28 ∧ k ≠ 29 ∧ k ≠ 52 ∧ k ≠ 53) → h'.1 a k = h.1 a k
theorem q_gbx.rf (h : am_H) : q_gbx h h := ⟨rfl, fun _ _ _ _ _ _ => rfl⟩
theorem q_gbx.tr {h h' h'' : am_H} (a : q_gbx h h') (b : q_gbx h' h'') : q_gbx h h'' := ⟨b.1.trans a.1, fun x k p1 p2 p3 p4 => (b.2 x k p1 p2 p3 p4).trans (a.2 x k p1 p2 p3 p4)⟩
theorem q_gbw.x {h h' : am_H} (f : q_gbw h h') : q_gbx h h' := ⟨f.1, fun a k p1 p2 _ p4 => f.2 a k p1 p2 p4⟩
theorem q_gbx.wk {h h' : am_H} (f : q_gbx h h') (ok : am_okH h) : q_wk h h' := ⟨ok.of (congrArg Prod.snd f.1), by rw [f.1], fun a k w => ⟨f.2 a k (by unfold q_told at w; omega) (by unfold q_told at w; omega) (by unfold q_told at w; omega) (by unfold q_told at w; omega), by rw [f.1]⟩⟩
theorem q_gbx.lg {h h' : am_H} (f : q_gbx h h') (m : q_lgM h) : q_lgM h' := by
  obtain ⟨ok, ⟨e1, e2, e3, e4, e5, e6, e7⟩, w⟩ := m
  refine ⟨ok.of (congrArg Prod.snd f.1), ⟨?_, ?_, ?_, ?_, ?_, ?_, ?_⟩, fun c hc => ?_⟩
  · rw [f.2 _ _ (by decide) (by decide) (by decide) (by decide)]; exact e1
  · rw [f.2 _ _ (by decide) (by decide) (by decide) (by decide)]; exact e2
  · rw [f.2 _ _ (by decide) (by decide) (by decide) (by decide)]; exact e3
  · rw [f.2 _ _ (by decide) (by decide) (by decide) (by decide)]; exact e4
  · rw [f.2 _ _ (by decide) (by decide) (by decide) (by decide)]; exact e5
  · rw [f.2 _ _ (by decide) (by decide) (by decide) (by decide)]; exact e6
  · rw [f.2 _ _ (by decide) (by decide) (by decide) (by decide)]; exact e7
  · rw [f.2 _ _ (by decide) (by decide) (by decide) (by omega)]; exact w c hc
theorem q_gbx.fnd {h h' : am_H} (f : q_gbx h h') {L : List Nat} (m : q_fnd h L) : q_fnd h' L := ⟨by rw [f.2 _ _ (by decide) (by decide) (by decide) (by decide)]; exact m.1, fun j hj => by rw [f.2 _ _ (by decide) (by decide) (by decide) (by omega)]; exact m.2 j hj⟩
theorem q_lz_l (h : am_H) (ok : am_okH h) (x1 x2 : Int32) (z4 z5 : Option Value) : ∀ r c, c + r = 64 → am_ev 266 2 [some (.ref 211), some (.int x1), some (.int x2), some (.int (nI c)), z4, z5] [] (q_fn 234 c (fun _ => 0) h) = am_ev 266 21 [some (.ref 211), some (.int x1), some (.int x2), some (.int (nI 64)), z4, z5] [] (q_fn 234 64 (fun _ => 0) h) := by
  intro r
  induction r with
  | zero =>
    intro c hc
    obtain rfl : c = 64 := by omega
    have h1 : (64 : Int32) ≤ nI 64 := by decide
    rw [e266_2]
    simp only [e266_0, e266_1, e266_3, e266_5, e266_8, e266_9, e266_12, e266_13, e266_14, e266_15, e266_18, e266_22, e266_23, e266_24, e266_26, e266_28, e266_29, e266_32, e266_35, e266_36, e266_37, e266_40, e266_42, e266_43, e266_44, e266_45, e266_48, e266_50, e266_51, e266_54, e266_56, e266_57, e266_58, e266_59, e266_60, e266_61, e266_62, e266_63, e266_66, e266_68, e266_69, e266_72, e266_73, e266_76, e266_79, e266_80, am_bd_some, Option.toList_some, Option.toList_none, List.cons_append, List.nil_append, am_w8_0, am_w8_1, am_w8_2, am_w8_3, am_w8_4, eq_self, or_true, true_or, am_kd_sI, am_kd_sL, am_kd_sR, am_tc_sI, am_tc_sL, am_tc_sR, am_len_sI, am_len_sL, am_len_sR, am_rfs, if_true, if_false, am_rdL_sI, am_rR_sL, am_rt_cq, am_kd_cq, am_tc_cq, am_len_cq, am_rd_sL, am_rd_sR, am_rdL_sR, h1]
  | succ r ih =>
    intro c hc
    have h1 : ¬ (64 : Int32) ≤ nI c := fun w => nI_ge (b := 64) (a := c) (by omega) (by decide) w
    have o1 : am_okH (q_fn 234 c (fun _ => 0) h) := ok
    have x : am_ix (nI c) 64 = true := am_ix_nI (by omega) (by decide)
    have z : (nI c).toNatClampNeg = c := nI_clamp (by omega)
    have st : am_sI (q_fn 234 c (fun _ => 0) h) 234 c 0 = q_fn 234 (c + 1) (fun _ => 0) h := q_fn_s 234 c (fun _ => 0) h
    rw [e266_2]
    simp only [e266_0, e266_1, e266_3, e266_5, e266_8, e266_9, e266_12, e266_13, e266_14, e266_15, e266_18, e266_22, e266_23, e266_24, e266_26, e266_28, e266_29, e266_32, e266_35, e266_36, e266_37, e266_40, e266_42, e266_43, e266_44, e266_45, e266_48, e266_50, e266_51, e266_54, e266_56, e266_57, e266_58, e266_59, e266_60, e266_61, e266_62, e266_63, e266_66, e266_68, e266_69, e266_72, e266_73, e266_76, e266_79, e266_80, am_bd_some, Option.toList_some, Option.toList_none, List.cons_append, List.nil_append, am_w8_0, am_w8_1, am_w8_2, am_w8_3, am_w8_4, eq_self, or_true, true_or, am_kd_sI, am_kd_sL, am_kd_sR, am_tc_sI, am_tc_sL, am_tc_sR, am_len_sI, am_len_sL, am_len_sR, am_rfs, if_true, if_false, am_rdL_sI, am_rR_sL, am_rt_cq, am_kd_cq, am_tc_cq, am_len_cq, am_rd_sL, am_rd_sR, am_rdL_sR, h1, okK_211 o1, okR_211_54 o1, okT_234 o1, okL_234 o1, x, z, st, nI_1]
    exact ih (c + 1) (by omega)
theorem q_la_l (L : List Nat) (hL : ∀ c, c ∈ L → c < 36) (h36 : L.length ≤ 36) (cell dog : Nat) (hc : cell < 64) (hd : dog < 64) : ∀ (r j : Nat) (s : (Nat → Nat) × Nat) (h : am_H) (z5 : Option Value), j + r = L.length → q_lgM h → q_fnd h L → (∀ k, k < 64 → h.1 234 k = nI (s.1 k)) → (∀ k, s.1 k ≤ j) → s.2 ≤ j → ∃ h' : am_H, q_gbx h h' ∧ am_ev 266 26 [some (.ref 211), some (.int (nI cell)), some (.int (nI dog)), some (.int (nI s.2)), some (.int (nI j)), z5] [] h = some (some (.int (nI ((L.drop j).foldl (q_gst cell dog) s).2)), h') := by
  intro r
  induction r with
  | zero =>
    intro j s h z5 hr lg fd hs b1 b2
    have ok := lg.1
    have h1 : nI L.length ≤ nI j := nI_le (by omega) (by omega)
    have e : L.drop j = [] := List.drop_eq_nil_of_le (by omega)
    refine ⟨h, q_gbx.rf h, ?_⟩
    rw [e, e266_26]
    simp only [e266_0, e266_1, e266_2, e266_3, e266_5, e266_8, e266_9, e266_12, e266_13, e266_14, e266_15, e266_18, e266_21, e266_22, e266_23, e266_24, e266_28, e266_29, e266_32, e266_35, e266_36, e266_37, e266_40, e266_42, e266_43, e266_44, e266_45, e266_48, e266_50, e266_51, e266_54, e266_56, e266_57, e266_58, e266_59, e266_60, e266_61, e266_62, e266_63, e266_66, e266_68, e266_69, e266_72, e266_73, e266_76, e266_79, e266_80, am_bd_some, Option.toList_some, Option.toList_none, List.cons_append, List.nil_append, am_w8_0, am_w8_1, am_w8_2, am_w8_3, am_w8_4, eq_self, or_true, true_or, am_kd_sI, am_kd_sL, am_kd_sR, am_tc_sI, am_tc_sL, am_tc_sR, am_len_sI, am_len_sL, am_len_sR, am_rfs, if_true, if_false, am_rdL_sI, am_rR_sL, am_rt_cq, am_kd_cq, am_tc_cq, am_len_cq, am_rd_sL, am_rd_sR, am_rdL_sR, okK_211 ok, fd.1, h1, List.foldl_nil]
  | succ r ih =>
    intro j s h z5 hr lg fd hs b1 b2
    have ok := lg.1
    have h1 : ¬ nI L.length ≤ nI j := nI_ge (by omega) (by omega)
    obtain ⟨c36, rd⟩ := q_mown h L fd ok hL h36 j (by omega)
    have xj : am_ix (nI j) 36 = true := am_ix_nI (by omega) (by decide)
    have zj : (nI j).toNatClampNeg = j := nI_clamp (by omega)
    rw [q_drop_c (by omega), List.foldl_cons, e266_26]
    generalize L.getD j 0 = c at *
    obtain ⟨ha, fa, -, -, sa⟩ := den_goesBy h lg c cell dog c36 hc hd
    have lga := fa.lg lg
    have oka := lga.1
    have el := F_end_lt (code := c) (b := cell) (d := dog) c36 hc hd
    have ra : ∀ k, k < 64 → ha.1 234 k = nI (s.1 k) := fun k hk => by rw [fa.2 234 k (by decide) (by decide) (by omega)]; exact hs k hk
    have x : am_ix (nI (F_end c cell dog)) 64 = true := am_ix_nI (by omega) (by decide)
    have z : (nI (F_end c cell dog)).toNatClampNeg = F_end c cell dog := nI_clamp (by omega)
    have rt := ra (F_end c cell dog) el
    let hb : am_H := am_sI ha 234 (F_end c cell dog) (nI (s.1 (F_end c cell dog) + 1))
    have fb : q_gbx ha hb := ⟨rfl, fun a k _ _ w _ => by
      show (am_sI ha 234 (F_end c cell dog) (nI (s.1 (F_end c cell dog) + 1))).1 a k = _
      rw [am_rd_sI, if_neg (fun v => w v.1)]⟩
    have okb : am_okH hb := oka
    have rb : hb.1 234 (F_end c cell dog) = nI (s.1 (F_end c cell dog) + 1) := by
      show (am_sI ha 234 (F_end c cell dog) (nI (s.1 (F_end c cell dog) + 1))).1 234 (F_end c cell dog) = _
      rw [am_rd_sI, if_pos ⟨rfl, rfl⟩]
    have b1e := b1 (F_end c cell dog)
    have mx := q_imax2 (a := s.2) (b := s.1 (F_end c cell dog) + 1) (by omega) (by omega)
    have dg := den_greater (nI s.2) (nI (s.1 (F_end c cell dog) + 1)) hb
    rw [mx] at dg
    obtain ⟨h2, f2, s2⟩ := ih (j + 1) (q_gst cell dog s c) hb (some (.int (nI (F_end c cell dog)))) (by omega) (fb.lg lga) (fb.fnd (fa.fnd fd)) (fun k hk => by
      show (am_sI ha 234 (F_end c cell dog) (nI (s.1 (F_end c cell dog) + 1))).1 234 k = nI (q_up s.1 (F_end c cell dog) (s.1 (F_end c cell dog) + 1) k)
      unfold q_up
      rw [am_rd_sI]
      by_cases w : k = F_end c cell dog
      · rw [if_pos ⟨rfl, w⟩, if_pos w]
      · rw [if_neg (fun v => w v.2), if_neg w]
        exact ra k hk) (fun k => by
      show q_up s.1 (F_end c cell dog) (s.1 (F_end c cell dog) + 1) k ≤ _
      unfold q_up
      split
      · omega
      · have := b1 k; omega) (by
      show max s.2 (s.1 (F_end c cell dog) + 1) ≤ _
      omega)
    have q2 : (q_gst cell dog s c).2 = max s.2 (s.1 (F_end c cell dog) + 1) := rfl
    rw [q2] at s2
    refine ⟨h2, fa.x.tr (fb.tr f2), ?_⟩
    have st : am_ev 266 35 [some (.ref 211), some (.int (nI cell)), some (.int (nI dog)), some (.int (nI s.2)), some (.int (nI j)), z5] [] h = am_ev 266 61 [some (.ref 211), some (.int (nI cell)), some (.int (nI dog)), some (.int (nI s.2)), some (.int (nI j)), some (.int (nI (F_end c cell dog)))] [] hb := by
      simp only [e266_0, e266_1, e266_2, e266_3, e266_5, e266_8, e266_9, e266_12, e266_13, e266_14, e266_15, e266_18, e266_21, e266_22, e266_23, e266_24, e266_26, e266_28, e266_29, e266_32, e266_35, e266_36, e266_37, e266_40, e266_42, e266_43, e266_44, e266_45, e266_48, e266_50, e266_51, e266_54, e266_56, e266_57, e266_58, e266_59, e266_60, e266_62, e266_63, e266_66, e266_68, e266_69, e266_72, e266_73, e266_76, e266_79, e266_80, am_bd_some, Option.toList_some, Option.toList_none, List.cons_append, List.nil_append, am_w8_0, am_w8_1, am_w8_2, am_w8_3, am_w8_4, eq_self, or_true, true_or, am_kd_sI, am_kd_sL, am_kd_sR, am_tc_sI, am_tc_sL, am_tc_sR, am_len_sI, am_len_sL, am_len_sR, am_rfs, if_true, if_false, am_rdL_sI, am_rR_sL, am_rt_cq, am_kd_cq, am_tc_cq, am_len_cq, am_rd_sL, am_rd_sR, am_rdL_sR, okK_211 ok, okR_211_50 ok, okT_233 ok, okL_233 ok, xj, zj, rd, sa, okK_211 oka, okR_211_54 oka, okT_234 oka, okL_234 oka, x, z, rt, nI_1]
      rfl
    have st2 : am_ev 266 61 [some (.ref 211), some (.int (nI cell)), some (.int (nI dog)), some (.int (nI s.2)), some (.int (nI j)), some (.int (nI (F_end c cell dog)))] [] hb = am_ev 266 26 [some (.ref 211), some (.int (nI cell)), some (.int (nI dog)), some (.int (nI (max s.2 (s.1 (F_end c cell dog) + 1)))), some (.int (nI (j + 1))), some (.int (nI (F_end c cell dog)))] [] hb := by
      simp only [e266_0, e266_1, e266_2, e266_3, e266_5, e266_8, e266_9, e266_12, e266_13, e266_14, e266_15, e266_18, e266_21, e266_22, e266_23, e266_24, e266_28, e266_29, e266_32, e266_35, e266_36, e266_37, e266_40, e266_42, e266_43, e266_44, e266_45, e266_48, e266_50, e266_51, e266_54, e266_56, e266_57, e266_58, e266_59, e266_60, e266_61, e266_62, e266_63, e266_66, e266_68, e266_69, e266_72, e266_73, e266_76, e266_79, e266_80, am_bd_some, Option.toList_some, Option.toList_none, List.cons_append, List.nil_append, am_w8_0, am_w8_1, am_w8_2, am_w8_3, am_w8_4, eq_self, or_true, true_or, am_kd_sI, am_kd_sL, am_kd_sR, am_tc_sI, am_tc_sL, am_tc_sR, am_len_sI, am_len_sL, am_len_sR, am_rfs, if_true, if_false, am_rdL_sI, am_rR_sL, am_rt_cq, am_kd_cq, am_tc_cq, am_len_cq, am_rd_sL, am_rd_sR, am_rdL_sR, okK_211 okb, okR_211_54 okb, okT_234 okb, okL_234 okb, x, z, rb, dg, nI_1]
    simp only [e266_0, e266_1, e266_2, e266_3, e266_5, e266_8, e266_9, e266_12, e266_13, e266_14, e266_15, e266_18, e266_21, e266_22, e266_23, e266_24, e266_28, e266_29, e266_32, e266_36, e266_37, e266_40, e266_42, e266_43, e266_44, e266_45, e266_48, e266_50, e266_51, e266_54, e266_56, e266_57, e266_58, e266_59, e266_60, e266_61, e266_62, e266_63, e266_66, e266_68, e266_69, e266_72, e266_73, e266_76, e266_79, e266_80, am_bd_some, Option.toList_some, Option.toList_none, List.cons_append, List.nil_append, am_w8_0, am_w8_1, am_w8_2, am_w8_3, am_w8_4, eq_self, or_true, true_or, am_kd_sI, am_kd_sL, am_kd_sR, am_tc_sI, am_tc_sL, am_tc_sR, am_len_sI, am_len_sL, am_len_sR, am_rfs, if_true, if_false, am_rdL_sI, am_rR_sL, am_rt_cq, am_kd_cq, am_tc_cq, am_len_cq, am_rd_sL, am_rd_sR, am_rdL_sR, okK_211 ok, fd.1, h1]
    rw [st, st2]
    exact s2
theorem den_largest (L : List Nat) (hL : ∀ c, c ∈ L → c < 36) (h36 : L.length ≤ 36) (cell dog : Nat) (hc : cell < 64) (hd : dog < 64) (h : am_H) (lg : q_lgM h) (fd : q_fnd h L) : ∃ h' : am_H, q_gbx h h' ∧ am_den 266 [.ref 211, .int (nI cell), .int (nI dog)] h = some (some (.int (nI (q_alk L cell dog))), h') := by
  have ok := lg.1
  have lp := q_lz_l h ok (nI cell) (nI dog) none none 64 0 (by omega)
  rw [q_fn_0, nI_0] at lp
  have f0 : q_gbx h (q_fn 234 64 (fun _ => 0) h) := ⟨rfl, fun a k _ _ w _ => by rw [q_fn_rd, if_neg (fun v => w v.1)]⟩
  obtain ⟨h1, f1, s1⟩ := q_la_l L hL h36 cell dog hc hd L.length 0 (fun _ => 0, 0) (q_fn 234 64 (fun _ => 0) h) none (by omega) (f0.lg lg) (f0.fnd fd) (fun k hk => by rw [q_fn_rd, if_pos ⟨rfl, hk⟩]; rfl) (fun _ => Nat.le_refl _) (Nat.le_refl _)
  rw [nI_0] at s1
  refine ⟨h1, f0.tr f1, ?_⟩
  show am_ev 266 0 [some (.ref 211), some (.int (nI cell)), some (.int (nI dog)), none, none, none] [] h = _
  have s0 : am_ev 266 0 [some (.ref 211), some (.int (nI cell)), some (.int (nI dog)), none, none, none] [] h = am_ev 266 2 [some (.ref 211), some (.int (nI cell)), some (.int (nI dog)), some (.int 0), none, none] [] h := by
    simp only [e266_0, e266_1, e266_3, e266_5, e266_8, e266_9, e266_12, e266_13, e266_14, e266_15, e266_18, e266_21, e266_22, e266_23, e266_24, e266_26, e266_28, e266_29, e266_32, e266_35, e266_36, e266_37, e266_40, e266_42, e266_43, e266_44, e266_45, e266_48, e266_50, e266_51, e266_54, e266_56, e266_57, e266_58, e266_59, e266_60, e266_61, e266_62, e266_63, e266_66, e266_68, e266_69, e266_72, e266_73, e266_76, e266_79, e266_80, am_bd_some, Option.toList_some, Option.toList_none, List.cons_append, List.nil_append, am_w8_0, am_w8_1, am_w8_2, am_w8_3, am_w8_4, eq_self, or_true, true_or, am_kd_sI, am_kd_sL, am_kd_sR, am_tc_sI, am_tc_sL, am_tc_sR, am_len_sI, am_len_sL, am_len_sR, am_rfs, if_true, if_false, am_rdL_sI, am_rR_sL, am_rt_cq, am_kd_cq, am_tc_cq, am_len_cq, am_rd_sL, am_rd_sR, am_rdL_sR]
  have s3 : am_ev 266 21 [some (.ref 211), some (.int (nI cell)), some (.int (nI dog)), some (.int (nI 64)), none, none] [] (q_fn 234 64 (fun _ => 0) h) = am_ev 266 26 [some (.ref 211), some (.int (nI cell)), some (.int (nI dog)), some (.int 0), some (.int 0), none] [] (q_fn 234 64 (fun _ => 0) h) := by
    simp only [e266_0, e266_1, e266_2, e266_3, e266_5, e266_8, e266_9, e266_12, e266_13, e266_14, e266_15, e266_18, e266_21, e266_22, e266_23, e266_24, e266_28, e266_29, e266_32, e266_35, e266_36, e266_37, e266_40, e266_42, e266_43, e266_44, e266_45, e266_48, e266_50, e266_51, e266_54, e266_56, e266_57, e266_58, e266_59, e266_60, e266_61, e266_62, e266_63, e266_66, e266_68, e266_69, e266_72, e266_73, e266_76, e266_79, e266_80, am_bd_some, Option.toList_some, Option.toList_none, List.cons_append, List.nil_append, am_w8_0, am_w8_1, am_w8_2, am_w8_3, am_w8_4, eq_self, or_true, true_or, am_kd_sI, am_kd_sL, am_kd_sR, am_tc_sI, am_tc_sL, am_tc_sR, am_len_sI, am_len_sL, am_len_sR, am_rfs, if_true, if_false, am_rdL_sI, am_rR_sL, am_rt_cq, am_kd_cq, am_tc_cq, am_len_cq, am_rd_sL, am_rd_sR, am_rdL_sR]
  rw [s0, lp, s3]
  exact s1
theorem q_ask_m (L : List Nat) (hL : ∀ c, c ∈ L → c < 36) (h36 : L.length ≤ 36) (h0 : 0 < L.length) (a1 : Int32) (cell : Nat) (hc : cell < 64) : ∀ (r d : Nat) (s : Option (Nat × Nat)) (h : am_H) (z6 : Option Value), d + r = 64 → q_lgM h → q_fnd h L → (∀ b v, s = some (b, v) → b < 64 ∧ v ≤ 36) → ∃ h' : am_H, q_gbx h h' ∧ am_ev 265 39 [some (.ref 211), some (.int a1), some (.int (nI cell)), some (.int (q_m1o s)), some (.int (nI (q_n2 s))), some (.int (nI d)), z6] [] h = some (some (.int (q_m1o ((List.range' d r).foldl (L_as L cell) s))), h') := by
  have np : ¬ nI L.length ≤ 0 := nI_nle h0 (by omega)
  intro r
  induction r with
  | zero =>
    intro d s h z6 hd lg fd hs
    obtain rfl : d = 64 := by omega
    have h1 : (64 : Int32) ≤ nI 64 := by decide
    refine ⟨h, q_gbx.rf h, ?_⟩
    rw [e265_39]
    simp only [e265_0, e265_1, e265_2, e265_5, e265_6, e265_7, e265_10, e265_13, e265_14, e265_15, e265_17, e265_20, e265_23, e265_24, e265_25, e265_26, e265_29, e265_30, e265_31, e265_34, e265_36, e265_37, e265_41, e265_43, e265_46, e265_47, e265_50, e265_53, e265_55, e265_56, e265_59, e265_62, e265_65, e265_66, e265_67, e265_69, e265_72, e265_74, e265_76, e265_78, e265_81, e265_83, e265_86, e265_87, e265_88, e265_90, e265_92, e265_95, e265_97, e265_100, e265_103, e265_104, am_bd_some, Option.toList_some, Option.toList_none, List.cons_append, List.nil_append, am_w8_0, am_w8_1, am_w8_2, am_w8_3, am_w8_4, eq_self, or_true, true_or, am_kd_sI, am_kd_sL, am_kd_sR, am_tc_sI, am_tc_sL, am_tc_sR, am_len_sI, am_len_sL, am_len_sR, am_rfs, if_true, if_false, am_rdL_sI, am_rR_sL, am_rt_cq, am_kd_cq, am_tc_cq, am_len_cq, am_rd_sL, am_rd_sR, am_rdL_sR, h1, List.range'_zero, List.foldl_nil]
  | succ r ih =>
    intro d s h z6 hd lg fd hs
    have ok := lg.1
    have h1 : ¬ (64 : Int32) ≤ nI d := fun w => nI_ge (b := 64) (a := d) (by omega) (by decide) w
    have ce : nI d = nI cell ↔ d = cell := nI_eq (by omega) (by omega)
    have n2 : q_n2 s ≤ 1000000 := by
      cases s with
      | none => exact Nat.le_refl _
      | some p => obtain ⟨b, v⟩ := p; have := (hs b v rfl).2; show v ≤ _; omega
    rw [List.range'_succ, List.foldl_cons, e265_39]
    by_cases c : d = cell
    · rw [L_as_0 c]
      have c' := eq_true (ce.mpr c)
      have cm : nI (q_n2 s) ≤ 1000000 := nI_le (b := 1000000) n2 (by decide)
      have dl := den_lesser (nI (q_n2 s)) 1000000 h
      have mn := q_imin2 (a := q_n2 s) (b := 1000000) (by omega) (by decide)
      have em : min (q_n2 s) 1000000 = q_n2 s := by omega
      rw [em, show nI 1000000 = 1000000 from rfl] at mn
      rw [mn] at dl
      obtain ⟨h2, f2, s2⟩ := ih (d + 1) s h (some (.int 1000000)) (by omega) lg fd hs
      refine ⟨h2, f2, ?_⟩
      simp only [e265_0, e265_1, e265_2, e265_5, e265_6, e265_7, e265_10, e265_13, e265_14, e265_15, e265_17, e265_20, e265_23, e265_24, e265_25, e265_26, e265_29, e265_30, e265_31, e265_34, e265_36, e265_37, e265_41, e265_43, e265_46, e265_47, e265_50, e265_53, e265_55, e265_56, e265_59, e265_62, e265_65, e265_66, e265_67, e265_69, e265_72, e265_74, e265_76, e265_78, e265_81, e265_83, e265_86, e265_87, e265_88, e265_90, e265_92, e265_95, e265_97, e265_100, e265_103, e265_104, am_bd_some, Option.toList_some, Option.toList_none, List.cons_append, List.nil_append, am_w8_0, am_w8_1, am_w8_2, am_w8_3, am_w8_4, eq_self, or_true, true_or, am_kd_sI, am_kd_sL, am_kd_sR, am_tc_sI, am_tc_sL, am_tc_sR, am_len_sI, am_len_sL, am_len_sR, am_rfs, if_true, if_false, am_rdL_sI, am_rR_sL, am_rt_cq, am_kd_cq, am_tc_cq, am_len_cq, am_rd_sL, am_rd_sR, am_rdL_sR, h1, okK_211 ok, fd.1, np, c', not_true, cm, dl, nI_1]
      exact s2
    · have c' : ¬ nI d = nI cell := fun w => c (ce.mp w)
      obtain ⟨ha, fa, sa⟩ := den_largest L hL h36 cell d hc (by omega) h lg fd
      have lga := fa.lg lg
      have oka := lga.1
      have fda := fa.fnd fd
      have al := q_alk_le h36 cell d
      have cm : nI (q_n2 s) ≤ nI (q_alk L cell d) ↔ q_n2 s ≤ q_alk L cell d := nI_leI (by omega) (by omega)
      have mn := q_imin2 (a := q_n2 s) (b := q_alk L cell d) (by omega) (by omega)
      have dl := den_lesser (nI (q_n2 s)) (nI (q_alk L cell d)) ha
      rw [mn] at dl
      by_cases m : q_n2 s ≤ q_alk L cell d
      · have m' := cm.mpr m
        have eg : L_as L cell s d = s := by
          cases s with
          | none => exact absurd m (by show ¬ 1000000 ≤ _; omega)
          | some p => obtain ⟨b, v⟩ := p; exact L_as_3 c (by have : v ≤ _ := m; omega)
        have em : min (q_n2 s) (q_alk L cell d) = q_n2 s := by omega
        rw [em] at dl
        rw [eg]
        obtain ⟨h2, f2, s2⟩ := ih (d + 1) s ha (some (.int (nI (q_alk L cell d)))) (by omega) lga fda hs
        refine ⟨h2, fa.tr f2, ?_⟩
        simp only [e265_0, e265_1, e265_2, e265_5, e265_6, e265_7, e265_10, e265_13, e265_14, e265_15, e265_17, e265_20, e265_23, e265_24, e265_25, e265_26, e265_29, e265_30, e265_31, e265_34, e265_36, e265_37, e265_41, e265_43, e265_46, e265_47, e265_50, e265_53, e265_55, e265_56, e265_59, e265_62, e265_65, e265_66, e265_67, e265_69, e265_72, e265_74, e265_76, e265_78, e265_81, e265_83, e265_86, e265_87, e265_88, e265_90, e265_92, e265_95, e265_97, e265_100, e265_103, e265_104, am_bd_some, Option.toList_some, Option.toList_none, List.cons_append, List.nil_append, am_w8_0, am_w8_1, am_w8_2, am_w8_3, am_w8_4, eq_self, or_true, true_or, am_kd_sI, am_kd_sL, am_kd_sR, am_tc_sI, am_tc_sL, am_tc_sR, am_len_sI, am_len_sL, am_len_sR, am_rfs, if_true, if_false, am_rdL_sI, am_rR_sL, am_rt_cq, am_kd_cq, am_tc_cq, am_len_cq, am_rd_sL, am_rd_sR, am_rdL_sR, h1, okK_211 ok, fd.1, np, c', not_false_eq_true, sa, m', dl, nI_1]
        exact s2
      · have m' : ¬ nI (q_n2 s) ≤ nI (q_alk L cell d) := fun w => m (cm.mp w)
        have eg : L_as L cell s d = some (d, q_alk L cell d) := by
          cases s with
          | none => exact L_as_1 c
          | some p => obtain ⟨b, v⟩ := p; exact L_as_2 c (by have : ¬ v ≤ _ := m; omega)
        have em : min (q_n2 s) (q_alk L cell d) = q_alk L cell d := by omega
        rw [em] at dl
        rw [eg]
        obtain ⟨h2, f2, s2⟩ := ih (d + 1) (some (d, q_alk L cell d)) ha (some (.int (nI (q_alk L cell d)))) (by omega) lga fda (fun b v w => by cases w; omega)
        have q1 : q_m1o (some (d, q_alk L cell d)) = nI d := rfl
        have q2 : q_n2 (some (d, q_alk L cell d)) = q_alk L cell d := rfl
        rw [q1, q2] at s2
        refine ⟨h2, fa.tr f2, ?_⟩
        simp only [e265_0, e265_1, e265_2, e265_5, e265_6, e265_7, e265_10, e265_13, e265_14, e265_15, e265_17, e265_20, e265_23, e265_24, e265_25, e265_26, e265_29, e265_30, e265_31, e265_34, e265_36, e265_37, e265_41, e265_43, e265_46, e265_47, e265_50, e265_53, e265_55, e265_56, e265_59, e265_62, e265_65, e265_66, e265_67, e265_69, e265_72, e265_74, e265_76, e265_78, e265_81, e265_83, e265_86, e265_87, e265_88, e265_90, e265_92, e265_95, e265_97, e265_100, e265_103, e265_104, am_bd_some, Option.toList_some, Option.toList_none, List.cons_append, List.nil_append, am_w8_0, am_w8_1, am_w8_2, am_w8_3, am_w8_4, eq_self, or_true, true_or, am_kd_sI, am_kd_sL, am_kd_sR, am_tc_sI, am_tc_sL, am_tc_sR, am_len_sI, am_len_sL, am_len_sR, am_rfs, if_true, if_false, am_rdL_sI, am_rR_sL, am_rt_cq, am_kd_cq, am_tc_cq, am_len_cq, am_rd_sL, am_rd_sR, am_rdL_sR, h1, okK_211 ok, fd.1, np, c', not_false_eq_true, sa, m', dl, nI_1]
        exact s2
def q_asP (A : q_All) (a c : Int32) : Prop := (0 ≤ a ∧ a < nI (A.2.1 3)) ∧ (0 ≤ c ∧ c ≤ 63) ∧ 0 < (q_ls (L_fit (A.2.2.2.2.2 a.toNatClampNeg)) 36).length
noncomputable def q_asA (A : q_All) (a c : Int32) : Int32 := @ite _ (q_asP A a c) (Classical.propDecidable _) (q_m1o ((List.range' 0 64).foldl (L_as (q_ls (L_fit (A.2.2.2.2.2 a.toNatClampNeg)) 36) c.toNatClampNeg) none)) (-1)
theorem q_msk_0 (P : Nat → Bool) : lg_cmp (lN (q_msk P 36)) 0 = 0 ↔ ¬ 0 < (q_ls P 36).length := by
  have ml := q_msk_lt P 36
  rw [lg_eq0, show (0 : Int64) = lN 0 from rfl, pk_lEQ (by omega) (by decide)]
  constructor
  · intro e w
    have h1 := List.getElem_mem w
    obtain ⟨h2, h3⟩ := q_ls_mem h1
    have t := q_msk_tb P 36 ((q_ls P 36)[0])
    rw [e, decide_eq_true h2, h3] at t
    simp at t
  · intro w
    apply Nat.eq_of_testBit_eq
    intro c
    rw [q_msk_tb, Nat.zero_testBit]
    cases hp : P c with
    | false => simp
    | true =>
      by_cases hc : c < 36
      · exfalso
        apply w
        have : c ∈ q_ls P 36 := List.mem_filter.mpr ⟨List.mem_range.mpr hc, hp⟩
        exact List.length_pos_of_mem this
      · simp [hc]
theorem den_cask {A : q_All} {h : am_H} (H : q_Rel A h) (a c : Int32) : ∃ h' : am_H, q_wk h h' ∧ am_den 154 [.ref 0, .int a, .int c] h = some (some (.int (q_asA A a c)), h') := by
  have ok := H.1
  obtain ⟨c1, c2, c3⟩ := H.cnt 3 (by decide)
  have dh := den_has h ok 3 (by decide) (A.2.1 3) c1 c2 a
  rw [show nI 3 = 3 from rfl] at dh
  have y : (1 : Int32) = 0 ↔ False := by decide
  show ∃ h' : am_H, q_wk h h' ∧ am_ev 154 0 [some (.ref 0), some (.int a), some (.int c), none, none, none, none, none, none] [] h = _
  unfold q_asA
  by_cases ca : 0 ≤ a ∧ a < nI (A.2.1 3)
  · rw [if_pos ca] at dh
    by_cases n1 : c < 0
    · rw [if_neg (fun v => absurd n1 (Int32.not_lt.mpr v.2.1.1))]
      refine ⟨h, q_wk.rf ok, ?_⟩
      simp only [e154_0, e154_1, e154_4, e154_5, e154_6, e154_9, e154_12, e154_13, e154_16, e154_17, e154_19, e154_22, e154_23, e154_24, e154_25, e154_26, e154_29, e154_32, e154_33f, e154_33d, e154_33b, e154_33l, e154_33t, e154_34, e154_37, e154_38, e154_39, e154_40, e154_41, e154_44, e154_45, e154_46, e154_47, e154_49, e154_50, e154_52, e154_53, e154_57, e154_59, e154_62, e154_64, e154_65, e154_68, e154_71, e154_72, e154_73, e154_74, e154_76, e154_79, e154_81, e154_83, e154_84, e154_87, e154_89, e154_91, e154_94, e154_96, e154_98, e154_100, e154_102, e154_105, e154_108, e154_110, am_bd_some, Option.toList_some, Option.toList_none, List.cons_append, List.nil_append, am_w8_0, am_w8_1, am_w8_2, am_w8_3, am_w8_4, eq_self, or_true, true_or, am_kd_sI, am_kd_sL, am_kd_sR, am_tc_sI, am_tc_sL, am_tc_sR, am_len_sI, am_len_sL, am_len_sR, am_rfs, if_true, if_false, am_rdL_sI, am_rR_sL, am_rt_cq, am_kd_cq, am_tc_cq, am_len_cq, am_rd_sL, am_rd_sR, am_rdL_sR, okK_0 ok, okR_0_0 ok, okK_1 ok, dh, y, n1]
    · by_cases n2 : c < 64
      · have n2' : c ≤ 63 := (q_le63 c).mp (Int32.not_le.mpr n2)
        have cc : 0 ≤ c ∧ c ≤ 63 := ⟨Int32.not_lt.mp n1, n2'⟩
        obtain ⟨i, hi, rfl⟩ := q_in2 c1 ca
        obtain ⟨p, hp, rfl⟩ := q_rg 63 (by decide) cc
        obtain ⟨d1, d2, -⟩ := H.lg i hi
        obtain ⟨f, r⟩ := q_lo_now ok i (by omega)
        have z : (nI i).toNatClampNeg = i := nI_clamp (by omega)
        have zp : (nI p).toNatClampNeg = p := nI_clamp (by omega)
        have x : am_ix (nI i) 2 = true := am_ix_nI (by omega) (by decide)
        obtain ⟨h1, f1, s1⟩ := den_fitting (19 + 16 * i) (by omega) _ d1 h ok f d2
        have ok1 := f1.ok ok
        have m0 := q_msk_0 (L_fit (A.2.2.2.2.2 i))
        by_cases l0 : 0 < (q_ls (L_fit (A.2.2.2.2.2 i)) 36).length
        · have P : q_asP A (nI i) (nI p) := ⟨ca, cc, by rw [z]; exact l0⟩
          rw [if_pos P, z, zp]
          have m0' := eq_false (fun w => m0.mp w l0)
          obtain ⟨h2, f2, s2⟩ := q_ask_c (L_fit (A.2.2.2.2.2 i)) (nI i) p (by omega) 64 0 none h1 none (by omega) ok1 (fun b v w => by cases w)
          have q1 : q_m1o none = -1 := rfl
          have q2 : q_m2o none = 0 := rfl
          rw [q1, q2, nI_0] at s2
          refine ⟨h2, (f1.x.tr f2).wk ok, ?_⟩
          simp only [e154_0, e154_1, e154_4, e154_5, e154_6, e154_9, e154_12, e154_13, e154_16, e154_17, e154_19, e154_22, e154_23, e154_24, e154_25, e154_26, e154_29, e154_32, e154_33f, e154_33d, e154_33b, e154_33l, e154_33t, e154_34, e154_37, e154_38, e154_39, e154_40, e154_41, e154_44, e154_45, e154_46, e154_47, e154_49, e154_50, e154_52, e154_53, e154_57, e154_59, e154_62, e154_64, e154_65, e154_68, e154_71, e154_72, e154_73, e154_74, e154_76, e154_79, e154_81, e154_83, e154_84, e154_87, e154_89, e154_91, e154_94, e154_96, e154_98, e154_100, e154_102, e154_105, e154_108, e154_110, am_bd_some, Option.toList_some, Option.toList_none, List.cons_append, List.nil_append, am_w8_0, am_w8_1, am_w8_2, am_w8_3, am_w8_4, eq_self, or_true, true_or, am_kd_sI, am_kd_sL, am_kd_sR, am_tc_sI, am_tc_sL, am_tc_sR, am_len_sI, am_len_sL, am_len_sR, am_rfs, if_true, if_false, am_rdL_sI, am_rR_sL, am_rt_cq, am_kd_cq, am_tc_cq, am_len_cq, am_rd_sL, am_rd_sR, am_rdL_sR, okK_0 ok, okR_0_0 ok, okK_1 ok, okR_1_8 ok, okT_7 ok, okL_7 ok, dh, y, n1, n2, x, z, r, s1, m0', not_false_eq_true]
          exact s2
        · have P : ¬ q_asP A (nI i) (nI p) := fun w => l0 (by have := w.2.2; rw [z] at this; exact this)
          rw [if_neg P]
          have m0' := eq_true (m0.mpr l0)
          refine ⟨h1, f1.wk ok, ?_⟩
          simp only [e154_0, e154_1, e154_4, e154_5, e154_6, e154_9, e154_12, e154_13, e154_16, e154_17, e154_19, e154_22, e154_23, e154_24, e154_25, e154_26, e154_29, e154_32, e154_33f, e154_33d, e154_33b, e154_33l, e154_33t, e154_34, e154_37, e154_38, e154_39, e154_40, e154_41, e154_44, e154_45, e154_46, e154_47, e154_49, e154_50, e154_52, e154_53, e154_57, e154_59, e154_62, e154_64, e154_65, e154_68, e154_71, e154_72, e154_73, e154_74, e154_76, e154_79, e154_81, e154_83, e154_84, e154_87, e154_89, e154_91, e154_94, e154_96, e154_98, e154_100, e154_102, e154_105, e154_108, e154_110, am_bd_some, Option.toList_some, Option.toList_none, List.cons_append, List.nil_append, am_w8_0, am_w8_1, am_w8_2, am_w8_3, am_w8_4, eq_self, or_true, true_or, am_kd_sI, am_kd_sL, am_kd_sR, am_tc_sI, am_tc_sL, am_tc_sR, am_len_sI, am_len_sL, am_len_sR, am_rfs, if_true, if_false, am_rdL_sI, am_rR_sL, am_rt_cq, am_kd_cq, am_tc_cq, am_len_cq, am_rd_sL, am_rd_sR, am_rdL_sR, okK_0 ok, okR_0_0 ok, okK_1 ok, okR_1_8 ok, okT_7 ok, okL_7 ok, dh, y, n1, n2, x, z, r, s1, m0', not_true]
      · rw [if_neg (fun v => n2 (Int32.not_le.mp ((q_le63 c).mpr v.2.1.2)))]
        refine ⟨h, q_wk.rf ok, ?_⟩
        simp only [e154_0, e154_1, e154_4, e154_5, e154_6, e154_9, e154_12, e154_13, e154_16, e154_17, e154_19, e154_22, e154_23, e154_24, e154_25, e154_26, e154_29, e154_32, e154_33f, e154_33d, e154_33b, e154_33l, e154_33t, e154_34, e154_37, e154_38, e154_39, e154_40, e154_41, e154_44, e154_45, e154_46, e154_47, e154_49, e154_50, e154_52, e154_53, e154_57, e154_59, e154_62, e154_64, e154_65, e154_68, e154_71, e154_72, e154_73, e154_74, e154_76, e154_79, e154_81, e154_83, e154_84, e154_87, e154_89, e154_91, e154_94, e154_96, e154_98, e154_100, e154_102, e154_105, e154_108, e154_110, am_bd_some, Option.toList_some, Option.toList_none, List.cons_append, List.nil_append, am_w8_0, am_w8_1, am_w8_2, am_w8_3, am_w8_4, eq_self, or_true, true_or, am_kd_sI, am_kd_sL, am_kd_sR, am_tc_sI, am_tc_sL, am_tc_sR, am_len_sI, am_len_sL, am_len_sR, am_rfs, if_true, if_false, am_rdL_sI, am_rR_sL, am_rt_cq, am_kd_cq, am_tc_cq, am_len_cq, am_rd_sL, am_rd_sR, am_rdL_sR, okK_0 ok, okR_0_0 ok, okK_1 ok, dh, y, n1, n2]
  · rw [if_neg ca] at dh
    rw [if_neg (fun v => ca v.1)]
    refine ⟨h, q_wk.rf ok, ?_⟩
    simp only [e154_0, e154_1, e154_4, e154_5, e154_6, e154_9, e154_12, e154_13, e154_16, e154_17, e154_19, e154_22, e154_23, e154_24, e154_25, e154_26, e154_29, e154_32, e154_33f, e154_33d, e154_33b, e154_33l, e154_33t, e154_34, e154_37, e154_38, e154_39, e154_40, e154_41, e154_44, e154_45, e154_46, e154_47, e154_49, e154_50, e154_52, e154_53, e154_57, e154_59, e154_62, e154_64, e154_65, e154_68, e154_71, e154_72, e154_73, e154_74, e154_76, e154_79, e154_81, e154_83, e154_84, e154_87, e154_89, e154_91, e154_94, e154_96, e154_98, e154_100, e154_102, e154_105, e154_108, e154_110, am_bd_some, Option.toList_some, Option.toList_none, List.cons_append, List.nil_append, am_w8_0, am_w8_1, am_w8_2, am_w8_3, am_w8_4, eq_self, or_true, true_or, am_kd_sI, am_kd_sL, am_kd_sR, am_tc_sI, am_tc_sL, am_tc_sR, am_len_sI, am_len_sL, am_len_sR, am_rfs, if_true, if_false, am_rdL_sI, am_rR_sL, am_rt_cq, am_kd_cq, am_tc_cq, am_len_cq, am_rd_sL, am_rd_sR, am_rdL_sR, okK_0 ok, okR_0_0 ok, okK_1 ok, dh]
theorem den_mask {A : q_All} {h : am_H} (H : q_Rel A h) (a c : Int32) : ∃ h' : am_H, q_wk h h' ∧ am_den 265 [.ref 211, .int a, .int c] h = some (some (.int (q_asA A a c)), h') := by
  have ok := H.1
  have h0 := H.2.1
  obtain ⟨c1, c2, c3⟩ := H.cnt 3 (by decide)
  have y : (1 : Int32) = 0 ↔ False := by decide
  show ∃ h' : am_H, q_wk h h' ∧ am_ev 265 0 [some (.ref 211), some (.int a), some (.int c), none, none, none, none] [] h = _
  unfold q_asA
  by_cases ca : 0 ≤ a ∧ a < nI (A.2.1 3)
  · obtain ⟨i, hi, rfl⟩ := q_in2 c1 ca
    obtain ⟨lk, -, -⟩ := H.lg i hi
    obtain ⟨h1, w1, lg, mL, s1⟩ := q_lgM_of H i hi
    have ok1 := lg.1
    have z : (nI i).toNatClampNeg = i := nI_clamp (by omega)
    by_cases cc : 0 ≤ c ∧ c ≤ 63
    · have cct := eq_true cc
      obtain ⟨p, hp, rfl⟩ := q_rg 63 (by decide) cc
      have zp : (nI p).toNatClampNeg = p := nI_clamp (by omega)
      obtain ⟨h2, f2, fd, s2⟩ := den_findFits i _ lk h1 lg mL
      have lg2 := f2.lg lg
      have ok2 := lg2.1
      have hL := q_ls36 (L_fit (A.2.2.2.2.2 i))
      have l36 := q_ls_le (L_fit (A.2.2.2.2.2 i)) 36
      by_cases l0 : 0 < (q_ls (L_fit (A.2.2.2.2.2 i)) 36).length
      · have P : q_asP A (nI i) (nI p) := ⟨ca, cc, by rw [z]; exact l0⟩
        rw [if_pos P, z, zp]
        obtain ⟨h3, f3, s3⟩ := q_ask_m _ hL l36 l0 (nI i) p (by omega) 64 0 none h2 none (by omega) lg2 fd (fun b v w => by cases w)
        have q1 : q_m1o none = -1 := rfl
        have q2 : nI (q_n2 none) = 1000000 := rfl
        rw [q1, q2, nI_0] at s3
        refine ⟨h3, (w1.tr (f2.wk ok1)).tr (f3.wk ok2), ?_⟩
        simp only [e265_0, e265_1, e265_2, e265_5, e265_6, e265_7, e265_10, e265_13, e265_14, e265_15, e265_17, e265_20, e265_23, e265_24, e265_25, e265_26, e265_29, e265_30, e265_31, e265_34, e265_36, e265_37, e265_41, e265_43, e265_46, e265_47, e265_50, e265_53, e265_55, e265_56, e265_59, e265_62, e265_65, e265_66, e265_67, e265_69, e265_72, e265_74, e265_76, e265_78, e265_81, e265_83, e265_86, e265_87, e265_88, e265_90, e265_92, e265_95, e265_97, e265_100, e265_103, e265_104, am_bd_some, Option.toList_some, Option.toList_none, List.cons_append, List.nil_append, am_w8_0, am_w8_1, am_w8_2, am_w8_3, am_w8_4, eq_self, or_true, true_or, am_kd_sI, am_kd_sL, am_kd_sR, am_tc_sI, am_tc_sL, am_tc_sR, am_len_sI, am_len_sL, am_len_sR, am_rfs, if_true, if_false, am_rdL_sI, am_rR_sL, am_rt_cq, am_kd_cq, am_tc_cq, am_len_cq, am_rd_sL, am_rd_sR, am_rdL_sR, okK_211 ok, am_sI_id h0, s1, y, den_in, cct, not_false_eq_true, okK_211 ok1, s2]
        exact s3
      · have P : ¬ q_asP A (nI i) (nI p) := fun w => l0 (by have := w.2.2; rw [z] at this; exact this)
        rw [if_neg P]
        have e0 : (q_ls (L_fit (A.2.2.2.2.2 i)) 36).length = 0 := by omega
        have f51 := fd.1
        rw [e0, nI_0] at f51
        have y64 : ¬ (64 : Int32) ≤ 0 := by decide
        have y0 : (0 : Int32) ≤ 0 := by decide
        refine ⟨h2, w1.tr (f2.wk ok1), ?_⟩
        have s0 : am_ev 265 0 [some (.ref 211), some (.int (nI i)), some (.int (nI p)), none, none, none, none] [] h = am_ev 265 39 [some (.ref 211), some (.int (nI i)), some (.int (nI p)), some (.int (-1)), some (.int 1000000), some (.int 0), none] [] h2 := by
          simp only [e265_0, e265_1, e265_2, e265_5, e265_6, e265_7, e265_10, e265_13, e265_14, e265_15, e265_17, e265_20, e265_23, e265_24, e265_25, e265_26, e265_29, e265_30, e265_31, e265_34, e265_36, e265_37, e265_41, e265_43, e265_46, e265_47, e265_50, e265_53, e265_55, e265_56, e265_59, e265_62, e265_65, e265_66, e265_67, e265_69, e265_72, e265_74, e265_76, e265_78, e265_81, e265_83, e265_86, e265_87, e265_88, e265_90, e265_92, e265_95, e265_97, e265_100, e265_103, e265_104, am_bd_some, Option.toList_some, Option.toList_none, List.cons_append, List.nil_append, am_w8_0, am_w8_1, am_w8_2, am_w8_3, am_w8_4, eq_self, or_true, true_or, am_kd_sI, am_kd_sL, am_kd_sR, am_tc_sI, am_tc_sL, am_tc_sR, am_len_sI, am_len_sL, am_len_sR, am_rfs, if_true, if_false, am_rdL_sI, am_rR_sL, am_rt_cq, am_kd_cq, am_tc_cq, am_len_cq, am_rd_sL, am_rd_sR, am_rdL_sR, okK_211 ok, am_sI_id h0, s1, y, den_in, cct, not_false_eq_true, okK_211 ok1, s2]
        rw [s0, e265_39]
        simp only [e265_0, e265_1, e265_2, e265_5, e265_6, e265_7, e265_10, e265_13, e265_14, e265_15, e265_17, e265_20, e265_23, e265_24, e265_25, e265_26, e265_29, e265_30, e265_31, e265_34, e265_36, e265_37, e265_41, e265_43, e265_46, e265_47, e265_50, e265_53, e265_55, e265_56, e265_59, e265_62, e265_65, e265_66, e265_67, e265_69, e265_72, e265_74, e265_76, e265_78, e265_81, e265_83, e265_86, e265_87, e265_88, e265_90, e265_92, e265_95, e265_97, e265_100, e265_103, e265_104, am_bd_some, Option.toList_some, Option.toList_none, List.cons_append, List.nil_append, am_w8_0, am_w8_1, am_w8_2, am_w8_3, am_w8_4, eq_self, or_true, true_or, am_kd_sI, am_kd_sL, am_kd_sR, am_tc_sI, am_tc_sL, am_tc_sR, am_len_sI, am_len_sL, am_len_sR, am_rfs, if_true, if_false, am_rdL_sI, am_rR_sL, am_rt_cq, am_kd_cq, am_tc_cq, am_len_cq, am_rd_sL, am_rd_sR, am_rdL_sR, y64, okK_211 ok2, f51, y0]
    · rw [if_neg (fun v => cc v.2.1)]
      refine ⟨h1, w1, ?_⟩
      simp only [e265_0, e265_1, e265_2, e265_5, e265_6, e265_7, e265_10, e265_13, e265_14, e265_15, e265_17, e265_20, e265_23, e265_24, e265_25, e265_26, e265_29, e265_30, e265_31, e265_34, e265_36, e265_37, e265_41, e265_43, e265_46, e265_47, e265_50, e265_53, e265_55, e265_56, e265_59, e265_62, e265_65, e265_66, e265_67, e265_69, e265_72, e265_74, e265_76, e265_78, e265_81, e265_83, e265_86, e265_87, e265_88, e265_90, e265_92, e265_95, e265_97, e265_100, e265_103, e265_104, am_bd_some, Option.toList_some, Option.toList_none, List.cons_append, List.nil_append, am_w8_0, am_w8_1, am_w8_2, am_w8_3, am_w8_4, eq_self, or_true, true_or, am_kd_sI, am_kd_sL, am_kd_sR, am_tc_sI, am_tc_sL, am_tc_sR, am_len_sI, am_len_sL, am_len_sR, am_rfs, if_true, if_false, am_rdL_sI, am_rR_sL, am_rt_cq, am_kd_cq, am_tc_cq, am_len_cq, am_rd_sL, am_rd_sR, am_rdL_sR, okK_211 ok, am_sI_id h0, s1, y, den_in, cc, not_true]
  · rw [if_neg (fun v => ca v.1)]
    obtain ⟨h1, w1, s1⟩ := q_lgM_no H a ca
    refine ⟨h1, w1, ?_⟩
    simp only [e265_0, e265_1, e265_2, e265_5, e265_6, e265_7, e265_10, e265_13, e265_14, e265_15, e265_17, e265_20, e265_23, e265_24, e265_25, e265_26, e265_29, e265_30, e265_31, e265_34, e265_36, e265_37, e265_41, e265_43, e265_46, e265_47, e265_50, e265_53, e265_55, e265_56, e265_59, e265_62, e265_65, e265_66, e265_67, e265_69, e265_72, e265_74, e265_76, e265_78, e265_81, e265_83, e265_86, e265_87, e265_88, e265_90, e265_92, e265_95, e265_97, e265_100, e265_103, e265_104, am_bd_some, Option.toList_some, Option.toList_none, List.cons_append, List.nil_append, am_w8_0, am_w8_1, am_w8_2, am_w8_3, am_w8_4, eq_self, or_true, true_or, am_kd_sI, am_kd_sL, am_kd_sR, am_tc_sI, am_tc_sL, am_tc_sR, am_len_sI, am_len_sL, am_len_sR, am_rfs, if_true, if_false, am_rdL_sI, am_rR_sL, am_rt_cq, am_kd_cq, am_tc_cq, am_len_cq, am_rd_sL, am_rd_sR, am_rdL_sR, okK_211 ok, am_sI_id h0, s1]
theorem ly_18 : ly_p18 := fun a c => pr_wk (fun A => q_asA A a c) (fun A h H => den_cask H a c) (fun A h H => den_mask H a c)
