/-! part 9D: driven, heard -/
theorem den_best (f : q_Fl) (wf : F_wf f) (x0 y0 : Nat) (hp0 : y0 ≠ F_pen f) (T : Nat) (X Y K : Nat → Nat) (h : am_H) (g : q_G) (mg : q_mg h f g) (hM : q_hM h f T X Y K) (sm : q_SM f x0 y0 T X Y K T) (fi : Int32) : (∀ k, q_M f x0 y0 = some k → k < 20000) ∧ am_den 233 [.ref 211, .int fi] h = some (some (.int (if fi = 0 then q_c0 (q_M f x0 y0) else q_c1 (q_M f x0 y0))), h) := by
  have mq := sm.1
  obtain ⟨cur, cm, s1⟩ := q_be_l f wf x0 y0 hp0 T X Y K h g mg hM mq fi T 0 none none (by omega) ⟨fun _ j hj => absurd hj (Nat.not_lt_zero _), fun k hk => by cases hk⟩
  have kb : ∀ k, cur = some k → ∃ j, 1 ≤ j ∧ j < T ∧ Y j = F_pen f ∧ K j = k := fun k hk => by
    obtain ⟨⟨j, j1, j2, j3⟩, -⟩ := cm.2 k hk
    refine ⟨j, ?_, j1, j2, j3⟩
    by_cases hz : j = 0
    · rw [hz, mq.2.1.2.1] at j2; exact absurd j2 hp0
    · omega
  have al := sm.all (Nat.le_refl _) hp0
  have e : cur = q_M f x0 y0 := by
    refine q_M_eq cur (fun hc => ?_) (fun k hk => ?_)
    · rintro ⟨k, n, w, x, y, -, he, hb⟩
      obtain ⟨j, j1, j2, j3, -⟩ := al n w x y he
      exact cm.1 hc j j1 (j3.trans hb)
    · obtain ⟨j, j0, j1, j2, j3⟩ := kb k hk
      obtain ⟨-, y', he, hy'⟩ := mq.2.2.1 j j0 j1
      refine ⟨⟨K j / 4, K j % 4, X j, y', by omega, he, hy'.symm.trans j2⟩, ?_⟩
      rintro m ⟨n, w, x, y, em, he', hb⟩
      obtain ⟨a, a1, a2, a3, a4⟩ := al n w x y he'
      have := (cm.2 k hk).2 a a1 (a3.trans hb)
      omega
  refine ⟨fun k hk => ?_, ?_⟩
  · obtain ⟨j, j0, j1, j2, j3⟩ := kb k (e.trans hk)
    have := (mq.2.2.1 j j0 j1).1
    have := mq.1.2
    omega
  · rw [e] at s1
    have q1 : q_b0 none = 1000000 := rfl
    have q2 : q_c1 none = -1 := rfl
    rw [q1, q2, nI_0] at s1
    show am_ev 233 0 [some (.ref 211), some (.int fi), none, none, none, none] [] h = _
    have s0 : am_ev 233 0 [some (.ref 211), some (.int fi), none, none, none, none] [] h = am_ev 233 9 [some (.ref 211), some (.int fi), some (.int 1000000), some (.int (-1)), some (.int 0), none] [] h := by
      simp only [e233_0, e233_3, e233_4, e233_5, e233_6, e233_7, e233_11, e233_12, e233_15, e233_18, e233_19, e233_22, e233_24, e233_25, e233_27, e233_29, e233_31, e233_32, e233_33, e233_36, e233_39, e233_40, e233_43, e233_45, e233_46, e233_47, e233_50, e233_51, e233_54, e233_56, e233_57, e233_58, e233_61, e233_62, e233_65, e233_67, e233_68, e233_69, e233_72, e233_73, e233_76, e233_78, e233_79, e233_80, e233_81, e233_84, e233_86, e233_87, e233_88, e233_91, e233_94, e233_95, e233_98, e233_101, e233_102, e233_105, e233_106, e233_109, e233_110, e233_113, e233_114, am_bd_some, Option.toList_some, Option.toList_none, List.cons_append, List.nil_append, am_w8_0, am_w8_1, am_w8_2, am_w8_3, am_w8_4, eq_self, or_true, true_or, am_kd_sI, am_kd_sL, am_kd_sR, am_tc_sI, am_tc_sL, am_tc_sR, am_len_sI, am_len_sL, am_len_sR, am_rfs, if_true, if_false, am_rdL_sI, am_rR_sL, am_rt_cq, am_kd_cq, am_tc_cq, am_len_cq, am_rd_sL, am_rd_sR, am_rdL_sR]
    rw [s0]
    exact s1
theorem q_re_i (f : q_Fl) (wf : F_wf f) (T : Nat) (hT : T ≤ 4096) (X Y K : Nat → Nat) (h : am_H) (g : q_G) (mg : q_mg h f g) (hM : q_hM h f T X Y K) (hin : ∀ i, i < T → F_in f (X i) ∧ F_in f (Y i)) (n : Int32) (c : Nat) (hc : c < 64) : ∀ (r k : Nat) (is : Bool), k + r = T → am_ev 232 17 [some (.ref 211), some (.int n), some (.int (nI c)), some (.int (q_bi is)), some (.int (nI k))] [] h = am_ev 232 56 [some (.ref 211), some (.int n), some (.int (nI c)), some (.int (q_bi (is || q_any (fun k => decide (q_nm f (Y k) = c)) r k))), some (.int (nI T))] [] h := by
  have ok := mg.1.1
  have n64 : ¬ (64 : Int32) = 0 := by decide
  have b1 : q_bi true = 1 := rfl
  have b0 : q_bi false = 0 := rfl
  have y1 : ¬ (1 : Int32) = 0 := by decide
  intro r
  induction r with
  | zero =>
    intro k is hk
    obtain rfl : k = T := by omega
    have h1 : nI k ≤ nI k := Int32.le_refl _
    have e : (is || q_any (fun k => decide (q_nm f (Y k) = c)) 0 k) = is := Bool.or_false _
    rw [e, e232_17]
    simp only [e232_0, e232_1, e232_2, e232_3, e232_4, e232_5, e232_6, e232_9, e232_12, e232_13, e232_14, e232_15, e232_19, e232_20, e232_23, e232_26, e232_27, e232_30, e232_31, e232_34, e232_36, e232_37, e232_39, e232_40, e232_41, e232_44, e232_45, e232_48, e232_49, e232_50, e232_53, e232_57, e232_58, e232_61, e232_62, e232_65, e232_66, e232_67, e232_68, e232_71, e232_74, e232_75, am_bd_some, Option.toList_some, Option.toList_none, List.cons_append, List.nil_append, am_w8_0, am_w8_1, am_w8_2, am_w8_3, am_w8_4, eq_self, or_true, true_or, am_kd_sI, am_kd_sL, am_kd_sR, am_tc_sI, am_tc_sL, am_tc_sR, am_len_sI, am_len_sL, am_len_sR, am_rfs, if_true, if_false, am_rdL_sI, am_rR_sL, am_rt_cq, am_kd_cq, am_tc_cq, am_len_cq, am_rd_sL, am_rd_sR, am_rdL_sR, okK_211 ok, hM.1, h1]
  | succ r ih =>
    intro k is hk
    have h1 : ¬ nI T ≤ nI k := nI_ge (by omega) (by omega)
    have x : am_ix (nI k) 4096 = true := am_ix_nI (by omega) (by decide)
    have z : (nI k).toNatClampNeg = k := nI_clamp (by omega)
    obtain ⟨v1, v2, v3⟩ := hM.2.1 k (by omega)
    obtain ⟨hx, hy⟩ := hin k (by omega)
    have sl := q_sc_lt wf hx hy
    obtain ⟨s1, s2⟩ := q_sc_d wf hx hy
    obtain ⟨d1, d2⟩ := q_d64 sl
    rw [s1] at d1 d2
    rw [s2] at d2
    have l64 := q_nm_64 wf hy
    have eq : nI (q_nm f (Y k)) = nI c ↔ q_nm f (Y k) = c := nI_eq (by omega) (by omega)
    have e : (is || q_any (fun k => decide (q_nm f (Y k) = c)) (r + 1) k) = ((is || decide (q_nm f (Y k) = c)) || q_any (fun k => decide (q_nm f (Y k) = c)) r (k + 1)) := (Bool.or_assoc _ _ _).symm
    rw [e, ← ih (k + 1) _ (by omega), e232_17]
    cases is with
    | true =>
      have e2 : (true || decide (q_nm f (Y k) = c)) = true := rfl
      rw [e2, b1]
      simp only [e232_0, e232_1, e232_2, e232_3, e232_4, e232_5, e232_6, e232_9, e232_12, e232_13, e232_14, e232_15, e232_19, e232_20, e232_23, e232_26, e232_27, e232_30, e232_31, e232_34, e232_36, e232_37, e232_39, e232_40, e232_41, e232_44, e232_45, e232_48, e232_49, e232_50, e232_53, e232_57, e232_58, e232_61, e232_62, e232_65, e232_66, e232_67, e232_68, e232_71, e232_74, e232_75, am_bd_some, Option.toList_some, Option.toList_none, List.cons_append, List.nil_append, am_w8_0, am_w8_1, am_w8_2, am_w8_3, am_w8_4, eq_self, or_true, true_or, am_kd_sI, am_kd_sL, am_kd_sR, am_tc_sI, am_tc_sL, am_tc_sR, am_len_sI, am_len_sL, am_len_sR, am_rfs, if_true, if_false, am_rdL_sI, am_rR_sL, am_rt_cq, am_kd_cq, am_tc_cq, am_len_cq, am_rd_sL, am_rd_sR, am_rdL_sR, okK_211 ok, hM.1, h1, y1, not_false_eq_true, nI_1]
    | false =>
      by_cases cc : q_nm f (Y k) = c
      · have e2 : (false || decide (q_nm f (Y k) = c)) = true := by rw [decide_eq_true cc]; rfl
        have cc' := eq_true (eq.mpr cc)
        rw [e2, b1, b0]
        simp only [e232_0, e232_1, e232_2, e232_3, e232_4, e232_5, e232_6, e232_9, e232_12, e232_13, e232_14, e232_15, e232_19, e232_20, e232_23, e232_26, e232_27, e232_30, e232_31, e232_34, e232_36, e232_37, e232_39, e232_40, e232_41, e232_44, e232_45, e232_48, e232_49, e232_50, e232_53, e232_57, e232_58, e232_61, e232_62, e232_65, e232_66, e232_67, e232_68, e232_71, e232_74, e232_75, am_bd_some, Option.toList_some, Option.toList_none, List.cons_append, List.nil_append, am_w8_0, am_w8_1, am_w8_2, am_w8_3, am_w8_4, eq_self, or_true, true_or, am_kd_sI, am_kd_sL, am_kd_sR, am_tc_sI, am_tc_sL, am_tc_sR, am_len_sI, am_len_sL, am_len_sR, am_rfs, if_true, if_false, am_rdL_sI, am_rR_sL, am_rt_cq, am_kd_cq, am_tc_cq, am_len_cq, am_rd_sL, am_rd_sR, am_rdL_sR, okK_211 ok, hM.1, h1, not_true, okR_211_42 ok, okT_229 ok, okL_229 ok, x, z, v1, n64, d1, d2, cc', nI_1]
      · have e2 : (false || decide (q_nm f (Y k) = c)) = false := by rw [decide_eq_false cc]; rfl
        have cc' : ¬ nI (q_nm f (Y k)) = nI c := fun w => cc (eq.mp w)
        rw [e2, b0]
        simp only [e232_0, e232_1, e232_2, e232_3, e232_4, e232_5, e232_6, e232_9, e232_12, e232_13, e232_14, e232_15, e232_19, e232_20, e232_23, e232_26, e232_27, e232_30, e232_31, e232_34, e232_36, e232_37, e232_39, e232_40, e232_41, e232_44, e232_45, e232_48, e232_49, e232_50, e232_53, e232_57, e232_58, e232_61, e232_62, e232_65, e232_66, e232_67, e232_68, e232_71, e232_74, e232_75, am_bd_some, Option.toList_some, Option.toList_none, List.cons_append, List.nil_append, am_w8_0, am_w8_1, am_w8_2, am_w8_3, am_w8_4, eq_self, or_true, true_or, am_kd_sI, am_kd_sL, am_kd_sR, am_tc_sI, am_tc_sL, am_tc_sR, am_len_sI, am_len_sL, am_len_sR, am_rfs, if_true, if_false, am_rdL_sI, am_rR_sL, am_rt_cq, am_kd_cq, am_tc_cq, am_len_cq, am_rd_sL, am_rd_sR, am_rdL_sR, okK_211 ok, hM.1, h1, not_true, okR_211_42 ok, okT_229 ok, okL_229 ok, x, z, v1, n64, d1, d2, cc', not_false_eq_true, nI_1]
theorem q_re_o (f : q_Fl) (wf : F_wf f) (T : Nat) (hT : T ≤ 4096) (X Y K : Nat → Nat) (h : am_H) (g : q_G) (mg : q_mg h f g) (hM : q_hM h f T X Y K) (hin : ∀ i, i < T → F_in f (X i) ∧ F_in f (Y i)) : ∀ (r c n : Nat) (z3 z4 : Option Value), c + r = F_w f * F_h f → am_ev 232 4 [some (.ref 211), some (.int (nI n)), some (.int (nI c)), z3, z4] [] h = some (some (.int (nI (n + q_ctB (fun c => q_any (fun k => decide (q_nm f (Y k) = c)) T 0) r c))), h) := by
  have ok := mg.1.1
  have a2 := mg.1.2.2.1
  have c64 := wf.c64
  intro r
  induction r with
  | zero =>
    intro c n z3 z4 hc
    have h1 : nI (F_w f * F_h f) ≤ nI c := by rw [← hc]; exact Int32.le_refl _
    rw [e232_4]
    simp only [e232_0, e232_1, e232_2, e232_3, e232_5, e232_6, e232_9, e232_12, e232_13, e232_14, e232_15, e232_19, e232_20, e232_23, e232_26, e232_27, e232_30, e232_31, e232_34, e232_36, e232_37, e232_39, e232_40, e232_41, e232_44, e232_45, e232_48, e232_49, e232_50, e232_53, e232_56, e232_57, e232_58, e232_61, e232_62, e232_65, e232_66, e232_67, e232_68, e232_71, e232_74, e232_75, am_bd_some, Option.toList_some, Option.toList_none, List.cons_append, List.nil_append, am_w8_0, am_w8_1, am_w8_2, am_w8_3, am_w8_4, eq_self, or_true, true_or, am_kd_sI, am_kd_sL, am_kd_sR, am_tc_sI, am_tc_sL, am_tc_sR, am_len_sI, am_len_sL, am_len_sR, am_rfs, if_true, if_false, am_rdL_sI, am_rR_sL, am_rt_cq, am_kd_cq, am_tc_cq, am_len_cq, am_rd_sL, am_rd_sR, am_rdL_sR, okK_211 ok, a2, h1]
    rfl
  | succ r ih =>
    intro c n z3 z4 hc
    have h1 : ¬ nI (F_w f * F_h f) ≤ nI c := nI_ge (by omega) (by omega)
    have lp := q_re_i f wf T hT X Y K h g mg hM hin (nI n) c (by omega) T 0 false (by omega)
    have b0 : q_bi false = 0 := rfl
    rw [b0, nI_0] at lp
    have s0 : am_ev 232 4 [some (.ref 211), some (.int (nI n)), some (.int (nI c)), z3, z4] [] h = am_ev 232 17 [some (.ref 211), some (.int (nI n)), some (.int (nI c)), some (.int 0), some (.int 0)] [] h := by
      rw [e232_4]
      simp only [e232_0, e232_1, e232_2, e232_3, e232_5, e232_6, e232_9, e232_12, e232_13, e232_14, e232_15, e232_19, e232_20, e232_23, e232_26, e232_27, e232_30, e232_31, e232_34, e232_36, e232_37, e232_39, e232_40, e232_41, e232_44, e232_45, e232_48, e232_49, e232_50, e232_53, e232_56, e232_57, e232_58, e232_61, e232_62, e232_65, e232_66, e232_67, e232_68, e232_71, e232_74, e232_75, am_bd_some, Option.toList_some, Option.toList_none, List.cons_append, List.nil_append, am_w8_0, am_w8_1, am_w8_2, am_w8_3, am_w8_4, eq_self, or_true, true_or, am_kd_sI, am_kd_sL, am_kd_sR, am_tc_sI, am_tc_sL, am_tc_sR, am_len_sI, am_len_sL, am_len_sR, am_rfs, if_true, if_false, am_rdL_sI, am_rR_sL, am_rt_cq, am_kd_cq, am_tc_cq, am_len_cq, am_rd_sL, am_rd_sR, am_rdL_sR, okK_211 ok, a2, h1]
    rw [s0, lp, e232_56]
    have e : (false || q_any (fun k => decide (q_nm f (Y k) = c)) T 0) = q_any (fun k => decide (q_nm f (Y k) = c)) T 0 := rfl
    rw [e]
    have y1 : ¬ (1 : Int32) = 0 := by decide
    have ct : q_ctB (fun c => q_any (fun k => decide (q_nm f (Y k) = c)) T 0) (r + 1) c = (if q_any (fun k => decide (q_nm f (Y k) = c)) T 0 = true then 1 else 0) + q_ctB (fun c => q_any (fun k => decide (q_nm f (Y k) = c)) T 0) r (c + 1) := rfl
    rw [ct]
    cases hq : q_any (fun k => decide (q_nm f (Y k) = c)) T 0 with
    | true =>
      have b1 : q_bi true = 1 := rfl
      rw [if_pos rfl, b1]
      simp only [e232_0, e232_1, e232_2, e232_3, e232_5, e232_6, e232_9, e232_12, e232_13, e232_14, e232_15, e232_19, e232_20, e232_23, e232_26, e232_27, e232_30, e232_31, e232_34, e232_36, e232_37, e232_39, e232_40, e232_41, e232_44, e232_45, e232_48, e232_49, e232_50, e232_53, e232_57, e232_58, e232_61, e232_62, e232_65, e232_66, e232_67, e232_68, e232_71, e232_74, e232_75, am_bd_some, Option.toList_some, Option.toList_none, List.cons_append, List.nil_append, am_w8_0, am_w8_1, am_w8_2, am_w8_3, am_w8_4, eq_self, or_true, true_or, am_kd_sI, am_kd_sL, am_kd_sR, am_tc_sI, am_tc_sL, am_tc_sR, am_len_sI, am_len_sL, am_len_sR, am_rfs, if_true, if_false, am_rdL_sI, am_rR_sL, am_rt_cq, am_kd_cq, am_tc_cq, am_len_cq, am_rd_sL, am_rd_sR, am_rdL_sR, y1, nI_1]
      rw [ih (c + 1) (n + 1) _ _ (by omega), Nat.add_assoc]
    | false =>
      have a0 : nI n + (0 : Int32) = nI n := Int32.add_zero _
      rw [if_neg (by decide), b0]
      simp only [e232_0, e232_1, e232_2, e232_3, e232_5, e232_6, e232_9, e232_12, e232_13, e232_14, e232_15, e232_19, e232_20, e232_23, e232_26, e232_27, e232_30, e232_31, e232_34, e232_36, e232_37, e232_39, e232_40, e232_41, e232_44, e232_45, e232_48, e232_49, e232_50, e232_53, e232_57, e232_58, e232_61, e232_62, e232_65, e232_66, e232_67, e232_68, e232_71, e232_74, e232_75, am_bd_some, Option.toList_some, Option.toList_none, List.cons_append, List.nil_append, am_w8_0, am_w8_1, am_w8_2, am_w8_3, am_w8_4, eq_self, or_true, true_or, am_kd_sI, am_kd_sL, am_kd_sR, am_tc_sI, am_tc_sL, am_tc_sR, am_len_sI, am_len_sL, am_len_sR, am_rfs, if_true, if_false, am_rdL_sI, am_rR_sL, am_rt_cq, am_kd_cq, am_tc_cq, am_len_cq, am_rd_sL, am_rd_sR, am_rdL_sR, a0, nI_1]
      rw [ih (c + 1) n _ _ (by omega), Nat.zero_add]
theorem den_reach (f : q_Fl) (wf : F_wf f) (x0 y0 : Nat) (hp0 : y0 ≠ F_pen f) (T : Nat) (X Y K : Nat → Nat) (h : am_H) (g : q_G) (mg : q_mg h f g) (hM : q_hM h f T X Y K) (sm : q_SM f x0 y0 T X Y K T) : am_den 232 [.ref 211] h = some (some (.int (nI (q_reach f x0 y0))), h) := by
  have mq := sm.1
  have al := sm.all (Nat.le_refl _) hp0
  have e : q_ctB (fun c => q_any (fun k => decide (q_nm f (Y k) = c)) T 0) (F_w f * F_h f) 0 = q_reach f x0 y0 := by
    refine q_ctB_cg _ _ (fun c h1 h2 => ?_)
    obtain ⟨ci, cn⟩ := q_cell_in wf (m := c) (by omega)
    have e : q_any (fun k => decide (q_nm f (Y k) = c)) T 0 = true ↔ q_RcB f x0 y0 (q_cell (F_w f) c) = true := by
      rw [q_RcB_iff, q_any_iff]
      constructor
      · rintro ⟨k, -, k1, k2⟩
        have k3 : q_nm f (Y k) = c := of_decide_eq_true k2
        have k4 : Y k = q_cell (F_w f) c := (q_nm_inj (mq.2.2.2.1 k (by omega)).2 ci).mp (k3.trans cn.symm)
        by_cases hz : k = 0
        · rw [hz, mq.2.1.2.1] at k4; exact Or.inl k4.symm
        · obtain ⟨-, y', he, hy'⟩ := mq.2.2.1 k (by omega) (by omega)
          exact Or.inr ⟨_, _, _, _, he, hy'.symm.trans k4⟩
      · intro w
        rcases w with w | ⟨n, w, x, y, he, hb⟩
        · exact ⟨0, Nat.le_refl _, by have := mq.1.1; omega, decide_eq_true (by rw [mq.2.1.2.1, ← w]; exact cn)⟩
        · obtain ⟨j, j1, j2, j3, -⟩ := al n w x y he
          exact ⟨j, Nat.zero_le _, by omega, decide_eq_true (by rw [j3, hb]; exact cn)⟩
    show q_any (fun k => decide (q_nm f (Y k) = c)) T 0 = q_RcB f x0 y0 (q_cell (F_w f) c)
    cases h1 : q_any (fun k => decide (q_nm f (Y k) = c)) T 0 <;> cases h2 : q_RcB f x0 y0 (q_cell (F_w f) c)
    · rfl
    · rw [h1, h2] at e; exact absurd (e.mpr rfl) (by decide)
    · rw [h1, h2] at e; exact absurd (e.mp rfl) (by decide)
    · rfl
  have lp := q_re_o f wf T mq.1.2 X Y K h g mg hM mq.2.2.2.1 (F_w f * F_h f) 0 0 none none (by omega)
  rw [e, Nat.zero_add, nI_0] at lp
  show am_ev 232 0 [some (.ref 211), none, none, none, none] [] h = _
  have s0 : am_ev 232 0 [some (.ref 211), none, none, none, none] [] h = am_ev 232 4 [some (.ref 211), some (.int 0), some (.int 0), none, none] [] h := by
    simp only [e232_0, e232_1, e232_2, e232_3, e232_5, e232_6, e232_9, e232_12, e232_13, e232_14, e232_15, e232_17, e232_19, e232_20, e232_23, e232_26, e232_27, e232_30, e232_31, e232_34, e232_36, e232_37, e232_39, e232_40, e232_41, e232_44, e232_45, e232_48, e232_49, e232_50, e232_53, e232_56, e232_57, e232_58, e232_61, e232_62, e232_65, e232_66, e232_67, e232_68, e232_71, e232_74, e232_75, am_bd_some, Option.toList_some, Option.toList_none, List.cons_append, List.nil_append, am_w8_0, am_w8_1, am_w8_2, am_w8_3, am_w8_4, eq_self, or_true, true_or, am_kd_sI, am_kd_sL, am_kd_sR, am_tc_sI, am_tc_sL, am_tc_sR, am_len_sI, am_len_sL, am_len_sR, am_rfs, if_true, if_false, am_rdL_sI, am_rR_sL, am_rt_cq, am_kd_cq, am_tc_cq, am_len_cq, am_rd_sL, am_rd_sR, am_rdL_sR]
  rw [s0]
  exact lp
theorem den_mdrivn {A : q_All} {h : am_H} (H : q_Rel A h) (a b w : Int32) : ∃ h' : am_H, q_wk h h' ∧ am_den 228 [.ref 211, .int a, .int b, .int w] h = some (some (.int (q_dvA A a b w)), h') := by
  have ok := H.1
  have h0 := H.2.1
  obtain ⟨c1, c2, c3⟩ := H.cnt 0 (by decide)
  have y : (1 : Int32) = 0 ↔ False := by decide
  show ∃ h' : am_H, q_wk h h' ∧ am_ev 228 0 [some (.ref 211), some (.int a), some (.int b), some (.int w)] [] h = _
  unfold q_dvA
  by_cases c : 0 ≤ a ∧ a < nI (A.2.1 0)
  · obtain ⟨i, hi, rfl⟩ := q_in2 c1 c
    obtain ⟨fk, cF, fm⟩ := H.fl i hi
    have wf := fk.wf
    have z : (nI i).toNatClampNeg = i := nI_clamp (by omega)
    obtain ⟨h1, f1, e24, g1, s1⟩ := den_hand1 h ok i (by omega) _ fk fm (A.2.1 0) c1 hi c3
    have ok1 := g1.1.1
    have db := den_isBeast h1 ok1 (F_n (A.2.2.1 i)) wf.2.2.2.1 g1.1.2.2.2.2.2.1 b
    by_cases cb : 0 ≤ b ∧ b < nI (F_n (A.2.2.1 i))
    · have cc : q_fb2 A (nI i) b := ⟨c, by rw [z]; exact cb⟩
      rw [if_pos cb] at db
      by_cases cw : 0 ≤ w ∧ w ≤ 2
      · rw [if_pos ⟨cc, cw⟩]
        obtain ⟨i', j, -, hi2, ei, hj, hj6, rfl⟩ := q_fb2_nat H cc
        obtain rfl : i = i' := (nI_eq (by omega) (by omega)).mp ei
        have zj : (nI j).toNatClampNeg = j := nI_clamp (by omega)
        have fa := F_al_ok fk hj
        obtain ⟨-, -, -, hp0, -⟩ := fa.2.2.2.2.2.2.2.2.2.2.1 0 (by show 0 < 1; decide)
        have hp0' : F_cell (A.2.2.1 i) j ≠ F_pen (F_al (A.2.2.1 i) j) := hp0
        obtain ⟨h2, T, X, Y, K, g2, w2, mg2, hM2, sm2, s2⟩ := den_findGoings _ fk j hj h1 g1
        have ok2 := mg2.1.1
        have cwt := eq_true cw
        rw [z, zj]
        refine ⟨h2, (f1.wk ok).tr w2, ?_⟩
        unfold F_dv
        have rc := den_reach _ fa.wf _ _ hp0' T X Y K h2 g2 mg2 hM2 sm2
        have be0 := (den_best _ fa.wf _ _ hp0' T X Y K h2 g2 mg2 hM2 sm2 0).2
        have be1 := (den_best _ fa.wf _ _ hp0' T X Y K h2 g2 mg2 hM2 sm2 1).2
        rw [if_pos rfl] at be0
        rw [if_neg (by decide)] at be1
        by_cases m2 : w = 2
        · have n0 : ¬ w = 0 := by rw [m2]; decide
          have n1 : ¬ w = 1 := by rw [m2]; decide
          have m2' := eq_true m2
          rw [if_neg n0, if_neg n1]
          simp only [e228_0, e228_1, e228_2, e228_5, e228_6, e228_7, e228_10, e228_13, e228_14, e228_15, e228_18, e228_21, e228_22, e228_23, e228_24, e228_27, e228_30, e228_31, e228_32, e228_33, e228_34, e228_37, e228_38, e228_39, e228_42, e228_43, e228_46, e228_49, e228_50, e228_51, e228_52, e228_55, e228_56, e228_59, e228_60, e228_63, am_bd_some, Option.toList_some, Option.toList_none, List.cons_append, List.nil_append, am_w8_0, am_w8_1, am_w8_2, am_w8_3, am_w8_4, eq_self, or_true, true_or, am_kd_sI, am_kd_sL, am_kd_sR, am_tc_sI, am_tc_sL, am_tc_sR, am_len_sI, am_len_sL, am_len_sR, am_rfs, if_true, if_false, am_rdL_sI, am_rR_sL, am_rt_cq, am_kd_cq, am_tc_cq, am_len_cq, am_rd_sL, am_rd_sR, am_rdL_sR, okK_211 ok, am_sI_id h0, s1, y, okK_211 ok1, db, den_in, cwt, not_false_eq_true, s2, m2', not_true, okK_211 ok2, rc]
        · by_cases m1 : w = 1
          · have n0 : ¬ w = 0 := by rw [m1]; decide
            have m1' := eq_true m1
            rw [if_neg n0, if_pos m1]
            simp only [e228_0, e228_1, e228_2, e228_5, e228_6, e228_7, e228_10, e228_13, e228_14, e228_15, e228_18, e228_21, e228_22, e228_23, e228_24, e228_27, e228_30, e228_31, e228_32, e228_33, e228_34, e228_37, e228_38, e228_39, e228_42, e228_43, e228_46, e228_49, e228_50, e228_51, e228_52, e228_55, e228_56, e228_59, e228_60, e228_63, am_bd_some, Option.toList_some, Option.toList_none, List.cons_append, List.nil_append, am_w8_0, am_w8_1, am_w8_2, am_w8_3, am_w8_4, eq_self, or_true, true_or, am_kd_sI, am_kd_sL, am_kd_sR, am_tc_sI, am_tc_sL, am_tc_sR, am_len_sI, am_len_sL, am_len_sR, am_rfs, if_true, if_false, am_rdL_sI, am_rR_sL, am_rt_cq, am_kd_cq, am_tc_cq, am_len_cq, am_rd_sL, am_rd_sR, am_rdL_sR, okK_211 ok, am_sI_id h0, s1, y, okK_211 ok1, db, den_in, cwt, not_false_eq_true, s2, m2, m1', not_true, okK_211 ok2, be1]
            rfl
          · have m0 : w = 0 := by
              obtain ⟨p, hp, rfl⟩ := q_rg 2 (by decide) cw
              have p2 : ¬ p = 2 := fun q => m2 (by rw [q]; rfl)
              have p1 : ¬ p = 1 := fun q => m1 (by rw [q]; rfl)
              obtain rfl : p = 0 := by omega
              rfl
            rw [if_pos m0]
            simp only [e228_0, e228_1, e228_2, e228_5, e228_6, e228_7, e228_10, e228_13, e228_14, e228_15, e228_18, e228_21, e228_22, e228_23, e228_24, e228_27, e228_30, e228_31, e228_32, e228_33, e228_34, e228_37, e228_38, e228_39, e228_42, e228_43, e228_46, e228_49, e228_50, e228_51, e228_52, e228_55, e228_56, e228_59, e228_60, e228_63, am_bd_some, Option.toList_some, Option.toList_none, List.cons_append, List.nil_append, am_w8_0, am_w8_1, am_w8_2, am_w8_3, am_w8_4, eq_self, or_true, true_or, am_kd_sI, am_kd_sL, am_kd_sR, am_tc_sI, am_tc_sL, am_tc_sR, am_len_sI, am_len_sL, am_len_sR, am_rfs, if_true, if_false, am_rdL_sI, am_rR_sL, am_rt_cq, am_kd_cq, am_tc_cq, am_len_cq, am_rd_sL, am_rd_sR, am_rdL_sR, okK_211 ok, am_sI_id h0, s1, y, okK_211 ok1, db, den_in, cwt, not_false_eq_true, s2, m2, m1, okK_211 ok2, be0]
            rfl
      · rw [if_neg (fun v => cw v.2)]
        refine ⟨h1, f1.wk ok, ?_⟩
        simp only [e228_0, e228_1, e228_2, e228_5, e228_6, e228_7, e228_10, e228_13, e228_14, e228_15, e228_18, e228_21, e228_22, e228_23, e228_24, e228_27, e228_30, e228_31, e228_32, e228_33, e228_34, e228_37, e228_38, e228_39, e228_42, e228_43, e228_46, e228_49, e228_50, e228_51, e228_52, e228_55, e228_56, e228_59, e228_60, e228_63, am_bd_some, Option.toList_some, Option.toList_none, List.cons_append, List.nil_append, am_w8_0, am_w8_1, am_w8_2, am_w8_3, am_w8_4, eq_self, or_true, true_or, am_kd_sI, am_kd_sL, am_kd_sR, am_tc_sI, am_tc_sL, am_tc_sR, am_len_sI, am_len_sL, am_len_sR, am_rfs, if_true, if_false, am_rdL_sI, am_rR_sL, am_rt_cq, am_kd_cq, am_tc_cq, am_len_cq, am_rd_sL, am_rd_sR, am_rdL_sR, okK_211 ok, am_sI_id h0, s1, y, okK_211 ok1, db, den_in, cw, not_true]
    · have cc : ¬ q_fb2 A (nI i) b := fun w => cb (by have := w.2; rw [z] at this; exact this)
      rw [if_neg (fun v => cc v.1)]
      rw [if_neg cb] at db
      refine ⟨h1, f1.wk ok, ?_⟩
      simp only [e228_0, e228_1, e228_2, e228_5, e228_6, e228_7, e228_10, e228_13, e228_14, e228_15, e228_18, e228_21, e228_22, e228_23, e228_24, e228_27, e228_30, e228_31, e228_32, e228_33, e228_34, e228_37, e228_38, e228_39, e228_42, e228_43, e228_46, e228_49, e228_50, e228_51, e228_52, e228_55, e228_56, e228_59, e228_60, e228_63, am_bd_some, Option.toList_some, Option.toList_none, List.cons_append, List.nil_append, am_w8_0, am_w8_1, am_w8_2, am_w8_3, am_w8_4, eq_self, or_true, true_or, am_kd_sI, am_kd_sL, am_kd_sR, am_tc_sI, am_tc_sL, am_tc_sR, am_len_sI, am_len_sL, am_len_sR, am_rfs, if_true, if_false, am_rdL_sI, am_rR_sL, am_rt_cq, am_kd_cq, am_tc_cq, am_len_cq, am_rd_sL, am_rd_sR, am_rdL_sR, okK_211 ok, am_sI_id h0, s1, y, okK_211 ok1, db]
  · have cc : ¬ q_fb2 A a b := fun w => c w.1
    rw [if_neg (fun v => cc v.1)]
    have s0 := den_hand0 h ok (A.2.1 0) c1 c3 a c
    refine ⟨h, q_wk.rf ok, ?_⟩
    simp only [e228_0, e228_1, e228_2, e228_5, e228_6, e228_7, e228_10, e228_13, e228_14, e228_15, e228_18, e228_21, e228_22, e228_23, e228_24, e228_27, e228_30, e228_31, e228_32, e228_33, e228_34, e228_37, e228_38, e228_39, e228_42, e228_43, e228_46, e228_49, e228_50, e228_51, e228_52, e228_55, e228_56, e228_59, e228_60, e228_63, am_bd_some, Option.toList_some, Option.toList_none, List.cons_append, List.nil_append, am_w8_0, am_w8_1, am_w8_2, am_w8_3, am_w8_4, eq_self, or_true, true_or, am_kd_sI, am_kd_sL, am_kd_sR, am_tc_sI, am_tc_sL, am_tc_sR, am_len_sI, am_len_sL, am_len_sR, am_rfs, if_true, if_false, am_rdL_sI, am_rR_sL, am_rt_cq, am_kd_cq, am_tc_cq, am_len_cq, am_rd_sL, am_rd_sR, am_rdL_sR, okK_211 ok, am_sI_id h0, s0]
theorem den_mheard {A : q_All} {h : am_H} (H : q_Rel A h) (a b t u : Int32) : ∃ h' : am_H, q_wk h h' ∧ am_den 234 [.ref 211, .int a, .int b, .int t, .int u] h = some (some (.long (q_hdA A a b t u)), h') := by
  have ok := H.1
  have h0 := H.2.1
  obtain ⟨c1, c2, c3⟩ := H.cnt 0 (by decide)
  have y : (1 : Int32) = 0 ↔ False := by decide
  show ∃ h' : am_H, q_wk h h' ∧ am_ev 234 0 [some (.ref 211), some (.int a), some (.int b), some (.int t), some (.int u), none] [] h = _
  unfold q_hdA
  by_cases ct : 1 ≤ t ∧ t ≤ 10
  · have ctt := eq_true ct
    by_cases c : 0 ≤ a ∧ a < nI (A.2.1 0)
    · obtain ⟨i, hi, rfl⟩ := q_in2 c1 c
      obtain ⟨fk, cF, fm⟩ := H.fl i hi
      have wf := fk.wf
      have z : (nI i).toNatClampNeg = i := nI_clamp (by omega)
      obtain ⟨h1, f1, e24, g1, s1⟩ := den_hand1 h ok i (by omega) _ fk fm (A.2.1 0) c1 hi c3
      have ok1 := g1.1.1
      have db := den_isBeast h1 ok1 (F_n (A.2.2.1 i)) wf.2.2.2.1 g1.1.2.2.2.2.2.1 b
      by_cases cb : 0 ≤ b ∧ b < nI (F_n (A.2.2.1 i))
      · have cc : q_fb2 A (nI i) b := ⟨c, by rw [z]; exact cb⟩
        rw [if_pos cb] at db
        rw [if_pos ⟨cc, ct⟩]
        obtain ⟨i', j, -, hi2, ei, hj, hj6, rfl⟩ := q_fb2_nat H cc
        obtain rfl : i = i' := (nI_eq (by omega) (by omega)).mp ei
        have zj : (nI j).toNatClampNeg = j := nI_clamp (by omega)
        have t0 : (0 : Int32) ≤ t := Int32.le_trans (by decide) ct.1
        obtain ⟨p, hp, rfl⟩ := q_rg 10 (by decide) ⟨t0, ct.2⟩
        have p1 : 1 ≤ p := by
          have := Int32.le_iff_toInt_le.mp ct.1
          rw [nI_toInt (by omega)] at this
          have b1 : (1 : Int32).toInt = 1 := by decide
          omega
        have zp : (nI p).toNatClampNeg = p := nI_clamp (by omega)
        have fa := F_al_ok fk hj
        obtain ⟨-, -, -, hp0, -⟩ := fa.2.2.2.2.2.2.2.2.2.2.1 0 (by show 0 < 1; decide)
        have hp0' : F_cell (A.2.2.1 i) j ≠ F_pen (F_al (A.2.2.1 i) j) := hp0
        obtain ⟨h2, T, X, Y, K, g2, w2, mg2, hM2, sm2, s2⟩ := den_findGoings _ fk j hj h1 g1
        have ok2 := mg2.1.1
        rw [z, zj, zp]
        refine ⟨h2, (f1.wk ok).tr w2, ?_⟩
        unfold F_hd
        obtain ⟨bd, be0⟩ := den_best _ fa.wf _ _ hp0' T X Y K h2 g2 mg2 hM2 sm2 0
        rw [if_pos rfl] at be0
        cases hQ : q_MA (A.2.2.1 i) j with
        | none =>
          have hQ' : q_M (F_al (A.2.2.1 i) j) (F_dog (A.2.2.1 i)) (F_cell (A.2.2.1 i) j) = none := hQ
          rw [hQ'] at be0
          have e0 : q_c0 none = -1 := rfl
          rw [e0] at be0
          simp only [e234_0, e234_1, e234_2, e234_5, e234_6, e234_7, e234_9, e234_12, e234_15, e234_16, e234_17, e234_20, e234_23, e234_24, e234_25, e234_28, e234_31, e234_34, e234_35, e234_36, e234_37, e234_40, e234_41, e234_42, e234_45, e234_47, e234_49, e234_50, e234_53, e234_56, e234_59, e234_62, e234_64, e234_65, e234_66, e234_67, e234_68, e234_70, e234_73, am_bd_some, Option.toList_some, Option.toList_none, List.cons_append, List.nil_append, am_w8_0, am_w8_1, am_w8_2, am_w8_3, am_w8_4, eq_self, or_true, true_or, am_kd_sI, am_kd_sL, am_kd_sR, am_tc_sI, am_tc_sL, am_tc_sR, am_len_sI, am_len_sL, am_len_sR, am_rfs, if_true, if_false, am_rdL_sI, am_rR_sL, am_rt_cq, am_kd_cq, am_tc_cq, am_len_cq, am_rd_sL, am_rd_sR, am_rdL_sR, okK_211 ok, am_sI_id h0, den_in, ctt, y, s1, okK_211 ok1, db, not_false_eq_true, s2, okK_211 ok2, be0, not_true]
        | some k =>
          have hQ' : q_M (F_al (A.2.2.1 i) j) (F_dog (A.2.2.1 i)) (F_cell (A.2.2.1 i) j) = some k := hQ
          have kb := bd k hQ'
          rw [hQ'] at be0
          have e0 : q_c0 (some k) = nI (k / 4) := rfl
          rw [e0] at be0
          have nk : ¬ nI (k / 4) = -1 := q_m1_n _ (by omega)
          have l1 : (nI (k / 4)).toInt64 = lN (k / 4) := nI_l (by omega)
          have l2 : (nI p).toInt64 = lN p := nI_l (by omega)
          have l3 : (10 : Int64) * lN (k / 4) = lN (10 * (k / 4)) := lN_mul 10 _
          have dl := den_part (10 * (k / 4)) p u h2 (by omega) p1 (by omega)
          simp only [e234_0, e234_1, e234_2, e234_5, e234_6, e234_7, e234_9, e234_12, e234_15, e234_16, e234_17, e234_20, e234_23, e234_24, e234_25, e234_28, e234_31, e234_34, e234_35, e234_36, e234_37, e234_40, e234_41, e234_42, e234_45, e234_47, e234_49, e234_50, e234_53, e234_56, e234_59, e234_62, e234_64, e234_65, e234_66, e234_67, e234_68, e234_70, e234_73, am_bd_some, Option.toList_some, Option.toList_none, List.cons_append, List.nil_append, am_w8_0, am_w8_1, am_w8_2, am_w8_3, am_w8_4, eq_self, or_true, true_or, am_kd_sI, am_kd_sL, am_kd_sR, am_tc_sI, am_tc_sL, am_tc_sR, am_len_sI, am_len_sL, am_len_sR, am_rfs, if_true, if_false, am_rdL_sI, am_rR_sL, am_rt_cq, am_kd_cq, am_tc_cq, am_len_cq, am_rd_sL, am_rd_sR, am_rdL_sR, okK_211 ok, am_sI_id h0, den_in, ctt, y, s1, okK_211 ok1, db, not_false_eq_true, s2, okK_211 ok2, be0, nk, l1, l2, l3, dl]
      · have cc : ¬ q_fb2 A (nI i) b := fun w => cb (by have := w.2; rw [z] at this; exact this)
        rw [if_neg (fun v => cc v.1)]
        rw [if_neg cb] at db
        refine ⟨h1, f1.wk ok, ?_⟩
        simp only [e234_0, e234_1, e234_2, e234_5, e234_6, e234_7, e234_9, e234_12, e234_15, e234_16, e234_17, e234_20, e234_23, e234_24, e234_25, e234_28, e234_31, e234_34, e234_35, e234_36, e234_37, e234_40, e234_41, e234_42, e234_45, e234_47, e234_49, e234_50, e234_53, e234_56, e234_59, e234_62, e234_64, e234_65, e234_66, e234_67, e234_68, e234_70, e234_73, am_bd_some, Option.toList_some, Option.toList_none, List.cons_append, List.nil_append, am_w8_0, am_w8_1, am_w8_2, am_w8_3, am_w8_4, eq_self, or_true, true_or, am_kd_sI, am_kd_sL, am_kd_sR, am_tc_sI, am_tc_sL, am_tc_sR, am_len_sI, am_len_sL, am_len_sR, am_rfs, if_true, if_false, am_rdL_sI, am_rR_sL, am_rt_cq, am_kd_cq, am_tc_cq, am_len_cq, am_rd_sL, am_rd_sR, am_rdL_sR, okK_211 ok, am_sI_id h0, den_in, ctt, s1, y, okK_211 ok1, db, not_true]
    · have cc : ¬ q_fb2 A a b := fun w => c w.1
      rw [if_neg (fun v => cc v.1)]
      have s0 := den_hand0 h ok (A.2.1 0) c1 c3 a c
      refine ⟨h, q_wk.rf ok, ?_⟩
      simp only [e234_0, e234_1, e234_2, e234_5, e234_6, e234_7, e234_9, e234_12, e234_15, e234_16, e234_17, e234_20, e234_23, e234_24, e234_25, e234_28, e234_31, e234_34, e234_35, e234_36, e234_37, e234_40, e234_41, e234_42, e234_45, e234_47, e234_49, e234_50, e234_53, e234_56, e234_59, e234_62, e234_64, e234_65, e234_66, e234_67, e234_68, e234_70, e234_73, am_bd_some, Option.toList_some, Option.toList_none, List.cons_append, List.nil_append, am_w8_0, am_w8_1, am_w8_2, am_w8_3, am_w8_4, eq_self, or_true, true_or, am_kd_sI, am_kd_sL, am_kd_sR, am_tc_sI, am_tc_sL, am_tc_sR, am_len_sI, am_len_sL, am_len_sR, am_rfs, if_true, if_false, am_rdL_sI, am_rR_sL, am_rt_cq, am_kd_cq, am_tc_cq, am_len_cq, am_rd_sL, am_rd_sR, am_rdL_sR, okK_211 ok, am_sI_id h0, den_in, ctt, y, s0]
  · rw [if_neg (fun v => ct v.2)]
    refine ⟨h, q_wk.rf ok, ?_⟩
    simp only [e234_0, e234_1, e234_2, e234_5, e234_6, e234_7, e234_9, e234_12, e234_15, e234_16, e234_17, e234_20, e234_23, e234_24, e234_25, e234_28, e234_31, e234_34, e234_35, e234_36, e234_37, e234_40, e234_41, e234_42, e234_45, e234_47, e234_49, e234_50, e234_53, e234_56, e234_59, e234_62, e234_64, e234_65, e234_66, e234_67, e234_68, e234_70, e234_73, am_bd_some, Option.toList_some, Option.toList_none, List.cons_append, List.nil_append, am_w8_0, am_w8_1, am_w8_2, am_w8_3, am_w8_4, eq_self, or_true, true_or, am_kd_sI, am_kd_sL, am_kd_sR, am_tc_sI, am_tc_sL, am_tc_sR, am_len_sI, am_len_sL, am_len_sR, am_rfs, if_true, if_false, am_rdL_sI, am_rR_sL, am_rt_cq, am_kd_cq, am_tc_cq, am_len_cq, am_rd_sL, am_rd_sR, am_rdL_sR, okK_211 ok, am_sI_id h0, den_in, ct]
theorem ly_9 : ly_p9 := fun a b w => pr_wk (fun A => q_dvA A a b w) (fun A h H => den_cdriven H a b w) (fun A h H => den_mdrivn H a b w)
theorem ly_10 : ly_p10 := fun a b t u _ => pr_wkL (fun A => q_hdA A a b t u) (fun A h H => den_cheard H a b t u) (fun A h H => den_mheard H a b t u)
