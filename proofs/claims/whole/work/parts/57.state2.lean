/-! part 57: state -/
def q_stP (A : q_All) (a d n : Int32) : Prop := q_fd A a d ∧ q_ful (A.2.2.1 a.toNatClampNeg) (A.2.2.2.1 d.toNatClampNeg) (G_0 (A.2.2.1 a.toNatClampNeg)) n
noncomputable def q_stA (A : q_All) (a d n w : Int32) : Int32 := @ite _ (q_stP A a d n) (Classical.propDecidable _) (G_ans (A.2.2.1 a.toNatClampNeg) (G_fol (A.2.2.1 a.toNatClampNeg) (A.2.2.2.1 d.toNatClampNeg).2 n.toNatClampNeg 0 (G_0 (A.2.2.1 a.toNatClampNeg))).2 w) (-2)
theorem den_cstate {A : q_All} {h : am_H} (H : q_Rel A h) (a d n w : Int32) : ∃ h' : am_H, q_wk h h' ∧ am_den 116 [.ref 0, .int a, .int d, .int n, .int w] h = some (some (.int (q_stA A a d n w)), h') := by
  have ok := H.1
  obtain ⟨b1, b0⟩ := den_hasBoth H a d
  have y : ¬ (1 : Int32) = 0 := by decide
  show ∃ h' : am_H, q_wk h h' ∧ am_ev 116 0 [some (.ref 0), some (.int a), some (.int d), some (.int n), some (.int w)] [] h = _
  unfold q_stA
  by_cases cf : q_fd A a d
  · have db := b1 cf
    have cf0 := cf
    obtain ⟨i, j, hi, hi2, rfl, hj, hj2, rfl⟩ := q_fd_nat H cf
    obtain ⟨fk, cF, -⟩ := H.fl i hi
    obtain ⟨dk, cD⟩ := H.cD j hj
    have wf := fk.wf
    have z : (nI i).toNatClampNeg = i := nI_clamp (by omega)
    have x : am_ix (nI i) 2 = true := am_ix_nI (by omega) (by decide)
    have zj : (nI j).toNatClampNeg = j := nI_clamp (by omega)
    have xj : am_ix (nI j) 2 = true := am_ix_nI (by omega) (by decide)
    have r := q_fo_ref ok i hi2
    have q178 : q_flk 178 := Or.inl rfl
    obtain ⟨h1, f1, g1, s1⟩ := den_begin h ok 178 (8 + 16 * i) q178 (by omega) _ wf cF
    have ok1 := f1.ok q178 ok
    have rj := (q_do_now ok1 j hj2).2
    obtain ⟨h2, v, f2, s2, e2, g2⟩ := den_cful 178 (8 + 16 * i) (11 + 16 * j) _ wf _ dk (by omega) n (G_0 _) h1 g1 (G_0_in fk) (f1.cD cD (by omega))
    have ok2 := (f1.tr f2.fb).ok q178 ok
    refine ⟨h2, (f1.tr f2.fb).wk q178 ok, ?_⟩
    by_cases cu : q_ful (A.2.2.1 i) (A.2.2.2.1 j) (G_0 (A.2.2.1 i)) n
    · have hv := e2.mpr cu
      have P : q_stP A (nI i) (nI j) n := ⟨cf0, by rw [z, zj]; exact cu⟩
      rw [if_pos P, z, zj]
      have da := den_cans h2 178 (8 + 16 * i) _ _ (g2 cu) wf (G_fol_in wf _ _ _ _ (G_0_in fk)) w
      rw [hv] at s2
      simp only [e116_0, e116_1, e116_2, e116_3, e116_6, e116_9, e116_11, e116_12, e116_13, e116_16, e116_17, e116_20, e116_23, e116_24f, e116_24d, e116_24b, e116_24l, e116_24t, e116_25, e116_28, e116_29, e116_32, e116_33, e116_36, e116_39, e116_40f, e116_40d, e116_40b, e116_40l, e116_40t, e116_41, e116_42, e116_45, e116_46, e116_49, e116_50, e116_53, e116_55, e116_58, e116_61, e116_63, am_bd_some, Option.toList_some, Option.toList_none, List.cons_append, List.nil_append, am_w8_0, am_w8_1, am_w8_2, am_w8_3, am_w8_4, eq_self, or_true, true_or, am_kd_sI, am_kd_sL, am_kd_sR, am_tc_sI, am_tc_sL, am_tc_sR, am_len_sI, am_len_sL, am_len_sR, am_rfs, if_true, if_false, am_rdL_sI, am_rR_sL, am_rt_cq, am_kd_cq, am_tc_cq, am_len_cq, am_rd_sL, am_rd_sR, am_rdL_sR, okK_0 ok, okR_0_0 ok, okK_1 ok, okR_1_5 ok, okT_4 ok, okL_4 ok, okR_0_4 ok, okK_178 ok, db, y, not_false_eq_true, x, z, r, s1, okK_0 ok1, okR_0_0 ok1, okK_1 ok1, okR_1_6 ok1, okT_5 ok1, okL_5 ok1, okR_0_4 ok1, okK_178 ok1, xj, zj, rj, s2, not_true, okK_0 ok2, okR_0_4 ok2, okK_178 ok2, da]
    · have hv : ¬ v = n := fun w => cu (e2.mp w)
      have P : ¬ q_stP A (nI i) (nI j) n := fun w => cu (by have := w.2; rw [z, zj] at this; exact this)
      rw [if_neg P]
      simp only [e116_0, e116_1, e116_2, e116_3, e116_6, e116_9, e116_11, e116_12, e116_13, e116_16, e116_17, e116_20, e116_23, e116_24f, e116_24d, e116_24b, e116_24l, e116_24t, e116_25, e116_28, e116_29, e116_32, e116_33, e116_36, e116_39, e116_40f, e116_40d, e116_40b, e116_40l, e116_40t, e116_41, e116_42, e116_45, e116_46, e116_49, e116_50, e116_53, e116_55, e116_58, e116_61, e116_63, am_bd_some, Option.toList_some, Option.toList_none, List.cons_append, List.nil_append, am_w8_0, am_w8_1, am_w8_2, am_w8_3, am_w8_4, eq_self, or_true, true_or, am_kd_sI, am_kd_sL, am_kd_sR, am_tc_sI, am_tc_sL, am_tc_sR, am_len_sI, am_len_sL, am_len_sR, am_rfs, if_true, if_false, am_rdL_sI, am_rR_sL, am_rt_cq, am_kd_cq, am_tc_cq, am_len_cq, am_rd_sL, am_rd_sR, am_rdL_sR, okK_0 ok, okR_0_0 ok, okK_1 ok, okR_1_5 ok, okT_4 ok, okL_4 ok, okR_0_4 ok, okK_178 ok, db, y, not_false_eq_true, x, z, r, s1, okK_0 ok1, okR_0_0 ok1, okK_1 ok1, okR_1_6 ok1, okT_5 ok1, okL_5 ok1, okR_0_4 ok1, okK_178 ok1, xj, zj, rj, s2, hv]
  · have db := b0 cf
    rw [if_neg (fun w => cf w.1)]
    refine ⟨h, q_wk.rf ok, ?_⟩
    simp only [e116_0, e116_1, e116_2, e116_3, e116_6, e116_9, e116_11, e116_12, e116_13, e116_16, e116_17, e116_20, e116_23, e116_24f, e116_24d, e116_24b, e116_24l, e116_24t, e116_25, e116_28, e116_29, e116_32, e116_33, e116_36, e116_39, e116_40f, e116_40d, e116_40b, e116_40l, e116_40t, e116_41, e116_42, e116_45, e116_46, e116_49, e116_50, e116_53, e116_55, e116_58, e116_61, e116_63, am_bd_some, Option.toList_some, Option.toList_none, List.cons_append, List.nil_append, am_w8_0, am_w8_1, am_w8_2, am_w8_3, am_w8_4, eq_self, or_true, true_or, am_kd_sI, am_kd_sL, am_kd_sR, am_tc_sI, am_tc_sL, am_tc_sR, am_len_sI, am_len_sL, am_len_sR, am_rfs, if_true, if_false, am_rdL_sI, am_rR_sL, am_rt_cq, am_kd_cq, am_tc_cq, am_len_cq, am_rd_sL, am_rd_sR, am_rdL_sR, okK_0 ok, db, not_true]
theorem den_mstate {A : q_All} {h : am_H} (H : q_Rel A h) (a d n w : Int32) : ∃ h' : am_H, q_wk h h' ∧ am_den 224 [.ref 211, .int a, .int d, .int n, .int w] h = some (some (.int (q_stA A a d n w)), h') := by
  have ok := H.1
  have h0 := H.2.1
  have y : ¬ (1 : Int32) = 0 := by decide
  show ∃ h' : am_H, q_wk h h' ∧ am_ev 224 0 [some (.ref 211), some (.int a), some (.int d), some (.int n), some (.int w)] [] h = _
  unfold q_stA
  by_cases cf : q_fd A a d
  · have cf0 := cf
    obtain ⟨i, j, hi, hi2, rfl, hj, hj2, rfl⟩ := q_fd_nat H cf
    have fk := (H.fl i hi).1
    have dk := (H.cD j hj).1
    have wf := fk.wf
    have d40 := dk.1
    have z : (nI i).toNatClampNeg = i := nI_clamp (by omega)
    have zj : (nI j).toNatClampNeg = j := nI_clamp (by omega)
    obtain ⟨h1, f1, g1, md, s1⟩ := den_lay1 H i j hi hj
    have ok1 := g1.1.1
    have dw := den_whistles h1 ok1 j _ md
    by_cases cn : 0 ≤ n ∧ n ≤ nI (A.2.2.2.1 j).1
    · obtain ⟨k, hk, rfl⟩ := nI_of (Int32.not_lt.mpr cn.1)
      have hk2 : k ≤ (A.2.2.2.1 j).1 := (nI_leI hk (by omega)).mp cn.2
      have zk : (nI k).toNatClampNeg = k := nI_clamp (by omega)
      obtain ⟨h2, f2, g2, s2⟩ := den_play _ wf j _ dk k hk2 (G_0 _) h1 g1 (G_0_in fk) (G_0_pi fk) md
      have ok2 := g2.1.1
      have le := (G_fol_le (A.2.2.1 i) (A.2.2.2.1 j).2 k 0 (G_0 (A.2.2.1 i))).2
      have cm : nI (G_fol (A.2.2.1 i) (A.2.2.2.1 j).2 k 0 (G_0 (A.2.2.1 i))).1 = nI k ↔ (G_fol (A.2.2.1 i) (A.2.2.2.1 j).2 k 0 (G_0 (A.2.2.1 i))).1 = k := nI_eq (by omega) (by omega)
      refine ⟨h2, f1.tr (f2.wk ok1), ?_⟩
      by_cases cu : (G_fol (A.2.2.1 i) (A.2.2.2.1 j).2 k 0 (G_0 (A.2.2.1 i))).1 = k
      · have P : q_stP A (nI i) (nI j) (nI k) := ⟨cf0, by rw [z, zj]; exact ⟨cn, by rw [zk]; exact cu⟩⟩
        have cm' := cm.mpr cu
        rw [if_pos P, z, zj, zk]
        have da := den_mans h2 _ _ g2 wf (G_fol_in wf (A.2.2.2.1 j).2 k 0 _ (G_0_in fk)) w
        simp only [e224_0, e224_1, e224_2, e224_5, e224_6, e224_7, e224_8, e224_11, e224_14, e224_15, e224_16, e224_17, e224_20, e224_23, e224_26, e224_27, e224_28, e224_31, e224_32, e224_35, e224_36, e224_38, e224_41, e224_44, e224_46, am_bd_some, Option.toList_some, Option.toList_none, List.cons_append, List.nil_append, am_w8_0, am_w8_1, am_w8_2, am_w8_3, am_w8_4, eq_self, or_true, true_or, am_kd_sI, am_kd_sL, am_kd_sR, am_tc_sI, am_tc_sL, am_tc_sR, am_len_sI, am_len_sL, am_len_sR, am_rfs, if_true, if_false, am_rdL_sI, am_rR_sL, am_rt_cq, am_kd_cq, am_tc_cq, am_len_cq, am_rd_sL, am_rd_sR, am_rdL_sR, okK_211 ok, am_sI_id h0, s1, y, okK_211 ok1, dw, den_in, cn, and_self, s2, eq_true cm', not_true, okK_211 ok2, da]
      · have P : ¬ q_stP A (nI i) (nI j) (nI k) := fun w => cu (by have := w.2.2; rw [z, zj, zk] at this; exact this)
        have cm' : ¬ nI (G_fol (A.2.2.1 i) (A.2.2.2.1 j).2 k 0 (G_0 (A.2.2.1 i))).1 = nI k := fun w => cu (cm.mp w)
        rw [if_neg P]
        simp only [e224_0, e224_1, e224_2, e224_5, e224_6, e224_7, e224_8, e224_11, e224_14, e224_15, e224_16, e224_17, e224_20, e224_23, e224_26, e224_27, e224_28, e224_31, e224_32, e224_35, e224_36, e224_38, e224_41, e224_44, e224_46, am_bd_some, Option.toList_some, Option.toList_none, List.cons_append, List.nil_append, am_w8_0, am_w8_1, am_w8_2, am_w8_3, am_w8_4, eq_self, or_true, true_or, am_kd_sI, am_kd_sL, am_kd_sR, am_tc_sI, am_tc_sL, am_tc_sR, am_len_sI, am_len_sL, am_len_sR, am_rfs, if_true, if_false, am_rdL_sI, am_rR_sL, am_rt_cq, am_kd_cq, am_tc_cq, am_len_cq, am_rd_sL, am_rd_sR, am_rdL_sR, okK_211 ok, am_sI_id h0, s1, y, okK_211 ok1, dw, den_in, cn, and_self, s2, cm', not_false_eq_true]
    · have P : ¬ q_stP A (nI i) (nI j) n := fun w => cn (by have := w.2.1; rw [zj] at this; exact this)
      rw [if_neg P]
      refine ⟨h1, f1, ?_⟩
      simp only [e224_0, e224_1, e224_2, e224_5, e224_6, e224_7, e224_8, e224_11, e224_14, e224_15, e224_16, e224_17, e224_20, e224_23, e224_26, e224_27, e224_28, e224_31, e224_32, e224_35, e224_36, e224_38, e224_41, e224_44, e224_46, am_bd_some, Option.toList_some, Option.toList_none, List.cons_append, List.nil_append, am_w8_0, am_w8_1, am_w8_2, am_w8_3, am_w8_4, eq_self, or_true, true_or, am_kd_sI, am_kd_sL, am_kd_sR, am_tc_sI, am_tc_sL, am_tc_sR, am_len_sI, am_len_sL, am_len_sR, am_rfs, if_true, if_false, am_rdL_sI, am_rR_sL, am_rt_cq, am_kd_cq, am_tc_cq, am_len_cq, am_rd_sL, am_rd_sR, am_rdL_sR, okK_211 ok, am_sI_id h0, s1, y, okK_211 ok1, dw, den_in, cn]
  · rw [if_neg (fun w => cf w.1)]
    obtain ⟨h1, f1, s1⟩ := den_lay0 H a d cf
    refine ⟨h1, f1, ?_⟩
    simp only [e224_0, e224_1, e224_2, e224_5, e224_6, e224_7, e224_8, e224_11, e224_14, e224_15, e224_16, e224_17, e224_20, e224_23, e224_26, e224_27, e224_28, e224_31, e224_32, e224_35, e224_36, e224_38, e224_41, e224_44, e224_46, am_bd_some, Option.toList_some, Option.toList_none, List.cons_append, List.nil_append, am_w8_0, am_w8_1, am_w8_2, am_w8_3, am_w8_4, eq_self, or_true, true_or, am_kd_sI, am_kd_sL, am_kd_sR, am_tc_sI, am_tc_sL, am_tc_sR, am_len_sI, am_len_sL, am_len_sR, am_rfs, if_true, if_false, am_rdL_sI, am_rR_sL, am_rt_cq, am_kd_cq, am_tc_cq, am_len_cq, am_rd_sL, am_rd_sR, am_rdL_sR, okK_211 ok, am_sI_id h0, s1]
theorem ly_7 : ly_p7 := fun a d n w => pr_wk (fun A => q_stA A a d n w) (fun A h H => den_cstate H a d n w) (fun A h H => den_mstate H a d n w)
