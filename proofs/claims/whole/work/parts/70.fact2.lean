/-! part 70: fact, the pair -/
theorem q_8c {c : Nat} (hc : c < 64) : (8 : Int32) * nI (c / 8) + nI (c % 8) = nI c := by
  rw [q_81]
  congr 1
  omega
theorem den_mfact {A : q_All} {h : am_H} (H : q_Rel A h) (a k w : Int32) : ∃ h' : am_H, q_wk h h' ∧ am_den 256 [.ref 211, .int a, .int k, .int w] h = some (some (.int (q_faA A a k w)), h') := by
  have ok := H.1
  have h0 := H.2.1
  obtain ⟨c1, c2, c3⟩ := H.cnt 3 (by decide)
  obtain ⟨b1, b0⟩ := den_hasLog H a
  have y : ¬ (1 : Int32) = 0 := by decide
  show ∃ h' : am_H, q_wk h h' ∧ am_ev 256 0 [some (.ref 211), some (.int a), some (.int k), some (.int w)] [] h = _
  unfold q_faA
  by_cases ca : 0 ≤ a ∧ a < nI (A.2.1 3)
  · rw [if_pos ca]
    obtain ⟨h1, f1, ok1, e49, -, -, s1⟩ := b1 ca
    obtain ⟨i, hi, rfl⟩ := q_in2 c1 ca
    obtain ⟨lk, -, lm⟩ := H.lg i hi
    have z : (nI i).toNatClampNeg = i := nI_clamp (by omega)
    have ml : q_mL h1 i (A.2.2.2.2.2 i) := ⟨by omega, e49, lm.cg lk.1 (fun k _ => f1.2 _ _ (by decide) (by omega))⟩
    have n8 := lk.1
    have df := den_facts h1 ok1 i _ ml
    refine ⟨h1, f1.wk ok, ?_⟩
    rw [z]
    unfold L_ans
    by_cases kk : k = -1
    · by_cases w0 : w = 0
      · rw [if_pos ⟨kk, w0⟩, kk, w0]
        simp only [e256_0, e256_1, e256_2, e256_5, e256_6, e256_7, e256_10, e256_13, e256_15, e256_16, e256_17, e256_18, e256_21, e256_22, e256_25, e256_26, e256_29, e256_32, e256_34, e256_35, e256_36, e256_37, e256_38, e256_41, e256_42, e256_43, e256_46, e256_49, e256_50, e256_51, e256_52, e256_55, e256_58, e256_60, e256_61, e256_62, e256_65, e256_66, e256_67, e256_68, e256_71, e256_74, e256_75, e256_76, e256_79, e256_80, e256_81, e256_82, e256_85, e256_88, e256_90, e256_91, e256_92, e256_93, e256_94, e256_95, e256_98, e256_99, e256_100, e256_101, e256_102, e256_103, e256_104, e256_105, e256_106, e256_109, e256_110, am_bd_some, Option.toList_some, Option.toList_none, List.cons_append, List.nil_append, am_w8_0, am_w8_1, am_w8_2, am_w8_3, am_w8_4, eq_self, or_true, true_or, am_kd_sI, am_kd_sL, am_kd_sR, am_tc_sI, am_tc_sL, am_tc_sR, am_len_sI, am_len_sL, am_len_sR, am_rfs, if_true, if_false, am_rdL_sI, am_rR_sL, am_rt_cq, am_kd_cq, am_tc_cq, am_len_cq, am_rd_sL, am_rd_sR, am_rdL_sR, okK_211 ok, am_sI_id h0, s1, y, not_false_eq_true, not_true, okK_211 ok1, df]
      · rw [if_neg (fun t => w0 t.2), if_neg (fun t => by rw [kk] at t; exact absurd t.1 (by decide)), kk]
        simp only [e256_0, e256_1, e256_2, e256_5, e256_6, e256_7, e256_10, e256_13, e256_15, e256_16, e256_17, e256_18, e256_21, e256_22, e256_25, e256_26, e256_29, e256_32, e256_34, e256_35, e256_36, e256_37, e256_38, e256_41, e256_42, e256_43, e256_46, e256_49, e256_50, e256_51, e256_52, e256_55, e256_58, e256_60, e256_61, e256_62, e256_65, e256_66, e256_67, e256_68, e256_71, e256_74, e256_75, e256_76, e256_79, e256_80, e256_81, e256_82, e256_85, e256_88, e256_90, e256_91, e256_92, e256_93, e256_94, e256_95, e256_98, e256_99, e256_100, e256_101, e256_102, e256_103, e256_104, e256_105, e256_106, e256_109, e256_110, am_bd_some, Option.toList_some, Option.toList_none, List.cons_append, List.nil_append, am_w8_0, am_w8_1, am_w8_2, am_w8_3, am_w8_4, eq_self, or_true, true_or, am_kd_sI, am_kd_sL, am_kd_sR, am_tc_sI, am_tc_sL, am_tc_sR, am_len_sI, am_len_sL, am_len_sR, am_rfs, if_true, if_false, am_rdL_sI, am_rR_sL, am_rt_cq, am_kd_cq, am_tc_cq, am_len_cq, am_rd_sL, am_rd_sR, am_rdL_sR, okK_211 ok, am_sI_id h0, s1, y, not_false_eq_true, not_true, w0]
    · rw [if_neg (fun t => kk t.1)]
      have rg := q_m1 (c := L_n (A.2.2.2.2.2 i)) (by omega) k
      by_cases ck : 0 ≤ k ∧ k < nI (L_n (A.2.2.2.2.2 i))
      · rw [if_pos ck]
        have ck' := rg.mpr ck
        obtain ⟨j, hj, rfl⟩ := nI_of (Int32.not_lt.mpr ck.1)
        have hj2 : j < L_n (A.2.2.2.2.2 i) := (nI_ltI hj (by omega)).mp ck.2
        have zj : (nI j).toNatClampNeg = j := nI_clamp hj
        rw [zj]
        obtain ⟨v0, ⟨v1, v2⟩, ⟨v3, v4⟩, v5⟩ := ml.2.2.2 j hj2
        obtain ⟨-, hb, hd, -, -⟩ := lk.2 j hj2
        have d0 := den_factOf h1 ok1 i _ lk ml j 0 hj2 (by decide)
        have d1 := den_factOf h1 ok1 i _ lk ml j 1 hj2 (by decide)
        have d2 := den_factOf h1 ok1 i _ lk ml j 2 hj2 (by decide)
        have d3 := den_factOf h1 ok1 i _ lk ml j 3 hj2 (by decide)
        have d4 := den_factOf h1 ok1 i _ lk ml j 4 hj2 (by decide)
        have d5 := den_factOf h1 ok1 i _ lk ml j 5 hj2 (by decide)
        have v0' : h1.1 220 (49 * i + (1 + 0) + 6 * j) = nI (L_did (A.2.2.2.2.2 i) j) := v0
        have v1' : h1.1 220 (49 * i + (1 + 1) + 6 * j) = nI (L_beast (A.2.2.2.2.2 i) j % 8) := v1
        have v2' : h1.1 220 (49 * i + (1 + 2) + 6 * j) = nI (L_beast (A.2.2.2.2.2 i) j / 8) := v2
        have v3' : h1.1 220 (49 * i + (1 + 3) + 6 * j) = nI (L_dog (A.2.2.2.2.2 i) j % 8) := v3
        have v4' : h1.1 220 (49 * i + (1 + 4) + 6 * j) = nI (L_dog (A.2.2.2.2.2 i) j / 8) := v4
        have v5' : h1.1 220 (49 * i + (1 + 5) + 6 * j) = L_way (A.2.2.2.2.2 i) j := v5
        rw [v0', show nI 0 = 0 from rfl] at d0
        rw [v1', show nI 1 = 1 from rfl] at d1
        rw [v2', show nI 2 = 2 from rfl] at d2
        rw [v3', show nI 3 = 3 from rfl] at d3
        rw [v4', show nI 4 = 4 from rfl] at d4
        rw [v5', show nI 5 = 5 from rfl] at d5
        by_cases w0 : w = 0
        · subst w0
          have r3 : (0 : Int32) ≤ 0 ∧ (0 : Int32) ≤ 3 := by decide
          simp only [e256_0, e256_1, e256_2, e256_5, e256_6, e256_7, e256_10, e256_13, e256_15, e256_16, e256_17, e256_18, e256_21, e256_22, e256_25, e256_26, e256_29, e256_32, e256_34, e256_35, e256_36, e256_37, e256_38, e256_41, e256_42, e256_43, e256_46, e256_49, e256_50, e256_51, e256_52, e256_55, e256_58, e256_60, e256_61, e256_62, e256_65, e256_66, e256_67, e256_68, e256_71, e256_74, e256_75, e256_76, e256_79, e256_80, e256_81, e256_82, e256_85, e256_88, e256_90, e256_91, e256_92, e256_93, e256_94, e256_95, e256_98, e256_99, e256_100, e256_101, e256_102, e256_103, e256_104, e256_105, e256_106, e256_109, e256_110, am_bd_some, Option.toList_some, Option.toList_none, List.cons_append, List.nil_append, am_w8_0, am_w8_1, am_w8_2, am_w8_3, am_w8_4, eq_self, or_true, true_or, am_kd_sI, am_kd_sL, am_kd_sR, am_tc_sI, am_tc_sL, am_tc_sR, am_len_sI, am_len_sL, am_len_sR, am_rfs, if_true, if_false, am_rdL_sI, am_rR_sL, am_rt_cq, am_kd_cq, am_tc_cq, am_len_cq, am_rd_sL, am_rd_sR, am_rdL_sR, okK_211 ok, am_sI_id h0, s1, y, not_false_eq_true, not_true, kk, okK_211 ok1, df, den_in, ck', and_self, r3, d0]
        · by_cases w1 : w = 1
          · subst w1
            have r3 : (0 : Int32) ≤ 1 ∧ (1 : Int32) ≤ 3 := by decide
            have n3 : ¬ (1 : Int32) = 3 := by decide
            have t2 : (2 : Int32) * 1 = 2 := by decide
            have t1 : (2 : Int32) - 1 = 1 := by decide
            simp only [e256_0, e256_1, e256_2, e256_5, e256_6, e256_7, e256_10, e256_13, e256_15, e256_16, e256_17, e256_18, e256_21, e256_22, e256_25, e256_26, e256_29, e256_32, e256_34, e256_35, e256_36, e256_37, e256_38, e256_41, e256_42, e256_43, e256_46, e256_49, e256_50, e256_51, e256_52, e256_55, e256_58, e256_60, e256_61, e256_62, e256_65, e256_66, e256_67, e256_68, e256_71, e256_74, e256_75, e256_76, e256_79, e256_80, e256_81, e256_82, e256_85, e256_88, e256_90, e256_91, e256_92, e256_93, e256_94, e256_95, e256_98, e256_99, e256_100, e256_101, e256_102, e256_103, e256_104, e256_105, e256_106, e256_109, e256_110, am_bd_some, Option.toList_some, Option.toList_none, List.cons_append, List.nil_append, am_w8_0, am_w8_1, am_w8_2, am_w8_3, am_w8_4, eq_self, or_true, true_or, am_kd_sI, am_kd_sL, am_kd_sR, am_tc_sI, am_tc_sL, am_tc_sR, am_len_sI, am_len_sL, am_len_sR, am_rfs, if_true, if_false, am_rdL_sI, am_rR_sL, am_rt_cq, am_kd_cq, am_tc_cq, am_len_cq, am_rd_sL, am_rd_sR, am_rdL_sR, okK_211 ok, am_sI_id h0, s1, y, not_false_eq_true, not_true, kk, okK_211 ok1, df, den_in, ck', and_self, r3, n3, t2, t1, d2, d1, q_8c hb]
          · by_cases w2 : w = 2
            · subst w2
              have r3 : (0 : Int32) ≤ 2 ∧ (2 : Int32) ≤ 3 := by decide
              have n3 : ¬ (2 : Int32) = 3 := by decide
              have n0 : ¬ (2 : Int32) = 0 := by decide
              have n1 : ¬ (2 : Int32) = 1 := by decide
              have t2 : (2 : Int32) * 2 = 4 := by decide
              have t1 : (4 : Int32) - 1 = 3 := by decide
              simp only [e256_0, e256_1, e256_2, e256_5, e256_6, e256_7, e256_10, e256_13, e256_15, e256_16, e256_17, e256_18, e256_21, e256_22, e256_25, e256_26, e256_29, e256_32, e256_34, e256_35, e256_36, e256_37, e256_38, e256_41, e256_42, e256_43, e256_46, e256_49, e256_50, e256_51, e256_52, e256_55, e256_58, e256_60, e256_61, e256_62, e256_65, e256_66, e256_67, e256_68, e256_71, e256_74, e256_75, e256_76, e256_79, e256_80, e256_81, e256_82, e256_85, e256_88, e256_90, e256_91, e256_92, e256_93, e256_94, e256_95, e256_98, e256_99, e256_100, e256_101, e256_102, e256_103, e256_104, e256_105, e256_106, e256_109, e256_110, am_bd_some, Option.toList_some, Option.toList_none, List.cons_append, List.nil_append, am_w8_0, am_w8_1, am_w8_2, am_w8_3, am_w8_4, eq_self, or_true, true_or, am_kd_sI, am_kd_sL, am_kd_sR, am_tc_sI, am_tc_sL, am_tc_sR, am_len_sI, am_len_sL, am_len_sR, am_rfs, if_true, if_false, am_rdL_sI, am_rR_sL, am_rt_cq, am_kd_cq, am_tc_cq, am_len_cq, am_rd_sL, am_rd_sR, am_rdL_sR, okK_211 ok, am_sI_id h0, s1, y, not_false_eq_true, not_true, kk, okK_211 ok1, df, den_in, ck', and_self, r3, n3, n0, n1, t2, t1, d4, d3, q_8c hd]
            · by_cases w3 : w = 3
              · subst w3
                have r3 : (0 : Int32) ≤ 3 ∧ (3 : Int32) ≤ 3 := by decide
                have n0 : ¬ (3 : Int32) = 0 := by decide
                have n1 : ¬ (3 : Int32) = 1 := by decide
                have n2 : ¬ (3 : Int32) = 2 := by decide
                simp only [e256_0, e256_1, e256_2, e256_5, e256_6, e256_7, e256_10, e256_13, e256_15, e256_16, e256_17, e256_18, e256_21, e256_22, e256_25, e256_26, e256_29, e256_32, e256_34, e256_35, e256_36, e256_37, e256_38, e256_41, e256_42, e256_43, e256_46, e256_49, e256_50, e256_51, e256_52, e256_55, e256_58, e256_60, e256_61, e256_62, e256_65, e256_66, e256_67, e256_68, e256_71, e256_74, e256_75, e256_76, e256_79, e256_80, e256_81, e256_82, e256_85, e256_88, e256_90, e256_91, e256_92, e256_93, e256_94, e256_95, e256_98, e256_99, e256_100, e256_101, e256_102, e256_103, e256_104, e256_105, e256_106, e256_109, e256_110, am_bd_some, Option.toList_some, Option.toList_none, List.cons_append, List.nil_append, am_w8_0, am_w8_1, am_w8_2, am_w8_3, am_w8_4, eq_self, or_true, true_or, am_kd_sI, am_kd_sL, am_kd_sR, am_tc_sI, am_tc_sL, am_tc_sR, am_len_sI, am_len_sL, am_len_sR, am_rfs, if_true, if_false, am_rdL_sI, am_rR_sL, am_rt_cq, am_kd_cq, am_tc_cq, am_len_cq, am_rd_sL, am_rd_sR, am_rdL_sR, okK_211 ok, am_sI_id h0, s1, y, not_false_eq_true, not_true, kk, okK_211 ok1, df, den_in, ck', and_self, r3, n0, n1, n2, d5]
              · have r3 : ¬ (0 ≤ w ∧ w ≤ 3) := fun t => by
                  obtain ⟨x, hx, rfl⟩ := q_rg 3 (by decide) t
                  have : x = 0 ∨ x = 1 ∨ x = 2 ∨ x = 3 := by omega
                  rcases this with rfl | rfl | rfl | rfl
                  · exact w0 rfl
                  · exact w1 rfl
                  · exact w2 rfl
                  · exact w3 rfl
                rw [if_neg w0, if_neg w1, if_neg w2, if_neg w3]
                simp only [e256_0, e256_1, e256_2, e256_5, e256_6, e256_7, e256_10, e256_13, e256_15, e256_16, e256_17, e256_18, e256_21, e256_22, e256_25, e256_26, e256_29, e256_32, e256_34, e256_35, e256_36, e256_37, e256_38, e256_41, e256_42, e256_43, e256_46, e256_49, e256_50, e256_51, e256_52, e256_55, e256_58, e256_60, e256_61, e256_62, e256_65, e256_66, e256_67, e256_68, e256_71, e256_74, e256_75, e256_76, e256_79, e256_80, e256_81, e256_82, e256_85, e256_88, e256_90, e256_91, e256_92, e256_93, e256_94, e256_95, e256_98, e256_99, e256_100, e256_101, e256_102, e256_103, e256_104, e256_105, e256_106, e256_109, e256_110, am_bd_some, Option.toList_some, Option.toList_none, List.cons_append, List.nil_append, am_w8_0, am_w8_1, am_w8_2, am_w8_3, am_w8_4, eq_self, or_true, true_or, am_kd_sI, am_kd_sL, am_kd_sR, am_tc_sI, am_tc_sL, am_tc_sR, am_len_sI, am_len_sL, am_len_sR, am_rfs, if_true, if_false, am_rdL_sI, am_rR_sL, am_rt_cq, am_kd_cq, am_tc_cq, am_len_cq, am_rd_sL, am_rd_sR, am_rdL_sR, okK_211 ok, am_sI_id h0, s1, y, not_false_eq_true, not_true, kk, okK_211 ok1, df, den_in, ck', and_self, r3]
      · rw [if_neg ck]
        have ck' : ¬ (0 ≤ k ∧ k ≤ nI (L_n (A.2.2.2.2.2 i)) - 1) := fun t => ck (rg.mp t)
        simp only [e256_0, e256_1, e256_2, e256_5, e256_6, e256_7, e256_10, e256_13, e256_15, e256_16, e256_17, e256_18, e256_21, e256_22, e256_25, e256_26, e256_29, e256_32, e256_34, e256_35, e256_36, e256_37, e256_38, e256_41, e256_42, e256_43, e256_46, e256_49, e256_50, e256_51, e256_52, e256_55, e256_58, e256_60, e256_61, e256_62, e256_65, e256_66, e256_67, e256_68, e256_71, e256_74, e256_75, e256_76, e256_79, e256_80, e256_81, e256_82, e256_85, e256_88, e256_90, e256_91, e256_92, e256_93, e256_94, e256_95, e256_98, e256_99, e256_100, e256_101, e256_102, e256_103, e256_104, e256_105, e256_106, e256_109, e256_110, am_bd_some, Option.toList_some, Option.toList_none, List.cons_append, List.nil_append, am_w8_0, am_w8_1, am_w8_2, am_w8_3, am_w8_4, eq_self, or_true, true_or, am_kd_sI, am_kd_sL, am_kd_sR, am_tc_sI, am_tc_sL, am_tc_sR, am_len_sI, am_len_sL, am_len_sR, am_rfs, if_true, if_false, am_rdL_sI, am_rR_sL, am_rt_cq, am_kd_cq, am_tc_cq, am_len_cq, am_rd_sL, am_rd_sR, am_rdL_sR, okK_211 ok, am_sI_id h0, s1, y, not_false_eq_true, kk, okK_211 ok1, df, den_in, ck']
  · rw [if_neg ca]
    have s1 := b0 ca
    refine ⟨am_sI h 211 49 a, q_wk1 ok 49 (by decide) a, ?_⟩
    simp only [e256_0, e256_1, e256_2, e256_5, e256_6, e256_7, e256_10, e256_13, e256_15, e256_16, e256_17, e256_18, e256_21, e256_22, e256_25, e256_26, e256_29, e256_32, e256_34, e256_35, e256_36, e256_37, e256_38, e256_41, e256_42, e256_43, e256_46, e256_49, e256_50, e256_51, e256_52, e256_55, e256_58, e256_60, e256_61, e256_62, e256_65, e256_66, e256_67, e256_68, e256_71, e256_74, e256_75, e256_76, e256_79, e256_80, e256_81, e256_82, e256_85, e256_88, e256_90, e256_91, e256_92, e256_93, e256_94, e256_95, e256_98, e256_99, e256_100, e256_101, e256_102, e256_103, e256_104, e256_105, e256_106, e256_109, e256_110, am_bd_some, Option.toList_some, Option.toList_none, List.cons_append, List.nil_append, am_w8_0, am_w8_1, am_w8_2, am_w8_3, am_w8_4, eq_self, or_true, true_or, am_kd_sI, am_kd_sL, am_kd_sR, am_tc_sI, am_tc_sL, am_tc_sR, am_len_sI, am_len_sL, am_len_sR, am_rfs, if_true, if_false, am_rdL_sI, am_rR_sL, am_rt_cq, am_kd_cq, am_tc_cq, am_len_cq, am_rd_sL, am_rd_sR, am_rdL_sR, okK_211 ok, am_sI_id h0, s1, not_true]
theorem ly_16 : ly_p16 := fun a k w => pr_wk (fun A => q_faA A a k w) (fun A h H => den_cfact H a k w) (fun A h H => den_mfact H a k w)
