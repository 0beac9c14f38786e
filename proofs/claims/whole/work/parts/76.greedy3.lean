/-! part 76: greedy, the pair -/
noncomputable def q_grA (A : q_All) (a n w : Int32) : Int32 := @ite _ (q_grP A a n w) (Classical.propDecidable _) (G_gA (A.2.2.1 a.toNatClampNeg) (G_gn (A.2.2.1 a.toNatClampNeg) n.toNatClampNeg (G_0 (A.2.2.1 a.toNatClampNeg))) w) (-1)
theorem den_cgre {A : q_All} {h : am_H} (H : q_Rel A h) (a n w : Int32) : ∃ h' : am_H, q_wk h h' ∧ am_den 105 [.ref 0, .int a, .int n, .int w] h = some (some (.int (q_grA A a n w)), h') := by
  have ok := H.1
  obtain ⟨c1, c2, c3⟩ := H.cnt 0 (by decide)
  have dh := den_has h ok 0 (by decide) (A.2.1 0) c1 c2 a
  rw [nI_0] at dh
  have y : (1 : Int32) = 0 ↔ False := by decide
  show ∃ h' : am_H, q_wk h h' ∧ am_ev 105 0 [some (.ref 0), some (.int a), some (.int n), some (.int w), none, none] [] h = _
  unfold q_grA
  by_cases ca : 0 ≤ a ∧ a < nI (A.2.1 0)
  · rw [if_pos ca] at dh
    by_cases n1 : n < 0
    · rw [if_neg (fun v => absurd n1 (Int32.not_lt.mpr v.2.1.1))]
      refine ⟨h, q_wk.rf ok, ?_⟩
      simp only [e105_0, e105_1, e105_4, e105_5, e105_6, e105_9, e105_12, e105_13, e105_16, e105_17, e105_19, e105_22, e105_23, e105_26, e105_27, e105_28, e105_31, e105_32, e105_33, e105_34, e105_37, e105_40, e105_41f, e105_41d, e105_41b, e105_41l, e105_41t, e105_42, e105_44, e105_45, e105_48, e105_50, e105_53, e105_54, e105_58, e105_59, e105_62, e105_63, e105_65, e105_68, e105_71, e105_74, e105_77, e105_80, e105_81, e105_84, e105_85, e105_88, e105_91, e105_92, e105_93, e105_94, e105_97, e105_98, e105_101, e105_103, e105_106, e105_109, e105_112, e105_114, e105_115, e105_118, e105_121, e105_124, am_bd_some, Option.toList_some, Option.toList_none, List.cons_append, List.nil_append, am_w8_0, am_w8_1, am_w8_2, am_w8_3, am_w8_4, eq_self, or_true, true_or, am_kd_sI, am_kd_sL, am_kd_sR, am_tc_sI, am_tc_sL, am_tc_sR, am_len_sI, am_len_sL, am_len_sR, am_rfs, if_true, if_false, am_rdL_sI, am_rR_sL, am_rt_cq, am_kd_cq, am_tc_cq, am_len_cq, am_rd_sL, am_rd_sR, am_rdL_sR, okK_0 ok, okR_0_0 ok, okK_1 ok, dh, y, n1]
    · by_cases n2 : (40 : Int32) < n
      · rw [if_neg (fun v => absurd n2 (Int32.not_lt.mpr v.2.1.2))]
        refine ⟨h, q_wk.rf ok, ?_⟩
        simp only [e105_0, e105_1, e105_4, e105_5, e105_6, e105_9, e105_12, e105_13, e105_16, e105_17, e105_19, e105_22, e105_23, e105_26, e105_27, e105_28, e105_31, e105_32, e105_33, e105_34, e105_37, e105_40, e105_41f, e105_41d, e105_41b, e105_41l, e105_41t, e105_42, e105_44, e105_45, e105_48, e105_50, e105_53, e105_54, e105_58, e105_59, e105_62, e105_63, e105_65, e105_68, e105_71, e105_74, e105_77, e105_80, e105_81, e105_84, e105_85, e105_88, e105_91, e105_92, e105_93, e105_94, e105_97, e105_98, e105_101, e105_103, e105_106, e105_109, e105_112, e105_114, e105_115, e105_118, e105_121, e105_124, am_bd_some, Option.toList_some, Option.toList_none, List.cons_append, List.nil_append, am_w8_0, am_w8_1, am_w8_2, am_w8_3, am_w8_4, eq_self, or_true, true_or, am_kd_sI, am_kd_sL, am_kd_sR, am_tc_sI, am_tc_sL, am_tc_sR, am_len_sI, am_len_sL, am_len_sR, am_rfs, if_true, if_false, am_rdL_sI, am_rR_sL, am_rt_cq, am_kd_cq, am_tc_cq, am_len_cq, am_rd_sL, am_rd_sR, am_rdL_sR, okK_0 ok, okR_0_0 ok, okK_1 ok, dh, y, n1, n2]
      · by_cases w1 : w < 0
        · rw [if_neg (fun v => absurd w1 (Int32.not_lt.mpr v.2.2.1))]
          refine ⟨h, q_wk.rf ok, ?_⟩
          simp only [e105_0, e105_1, e105_4, e105_5, e105_6, e105_9, e105_12, e105_13, e105_16, e105_17, e105_19, e105_22, e105_23, e105_26, e105_27, e105_28, e105_31, e105_32, e105_33, e105_34, e105_37, e105_40, e105_41f, e105_41d, e105_41b, e105_41l, e105_41t, e105_42, e105_44, e105_45, e105_48, e105_50, e105_53, e105_54, e105_58, e105_59, e105_62, e105_63, e105_65, e105_68, e105_71, e105_74, e105_77, e105_80, e105_81, e105_84, e105_85, e105_88, e105_91, e105_92, e105_93, e105_94, e105_97, e105_98, e105_101, e105_103, e105_106, e105_109, e105_112, e105_114, e105_115, e105_118, e105_121, e105_124, am_bd_some, Option.toList_some, Option.toList_none, List.cons_append, List.nil_append, am_w8_0, am_w8_1, am_w8_2, am_w8_3, am_w8_4, eq_self, or_true, true_or, am_kd_sI, am_kd_sL, am_kd_sR, am_tc_sI, am_tc_sL, am_tc_sR, am_len_sI, am_len_sL, am_len_sR, am_rfs, if_true, if_false, am_rdL_sI, am_rR_sL, am_rt_cq, am_kd_cq, am_tc_cq, am_len_cq, am_rd_sL, am_rd_sR, am_rdL_sR, okK_0 ok, okR_0_0 ok, okK_1 ok, dh, y, n1, n2, w1]
        · by_cases w2 : w ≤ 2
          · have cn : 0 ≤ n ∧ n ≤ 40 := ⟨Int32.not_lt.mp n1, Int32.not_lt.mp n2⟩
            have cw : 0 ≤ w ∧ w ≤ 2 := ⟨Int32.not_lt.mp w1, w2⟩
            rw [if_pos ⟨ca, cn, cw⟩]
            obtain ⟨i, hi, rfl⟩ := q_in2 c1 ca
            obtain ⟨k, hk, rfl⟩ := q_rg 40 (by decide) cn
            obtain ⟨fk, cF, -⟩ := H.fl i hi
            have wf := fk.wf
            have z : (nI i).toNatClampNeg = i := nI_clamp (by omega)
            have zk : (nI k).toNatClampNeg = k := nI_clamp (by omega)
            have x : am_ix (nI i) 2 = true := am_ix_nI (by omega) (by decide)
            have r := q_fo_ref ok i (by omega)
            have q178 : q_flk 178 := Or.inl rfl
            obtain ⟨h1, f1, g1, s1⟩ := den_begin h ok 178 (8 + 16 * i) q178 (by omega) _ wf cF
            have ok1 := f1.ok q178 ok
            have cF1 := f1.cF cF (by omega)
            obtain ⟨h2, xx, w2', g2, F2, s2⟩ := q_gre_c (8 + 16 * i) (by omega) _ fk k (by omega) (nI i) w k 0 _ h1 (by omega) (G_0_in fk) ok1 g1 cF1
            have ok2 := w2'.1
            have gi : ∀ (r : Nat) (g : q_G), G_in (A.2.2.1 i) g → G_in (A.2.2.1 i) (G_gn (A.2.2.1 i) r g) := by
              intro r
              induction r with
              | zero => intro g hg; exact hg
              | succ r ih => intro g hg; exact ih _ (G_gr_in wf hg)
            have gi2 := gi k _ (G_0_in fk)
            have dt := den_stepsTo h2 178 _ _ _ g2 wf gi2 (F_pen (A.2.2.1 i)) fk.2.2.1.1
            have e2 : h2.1 (8 + 16 * i) 2 = nI (F_pen (A.2.2.1 i)) := by
              rw [F2.1.2.2.2.1]
              exact if_pos fk.2.2.1.1
            have dn := den_numberOf h2 _ _ F2.1 (G_dog (G_gn (A.2.2.1 i) k (G_0 (A.2.2.1 i)))) gi2.1.1
            have eg := g2.2.2.1.1
            have ep := g2.2.2.1.2.1
            refine ⟨h2, (f1.wk q178 ok).tr w2', ?_⟩
            rw [z, zk]
            have s0 : am_ev 105 0 [some (.ref 0), some (.int (nI i)), some (.int (nI k)), some (.int w), none, none] [] h = am_ev 105 56 [some (.ref 0), some (.int (nI i)), some (.int (nI k)), some (.int w), some (.ref (8 + 16 * i)), some (.int (nI 0))] [] h1 := by
              simp only [e105_0, e105_1, e105_4, e105_5, e105_6, e105_9, e105_12, e105_13, e105_16, e105_17, e105_19, e105_22, e105_23, e105_26, e105_27, e105_28, e105_31, e105_32, e105_33, e105_34, e105_37, e105_40, e105_41f, e105_41d, e105_41b, e105_41l, e105_41t, e105_42, e105_44, e105_45, e105_48, e105_50, e105_53, e105_54, e105_58, e105_59, e105_62, e105_63, e105_65, e105_68, e105_71, e105_74, e105_77, e105_80, e105_81, e105_84, e105_85, e105_88, e105_91, e105_92, e105_93, e105_94, e105_97, e105_98, e105_101, e105_103, e105_106, e105_109, e105_112, e105_114, e105_115, e105_118, e105_121, e105_124, am_bd_some, Option.toList_some, Option.toList_none, List.cons_append, List.nil_append, am_w8_0, am_w8_1, am_w8_2, am_w8_3, am_w8_4, eq_self, or_true, true_or, am_kd_sI, am_kd_sL, am_kd_sR, am_tc_sI, am_tc_sL, am_tc_sR, am_len_sI, am_len_sL, am_len_sR, am_rfs, if_true, if_false, am_rdL_sI, am_rR_sL, am_rt_cq, am_kd_cq, am_tc_cq, am_len_cq, am_rd_sL, am_rd_sR, am_rdL_sR, okK_0 ok, okR_0_0 ok, okK_1 ok, okR_1_5 ok, okT_4 ok, okL_4 ok, okR_0_4 ok, okK_178 ok, dh, y, n1, n2, w1, w2, x, z, r, s1, nI_0]
            rw [s0, s2]
            unfold G_gA
            by_cases m0 : w = 0
            · simp only [e105_0, e105_1, e105_4, e105_5, e105_6, e105_9, e105_12, e105_13, e105_16, e105_17, e105_19, e105_22, e105_23, e105_26, e105_27, e105_28, e105_31, e105_32, e105_33, e105_34, e105_37, e105_40, e105_41f, e105_41d, e105_41b, e105_41l, e105_41t, e105_42, e105_44, e105_45, e105_48, e105_50, e105_53, e105_54, e105_58, e105_59, e105_62, e105_63, e105_65, e105_68, e105_71, e105_74, e105_77, e105_80, e105_81, e105_84, e105_85, e105_88, e105_91, e105_92, e105_93, e105_94, e105_97, e105_98, e105_101, e105_103, e105_106, e105_109, e105_112, e105_114, e105_115, e105_118, e105_121, e105_124, am_bd_some, Option.toList_some, Option.toList_none, List.cons_append, List.nil_append, am_w8_0, am_w8_1, am_w8_2, am_w8_3, am_w8_4, eq_self, or_true, true_or, am_kd_sI, am_kd_sL, am_kd_sR, am_tc_sI, am_tc_sL, am_tc_sR, am_len_sI, am_len_sL, am_len_sR, am_rfs, if_true, if_false, am_rdL_sI, am_rR_sL, am_rt_cq, am_kd_cq, am_tc_cq, am_len_cq, am_rd_sL, am_rd_sR, am_rdL_sR, m0, not_true, okK_0 ok2, okR_0_4 ok2, okK_178 ok2, ep]
            · by_cases m1 : w = 1
              · have y10 : (1 : Int32) = 0 ↔ False := by decide
                simp only [e105_0, e105_1, e105_4, e105_5, e105_6, e105_9, e105_12, e105_13, e105_16, e105_17, e105_19, e105_22, e105_23, e105_26, e105_27, e105_28, e105_31, e105_32, e105_33, e105_34, e105_37, e105_40, e105_41f, e105_41d, e105_41b, e105_41l, e105_41t, e105_42, e105_44, e105_45, e105_48, e105_50, e105_53, e105_54, e105_58, e105_59, e105_62, e105_63, e105_65, e105_68, e105_71, e105_74, e105_77, e105_80, e105_81, e105_84, e105_85, e105_88, e105_91, e105_92, e105_93, e105_94, e105_97, e105_98, e105_101, e105_103, e105_106, e105_109, e105_112, e105_114, e105_115, e105_118, e105_121, e105_124, am_bd_some, Option.toList_some, Option.toList_none, List.cons_append, List.nil_append, am_w8_0, am_w8_1, am_w8_2, am_w8_3, am_w8_4, eq_self, or_true, true_or, am_kd_sI, am_kd_sL, am_kd_sR, am_tc_sI, am_tc_sL, am_tc_sR, am_len_sI, am_len_sL, am_len_sR, am_rfs, if_true, if_false, am_rdL_sI, am_rR_sL, am_rt_cq, am_kd_cq, am_tc_cq, am_len_cq, am_rd_sL, am_rd_sR, am_rdL_sR, m1, y10, not_true, not_false_eq_true, okK_0 ok2, okR_0_4 ok2, okK_178 ok2, F2.1.1.1, e2, dt]
              · simp only [e105_0, e105_1, e105_4, e105_5, e105_6, e105_9, e105_12, e105_13, e105_16, e105_17, e105_19, e105_22, e105_23, e105_26, e105_27, e105_28, e105_31, e105_32, e105_33, e105_34, e105_37, e105_40, e105_41f, e105_41d, e105_41b, e105_41l, e105_41t, e105_42, e105_44, e105_45, e105_48, e105_50, e105_53, e105_54, e105_58, e105_59, e105_62, e105_63, e105_65, e105_68, e105_71, e105_74, e105_77, e105_80, e105_81, e105_84, e105_85, e105_88, e105_91, e105_92, e105_93, e105_94, e105_97, e105_98, e105_101, e105_103, e105_106, e105_109, e105_112, e105_114, e105_115, e105_118, e105_121, e105_124, am_bd_some, Option.toList_some, Option.toList_none, List.cons_append, List.nil_append, am_w8_0, am_w8_1, am_w8_2, am_w8_3, am_w8_4, eq_self, or_true, true_or, am_kd_sI, am_kd_sL, am_kd_sR, am_tc_sI, am_tc_sL, am_tc_sR, am_len_sI, am_len_sL, am_len_sR, am_rfs, if_true, if_false, am_rdL_sI, am_rR_sL, am_rt_cq, am_kd_cq, am_tc_cq, am_len_cq, am_rd_sL, am_rd_sR, am_rdL_sR, m0, m1, not_false_eq_true, okK_0 ok2, okR_0_4 ok2, okK_178 ok2, F2.1.1.1, eg, dn]
          · rw [if_neg (fun v => w2 v.2.2.2)]
            refine ⟨h, q_wk.rf ok, ?_⟩
            simp only [e105_0, e105_1, e105_4, e105_5, e105_6, e105_9, e105_12, e105_13, e105_16, e105_17, e105_19, e105_22, e105_23, e105_26, e105_27, e105_28, e105_31, e105_32, e105_33, e105_34, e105_37, e105_40, e105_41f, e105_41d, e105_41b, e105_41l, e105_41t, e105_42, e105_44, e105_45, e105_48, e105_50, e105_53, e105_54, e105_58, e105_59, e105_62, e105_63, e105_65, e105_68, e105_71, e105_74, e105_77, e105_80, e105_81, e105_84, e105_85, e105_88, e105_91, e105_92, e105_93, e105_94, e105_97, e105_98, e105_101, e105_103, e105_106, e105_109, e105_112, e105_114, e105_115, e105_118, e105_121, e105_124, am_bd_some, Option.toList_some, Option.toList_none, List.cons_append, List.nil_append, am_w8_0, am_w8_1, am_w8_2, am_w8_3, am_w8_4, eq_self, or_true, true_or, am_kd_sI, am_kd_sL, am_kd_sR, am_tc_sI, am_tc_sL, am_tc_sR, am_len_sI, am_len_sL, am_len_sR, am_rfs, if_true, if_false, am_rdL_sI, am_rR_sL, am_rt_cq, am_kd_cq, am_tc_cq, am_len_cq, am_rd_sL, am_rd_sR, am_rdL_sR, okK_0 ok, okR_0_0 ok, okK_1 ok, dh, y, n1, n2, w1, w2]
  · rw [if_neg ca] at dh
    rw [if_neg (fun v => ca v.1)]
    refine ⟨h, q_wk.rf ok, ?_⟩
    simp only [e105_0, e105_1, e105_4, e105_5, e105_6, e105_9, e105_12, e105_13, e105_16, e105_17, e105_19, e105_22, e105_23, e105_26, e105_27, e105_28, e105_31, e105_32, e105_33, e105_34, e105_37, e105_40, e105_41f, e105_41d, e105_41b, e105_41l, e105_41t, e105_42, e105_44, e105_45, e105_48, e105_50, e105_53, e105_54, e105_58, e105_59, e105_62, e105_63, e105_65, e105_68, e105_71, e105_74, e105_77, e105_80, e105_81, e105_84, e105_85, e105_88, e105_91, e105_92, e105_93, e105_94, e105_97, e105_98, e105_101, e105_103, e105_106, e105_109, e105_112, e105_114, e105_115, e105_118, e105_121, e105_124, am_bd_some, Option.toList_some, Option.toList_none, List.cons_append, List.nil_append, am_w8_0, am_w8_1, am_w8_2, am_w8_3, am_w8_4, eq_self, or_true, true_or, am_kd_sI, am_kd_sL, am_kd_sR, am_tc_sI, am_tc_sL, am_tc_sR, am_len_sI, am_len_sL, am_len_sR, am_rfs, if_true, if_false, am_rdL_sI, am_rR_sL, am_rt_cq, am_kd_cq, am_tc_cq, am_len_cq, am_rd_sL, am_rd_sR, am_rdL_sR, okK_0 ok, okR_0_0 ok, okK_1 ok, dh]
theorem den_mgre {A : q_All} {h : am_H} (H : q_Rel A h) (a n w : Int32) : ∃ h' : am_H, q_wk h h' ∧ am_den 279 [.ref 211, .int a, .int n, .int w] h = some (some (.int (q_grA A a n w)), h') := by
  have ok := H.1
  have h0 := H.2.1
  obtain ⟨c1, c2, c3⟩ := H.cnt 0 (by decide)
  have y : (1 : Int32) = 0 ↔ False := by decide
  show ∃ h' : am_H, q_wk h h' ∧ am_ev 279 0 [some (.ref 211), some (.int a), some (.int n), some (.int w), none, none] [] h = _
  unfold q_grA
  by_cases cn : 0 ≤ n ∧ n ≤ 40
  · by_cases cw : 0 ≤ w ∧ w ≤ 2
    · by_cases ca : 0 ≤ a ∧ a < nI (A.2.1 0)
      · rw [if_pos ⟨ca, cn, cw⟩]
        have cnt := eq_true cn
        have cwt := eq_true cw
        obtain ⟨i, hi, rfl⟩ := q_in2 c1 ca
        obtain ⟨k, hk, rfl⟩ := q_rg 40 (by decide) cn
        obtain ⟨fk, cF, fm⟩ := H.fl i hi
        have z : (nI i).toNatClampNeg = i := nI_clamp (by omega)
        have zk : (nI k).toNatClampNeg = k := nI_clamp (by omega)
        obtain ⟨h1, f1, e24, g1, s1⟩ := den_hand1 h ok i (by omega) _ fk fm (A.2.1 0) c1 hi c3
        have ok1 := g1.1.1
        obtain ⟨h2, u2, z2, w2, g2, c2', i2, s2⟩ := q_gre_m _ fk k (by omega) (nI i) w k 0 _ _ h1 none (by omega) (G_0_in fk) (G_0_pi fk) rfl g1 (G_co.rf _)
        have ok2 := g2.1.1
        have ui := c2'.sy.gin i2
        have dt := den_toPen h2 _ _ g2 fk ui
        have es : G_sum u2 (F_pen (A.2.2.1 i)) (F_n (A.2.2.1 i)) = G_sum (G_gn (A.2.2.1 i) k (G_0 (A.2.2.1 i))) (F_pen (A.2.2.1 i)) (F_n (A.2.2.1 i)) := by unfold G_sum; rw [c2'.2.2.2.2]
        rw [es] at dt
        have eg := g2.2.1.1
        rw [c2'.1] at eg
        have ep := g2.2.1.2.1
        rw [c2'.2.1] at ep
        rw [nI_0] at s2
        refine ⟨h2, (f1.wk ok).tr w2, ?_⟩
        rw [z, zk]
        have s0 : am_ev 279 0 [some (.ref 211), some (.int (nI i)), some (.int (nI k)), some (.int w), none, none] [] h = am_ev 279 37 [some (.ref 211), some (.int (nI i)), some (.int (nI k)), some (.int w), some (.int 0), none] [] h1 := by
          simp only [e279_0, e279_1, e279_2, e279_5, e279_6, e279_7, e279_9, e279_12, e279_15, e279_16, e279_17, e279_18, e279_21, e279_24, e279_25, e279_26, e279_29, e279_32, e279_33, e279_34, e279_35, e279_39, e279_40, e279_43, e279_44, e279_47, e279_49, e279_51, e279_52, e279_55, e279_56, e279_57, e279_59, e279_62, e279_63, e279_66, e279_69, e279_70, e279_73, e279_74, e279_77, e279_80, e279_81, e279_82, e279_85, e279_86, e279_89, e279_92, e279_93, e279_96, am_bd_some, Option.toList_some, Option.toList_none, List.cons_append, List.nil_append, am_w8_0, am_w8_1, am_w8_2, am_w8_3, am_w8_4, eq_self, or_true, true_or, am_kd_sI, am_kd_sL, am_kd_sR, am_tc_sI, am_tc_sL, am_tc_sR, am_len_sI, am_len_sL, am_len_sR, am_rfs, if_true, if_false, am_rdL_sI, am_rR_sL, am_rt_cq, am_kd_cq, am_tc_cq, am_len_cq, am_rd_sL, am_rd_sR, am_rdL_sR, okK_211 ok, am_sI_id h0, den_in, cnt, cwt, y, s1, not_false_eq_true]
        rw [s0, s2]
        unfold G_gA
        by_cases m0 : w = 0
        · simp only [e279_0, e279_1, e279_2, e279_5, e279_6, e279_7, e279_9, e279_12, e279_15, e279_16, e279_17, e279_18, e279_21, e279_24, e279_25, e279_26, e279_29, e279_32, e279_33, e279_34, e279_35, e279_39, e279_40, e279_43, e279_44, e279_47, e279_49, e279_51, e279_52, e279_55, e279_56, e279_57, e279_59, e279_62, e279_63, e279_66, e279_69, e279_70, e279_73, e279_74, e279_77, e279_80, e279_81, e279_82, e279_85, e279_86, e279_89, e279_92, e279_93, e279_96, am_bd_some, Option.toList_some, Option.toList_none, List.cons_append, List.nil_append, am_w8_0, am_w8_1, am_w8_2, am_w8_3, am_w8_4, eq_self, or_true, true_or, am_kd_sI, am_kd_sL, am_kd_sR, am_tc_sI, am_tc_sL, am_tc_sR, am_len_sI, am_len_sL, am_len_sR, am_rfs, if_true, if_false, am_rdL_sI, am_rR_sL, am_rt_cq, am_kd_cq, am_tc_cq, am_len_cq, am_rd_sL, am_rd_sR, am_rdL_sR, m0, not_true, okK_211 ok2, ep]
        · by_cases m1 : w = 1
          · have y10 : (1 : Int32) = 0 ↔ False := by decide
            simp only [e279_0, e279_1, e279_2, e279_5, e279_6, e279_7, e279_9, e279_12, e279_15, e279_16, e279_17, e279_18, e279_21, e279_24, e279_25, e279_26, e279_29, e279_32, e279_33, e279_34, e279_35, e279_39, e279_40, e279_43, e279_44, e279_47, e279_49, e279_51, e279_52, e279_55, e279_56, e279_57, e279_59, e279_62, e279_63, e279_66, e279_69, e279_70, e279_73, e279_74, e279_77, e279_80, e279_81, e279_82, e279_85, e279_86, e279_89, e279_92, e279_93, e279_96, am_bd_some, Option.toList_some, Option.toList_none, List.cons_append, List.nil_append, am_w8_0, am_w8_1, am_w8_2, am_w8_3, am_w8_4, eq_self, or_true, true_or, am_kd_sI, am_kd_sL, am_kd_sR, am_tc_sI, am_tc_sL, am_tc_sR, am_len_sI, am_len_sL, am_len_sR, am_rfs, if_true, if_false, am_rdL_sI, am_rR_sL, am_rt_cq, am_kd_cq, am_tc_cq, am_len_cq, am_rd_sL, am_rd_sR, am_rdL_sR, m1, y10, not_true, not_false_eq_true, okK_211 ok2, dt]
          · simp only [e279_0, e279_1, e279_2, e279_5, e279_6, e279_7, e279_9, e279_12, e279_15, e279_16, e279_17, e279_18, e279_21, e279_24, e279_25, e279_26, e279_29, e279_32, e279_33, e279_34, e279_35, e279_39, e279_40, e279_43, e279_44, e279_47, e279_49, e279_51, e279_52, e279_55, e279_56, e279_57, e279_59, e279_62, e279_63, e279_66, e279_69, e279_70, e279_73, e279_74, e279_77, e279_80, e279_81, e279_82, e279_85, e279_86, e279_89, e279_92, e279_93, e279_96, am_bd_some, Option.toList_some, Option.toList_none, List.cons_append, List.nil_append, am_w8_0, am_w8_1, am_w8_2, am_w8_3, am_w8_4, eq_self, or_true, true_or, am_kd_sI, am_kd_sL, am_kd_sR, am_tc_sI, am_tc_sL, am_tc_sR, am_len_sI, am_len_sL, am_len_sR, am_rfs, if_true, if_false, am_rdL_sI, am_rR_sL, am_rt_cq, am_kd_cq, am_tc_cq, am_len_cq, am_rd_sL, am_rd_sR, am_rdL_sR, m0, m1, not_false_eq_true, okK_211 ok2, eg]
      · rw [if_neg (fun v => ca v.1)]
        have cnt := eq_true cn
        have cwt := eq_true cw
        have s0 := den_hand0 h ok (A.2.1 0) c1 c3 a ca
        refine ⟨h, q_wk.rf ok, ?_⟩
        simp only [e279_0, e279_1, e279_2, e279_5, e279_6, e279_7, e279_9, e279_12, e279_15, e279_16, e279_17, e279_18, e279_21, e279_24, e279_25, e279_26, e279_29, e279_32, e279_33, e279_34, e279_35, e279_39, e279_40, e279_43, e279_44, e279_47, e279_49, e279_51, e279_52, e279_55, e279_56, e279_57, e279_59, e279_62, e279_63, e279_66, e279_69, e279_70, e279_73, e279_74, e279_77, e279_80, e279_81, e279_82, e279_85, e279_86, e279_89, e279_92, e279_93, e279_96, am_bd_some, Option.toList_some, Option.toList_none, List.cons_append, List.nil_append, am_w8_0, am_w8_1, am_w8_2, am_w8_3, am_w8_4, eq_self, or_true, true_or, am_kd_sI, am_kd_sL, am_kd_sR, am_tc_sI, am_tc_sL, am_tc_sR, am_len_sI, am_len_sL, am_len_sR, am_rfs, if_true, if_false, am_rdL_sI, am_rR_sL, am_rt_cq, am_kd_cq, am_tc_cq, am_len_cq, am_rd_sL, am_rd_sR, am_rdL_sR, okK_211 ok, am_sI_id h0, den_in, cnt, cwt, y, s0, not_true]
    · rw [if_neg (fun v => cw v.2.2)]
      have cnt := eq_true cn
      refine ⟨h, q_wk.rf ok, ?_⟩
      simp only [e279_0, e279_1, e279_2, e279_5, e279_6, e279_7, e279_9, e279_12, e279_15, e279_16, e279_17, e279_18, e279_21, e279_24, e279_25, e279_26, e279_29, e279_32, e279_33, e279_34, e279_35, e279_39, e279_40, e279_43, e279_44, e279_47, e279_49, e279_51, e279_52, e279_55, e279_56, e279_57, e279_59, e279_62, e279_63, e279_66, e279_69, e279_70, e279_73, e279_74, e279_77, e279_80, e279_81, e279_82, e279_85, e279_86, e279_89, e279_92, e279_93, e279_96, am_bd_some, Option.toList_some, Option.toList_none, List.cons_append, List.nil_append, am_w8_0, am_w8_1, am_w8_2, am_w8_3, am_w8_4, eq_self, or_true, true_or, am_kd_sI, am_kd_sL, am_kd_sR, am_tc_sI, am_tc_sL, am_tc_sR, am_len_sI, am_len_sL, am_len_sR, am_rfs, if_true, if_false, am_rdL_sI, am_rR_sL, am_rt_cq, am_kd_cq, am_tc_cq, am_len_cq, am_rd_sL, am_rd_sR, am_rdL_sR, okK_211 ok, am_sI_id h0, den_in, cnt, cw, y]
  · rw [if_neg (fun v => cn v.2.1)]
    refine ⟨h, q_wk.rf ok, ?_⟩
    simp only [e279_0, e279_1, e279_2, e279_5, e279_6, e279_7, e279_9, e279_12, e279_15, e279_16, e279_17, e279_18, e279_21, e279_24, e279_25, e279_26, e279_29, e279_32, e279_33, e279_34, e279_35, e279_39, e279_40, e279_43, e279_44, e279_47, e279_49, e279_51, e279_52, e279_55, e279_56, e279_57, e279_59, e279_62, e279_63, e279_66, e279_69, e279_70, e279_73, e279_74, e279_77, e279_80, e279_81, e279_82, e279_85, e279_86, e279_89, e279_92, e279_93, e279_96, am_bd_some, Option.toList_some, Option.toList_none, List.cons_append, List.nil_append, am_w8_0, am_w8_1, am_w8_2, am_w8_3, am_w8_4, eq_self, or_true, true_or, am_kd_sI, am_kd_sL, am_kd_sR, am_tc_sI, am_tc_sL, am_tc_sR, am_len_sI, am_len_sL, am_len_sR, am_rfs, if_true, if_false, am_rdL_sI, am_rR_sL, am_rt_cq, am_kd_cq, am_tc_cq, am_len_cq, am_rd_sL, am_rd_sR, am_rdL_sR, okK_211 ok, am_sI_id h0, den_in, cn]
theorem ly_26 : ly_p26 := fun a n w => pr_wk (fun A => q_grA A a n w) (fun A h H => den_cgre H a n w) (fun A h H => den_mgre H a n w)
