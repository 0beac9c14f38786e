/-! part 62: post, the pair -/
def q_R (f : q_Fl) (P : Nat → Bool) : Nat × Option Nat := (List.range (F_w f * F_h f)).foldr (q_st2 (fun m => P (q_cell (F_w f) m))) (0, none)
theorem q_R_num (h : am_H) (o : Nat) (f : q_Fl) (cf : q_cf h o f) (wf : F_wf f) (P : Nat → Bool) : am_den 67 [.ref o, .int (q_oc ((q_R f P).2.map (q_cell (F_w f))))] h = some (some (.int (q_oc (q_R f P).2)), h) := by
  cases hr : (q_R f P).2 with
  | none => exact den_numberOf0 h o
  | some m =>
    have hm : m < F_w f * F_h f := q_st2_lt (f := f) _ _ m hr
    obtain ⟨ci, cn⟩ := q_cell_in wf hm
    have := den_numberOf h o f cf (q_cell (F_w f) m) ci.1
    rw [cn] at this
    exact this
def q_pstP (A : q_All) (a b d : Int32) : Prop := q_fb2 A a b ∧ (0 ≤ d ∧ d ≤ 3)
noncomputable def q_pstA (A : q_All) (a b d many : Int32) : Int32 := @ite _ (q_pstP A a b d) (Classical.propDecidable _) (if many = 0 then q_oc (q_R (A.2.2.1 a.toNatClampNeg) (F_pp (A.2.2.1 a.toNatClampNeg) b.toNatClampNeg d.toNatClampNeg)).2 else nI (q_R (A.2.2.1 a.toNatClampNeg) (F_pp (A.2.2.1 a.toNatClampNeg) b.toNatClampNeg d.toNatClampNeg)).1) (-2)
theorem den_cpost {A : q_All} {h : am_H} (H : q_Rel A h) (a b d many : Int32) : ∃ h' : am_H, q_wk h h' ∧ am_den 101 [.ref 0, .int a, .int b, .int d, .int many] h = some (some (.int (q_pstA A a b d many)), h') := by
  have ok := H.1
  have db := den_hasBeast H a b
  have y : ¬ (1 : Int32) = 0 := by decide
  show ∃ h' : am_H, q_wk h h' ∧ am_ev 101 0 [some (.ref 0), some (.int a), some (.int b), some (.int d), some (.int many), none, none, none, none] [] h = _
  unfold q_pstA
  by_cases c : q_fb2 A a b
  · have c' : (0 ≤ a ∧ a < nI (A.2.1 0)) ∧ (0 ≤ b ∧ b < nI (F_n (A.2.2.1 a.toNatClampNeg))) := c
    rw [if_pos c'] at db
    by_cases cd : 0 ≤ d ∧ d ≤ 3
    · rw [if_pos ⟨c, cd⟩]
      obtain ⟨i, j, hi, hi2, rfl, hj, hj6, rfl⟩ := q_fb2_nat H c
      obtain ⟨k, hk, rfl⟩ := q_rg 3 (by decide) cd
      obtain ⟨fk, cF, -⟩ := H.fl i hi
      have wf := fk.wf
      have z : (nI i).toNatClampNeg = i := nI_clamp (by omega)
      have x : am_ix (nI i) 2 = true := am_ix_nI (by omega) (by decide)
      have zj : (nI j).toNatClampNeg = j := nI_clamp (by omega)
      have zk : (nI k).toNatClampNeg = k := nI_clamp (by omega)
      have r := q_fo_ref ok i hi2
      have q178 : q_flk 178 := Or.inl rfl
      have d1 := Int32.not_lt.mpr cd.1
      have d2 : nI k < 4 := nI_lt (b := 4) (by omega) (by decide)
      obtain ⟨h1, f1, g1, s1⟩ := den_begin h ok 178 (8 + 16 * i) q178 (by omega) _ wf cF
      have ok1 := f1.ok q178 ok
      have cF1 := f1.cF cF (by omega)
      obtain ⟨h2, f2, s2⟩ := q_pst_c (8 + 16 * i) (by omega) _ fk j k hj (by omega) (nI i) many 64 0 0 (F_dog (A.2.2.1 i)) none h1 (by omega) (fun x hx => by cases hx) ok1 fk.2.2.2.1 g1 cF1
      have cF2 := f2.fb.cF cF1 (show 8 + 16 * i + 2 < 178 ∨ 178 + 5 < 8 + 16 * i by omega)
      have ce := q_cnt_eq wf (F_pp (A.2.2.1 i) j k)
      have ce' : (List.range' 0 64).foldl (F_pc (A.2.2.1 i) (F_pp (A.2.2.1 i) j k)) (0, none) = ((q_R (A.2.2.1 i) (F_pp (A.2.2.1 i) j k)).1, (q_R (A.2.2.1 i) (F_pp (A.2.2.1 i) j k)).2.map (q_cell (F_w (A.2.2.1 i)))) := by
        rw [← List.range_eq_range']
        exact ce
      rw [ce', nI_0] at s2
      have q1 : q_oc none = -1 := rfl
      rw [q1] at s2
      have rn := q_R_num h2 (8 + 16 * i) _ cF2.1 wf (F_pp (A.2.2.1 i) j k)
      have ok2 := (f1.tr f2.fb).ok q178 ok
      refine ⟨h2, (f1.tr f2.fb).wk q178 ok, ?_⟩
      rw [z, zj, zk]
      have s0 : am_ev 101 0 [some (.ref 0), some (.int (nI i)), some (.int (nI j)), some (.int (nI k)), some (.int many), none, none, none, none] [] h = am_ev 101 50 [some (.ref 0), some (.int (nI i)), some (.int (nI j)), some (.int (nI k)), some (.int many), some (.ref (8 + 16 * i)), some (.int 0), some (.int (-1)), some (.int 0)] [] h1 := by
        simp only [e101_0, e101_1, e101_2, e101_3, e101_6, e101_9, e101_10, e101_13, e101_14, e101_15, e101_18, e101_20, e101_21, e101_22, e101_25, e101_28, e101_29f, e101_29d, e101_29b, e101_29l, e101_29t, e101_30, e101_32, e101_33, e101_36, e101_38, e101_41, e101_42, e101_44, e101_45, e101_47, e101_48, e101_52, e101_54, e101_57, e101_59, e101_61, e101_64, e101_67, e101_70, e101_71, e101_74, e101_76, e101_79, e101_80, e101_83, e101_84, e101_87, e101_88, e101_91, e101_94, e101_96, e101_97, e101_100, e101_102, e101_105, e101_107, e101_109, e101_112, e101_115, e101_117, e101_120, e101_122, e101_125, e101_127, e101_129, e101_132, am_bd_some, Option.toList_some, Option.toList_none, List.cons_append, List.nil_append, am_w8_0, am_w8_1, am_w8_2, am_w8_3, am_w8_4, eq_self, or_true, true_or, am_kd_sI, am_kd_sL, am_kd_sR, am_tc_sI, am_tc_sL, am_tc_sR, am_len_sI, am_len_sL, am_len_sR, am_rfs, if_true, if_false, am_rdL_sI, am_rR_sL, am_rt_cq, am_kd_cq, am_tc_cq, am_len_cq, am_rd_sL, am_rd_sR, am_rdL_sR, okK_0 ok, okR_0_0 ok, okK_1 ok, okR_1_5 ok, okT_4 ok, okL_4 ok, okR_0_4 ok, okK_178 ok, db, y, d1, d2, x, z, r, s1]
      rw [s0, s2]
      by_cases m : many = 0
      · simp only [e101_0, e101_1, e101_2, e101_3, e101_6, e101_9, e101_10, e101_13, e101_14, e101_15, e101_18, e101_20, e101_21, e101_22, e101_25, e101_28, e101_29f, e101_29d, e101_29b, e101_29l, e101_29t, e101_30, e101_32, e101_33, e101_36, e101_38, e101_41, e101_42, e101_44, e101_45, e101_47, e101_48, e101_52, e101_54, e101_57, e101_59, e101_61, e101_64, e101_67, e101_70, e101_71, e101_74, e101_76, e101_79, e101_80, e101_83, e101_84, e101_87, e101_88, e101_91, e101_94, e101_96, e101_97, e101_100, e101_102, e101_105, e101_107, e101_109, e101_112, e101_115, e101_117, e101_120, e101_122, e101_125, e101_127, e101_129, e101_132, am_bd_some, Option.toList_some, Option.toList_none, List.cons_append, List.nil_append, am_w8_0, am_w8_1, am_w8_2, am_w8_3, am_w8_4, eq_self, or_true, true_or, am_kd_sI, am_kd_sL, am_kd_sR, am_tc_sI, am_tc_sL, am_tc_sR, am_len_sI, am_len_sL, am_len_sR, am_rfs, if_true, if_false, am_rdL_sI, am_rR_sL, am_rt_cq, am_kd_cq, am_tc_cq, am_len_cq, am_rd_sL, am_rd_sR, am_rdL_sR, m, cF2.1.1.1, rn]
      · simp only [e101_0, e101_1, e101_2, e101_3, e101_6, e101_9, e101_10, e101_13, e101_14, e101_15, e101_18, e101_20, e101_21, e101_22, e101_25, e101_28, e101_29f, e101_29d, e101_29b, e101_29l, e101_29t, e101_30, e101_32, e101_33, e101_36, e101_38, e101_41, e101_42, e101_44, e101_45, e101_47, e101_48, e101_52, e101_54, e101_57, e101_59, e101_61, e101_64, e101_67, e101_70, e101_71, e101_74, e101_76, e101_79, e101_80, e101_83, e101_84, e101_87, e101_88, e101_91, e101_94, e101_96, e101_97, e101_100, e101_102, e101_105, e101_107, e101_109, e101_112, e101_115, e101_117, e101_120, e101_122, e101_125, e101_127, e101_129, e101_132, am_bd_some, Option.toList_some, Option.toList_none, List.cons_append, List.nil_append, am_w8_0, am_w8_1, am_w8_2, am_w8_3, am_w8_4, eq_self, or_true, true_or, am_kd_sI, am_kd_sL, am_kd_sR, am_tc_sI, am_tc_sL, am_tc_sR, am_len_sI, am_len_sL, am_len_sR, am_rfs, if_true, if_false, am_rdL_sI, am_rR_sL, am_rt_cq, am_kd_cq, am_tc_cq, am_len_cq, am_rd_sL, am_rd_sR, am_rdL_sR, m]
    · rw [if_neg (fun w => cd w.2)]
      refine ⟨h, q_wk.rf ok, ?_⟩
      by_cases d1 : d < 0
      · simp only [e101_0, e101_1, e101_2, e101_3, e101_6, e101_9, e101_10, e101_13, e101_14, e101_15, e101_18, e101_20, e101_21, e101_22, e101_25, e101_28, e101_29f, e101_29d, e101_29b, e101_29l, e101_29t, e101_30, e101_32, e101_33, e101_36, e101_38, e101_41, e101_42, e101_44, e101_45, e101_47, e101_48, e101_52, e101_54, e101_57, e101_59, e101_61, e101_64, e101_67, e101_70, e101_71, e101_74, e101_76, e101_79, e101_80, e101_83, e101_84, e101_87, e101_88, e101_91, e101_94, e101_96, e101_97, e101_100, e101_102, e101_105, e101_107, e101_109, e101_112, e101_115, e101_117, e101_120, e101_122, e101_125, e101_127, e101_129, e101_132, am_bd_some, Option.toList_some, Option.toList_none, List.cons_append, List.nil_append, am_w8_0, am_w8_1, am_w8_2, am_w8_3, am_w8_4, eq_self, or_true, true_or, am_kd_sI, am_kd_sL, am_kd_sR, am_tc_sI, am_tc_sL, am_tc_sR, am_len_sI, am_len_sL, am_len_sR, am_rfs, if_true, if_false, am_rdL_sI, am_rR_sL, am_rt_cq, am_kd_cq, am_tc_cq, am_len_cq, am_rd_sL, am_rd_sR, am_rdL_sR, okK_0 ok, db, y, d1]
      · have d2 : ¬ d < 4 := fun w => cd ⟨Int32.not_lt.mp d1, Int32.le_iff_toInt_le.mpr (by
          have := Int32.lt_iff_toInt_lt.mp w
          have e4 : (4 : Int32).toInt = 4 := by decide
          have e3 : (3 : Int32).toInt = 3 := by decide
          omega)⟩
        simp only [e101_0, e101_1, e101_2, e101_3, e101_6, e101_9, e101_10, e101_13, e101_14, e101_15, e101_18, e101_20, e101_21, e101_22, e101_25, e101_28, e101_29f, e101_29d, e101_29b, e101_29l, e101_29t, e101_30, e101_32, e101_33, e101_36, e101_38, e101_41, e101_42, e101_44, e101_45, e101_47, e101_48, e101_52, e101_54, e101_57, e101_59, e101_61, e101_64, e101_67, e101_70, e101_71, e101_74, e101_76, e101_79, e101_80, e101_83, e101_84, e101_87, e101_88, e101_91, e101_94, e101_96, e101_97, e101_100, e101_102, e101_105, e101_107, e101_109, e101_112, e101_115, e101_117, e101_120, e101_122, e101_125, e101_127, e101_129, e101_132, am_bd_some, Option.toList_some, Option.toList_none, List.cons_append, List.nil_append, am_w8_0, am_w8_1, am_w8_2, am_w8_3, am_w8_4, eq_self, or_true, true_or, am_kd_sI, am_kd_sL, am_kd_sR, am_tc_sI, am_tc_sL, am_tc_sR, am_len_sI, am_len_sL, am_len_sR, am_rfs, if_true, if_false, am_rdL_sI, am_rR_sL, am_rt_cq, am_kd_cq, am_tc_cq, am_len_cq, am_rd_sL, am_rd_sR, am_rdL_sR, okK_0 ok, db, y, d1, d2]
  · have c' : ¬ ((0 ≤ a ∧ a < nI (A.2.1 0)) ∧ (0 ≤ b ∧ b < nI (F_n (A.2.2.1 a.toNatClampNeg)))) := c
    rw [if_neg c'] at db
    rw [if_neg (fun w => c w.1)]
    refine ⟨h, q_wk.rf ok, ?_⟩
    simp only [e101_0, e101_1, e101_2, e101_3, e101_6, e101_9, e101_10, e101_13, e101_14, e101_15, e101_18, e101_20, e101_21, e101_22, e101_25, e101_28, e101_29f, e101_29d, e101_29b, e101_29l, e101_29t, e101_30, e101_32, e101_33, e101_36, e101_38, e101_41, e101_42, e101_44, e101_45, e101_47, e101_48, e101_52, e101_54, e101_57, e101_59, e101_61, e101_64, e101_67, e101_70, e101_71, e101_74, e101_76, e101_79, e101_80, e101_83, e101_84, e101_87, e101_88, e101_91, e101_94, e101_96, e101_97, e101_100, e101_102, e101_105, e101_107, e101_109, e101_112, e101_115, e101_117, e101_120, e101_122, e101_125, e101_127, e101_129, e101_132, am_bd_some, Option.toList_some, Option.toList_none, List.cons_append, List.nil_append, am_w8_0, am_w8_1, am_w8_2, am_w8_3, am_w8_4, eq_self, or_true, true_or, am_kd_sI, am_kd_sL, am_kd_sR, am_tc_sI, am_tc_sL, am_tc_sR, am_len_sI, am_len_sL, am_len_sR, am_rfs, if_true, if_false, am_rdL_sI, am_rR_sL, am_rt_cq, am_kd_cq, am_tc_cq, am_len_cq, am_rd_sL, am_rd_sR, am_rdL_sR, okK_0 ok, db]
theorem den_mpost {A : q_All} {h : am_H} (H : q_Rel A h) (a b d many : Int32) : ∃ h' : am_H, q_wk h h' ∧ am_den 276 [.ref 211, .int a, .int b, .int d, .int many] h = some (some (.int (q_pstA A a b d many)), h') := by
  have ok := H.1
  have h0 := H.2.1
  obtain ⟨c1, c2, c3⟩ := H.cnt 0 (by decide)
  have y : ¬ (1 : Int32) = 0 := by decide
  show ∃ h' : am_H, q_wk h h' ∧ am_ev 276 0 [some (.ref 211), some (.int a), some (.int b), some (.int d), some (.int many), none, none, none] [] h = _
  unfold q_pstA
  by_cases cd : 0 ≤ d ∧ d ≤ 3
  · by_cases ca : 0 ≤ a ∧ a < nI (A.2.1 0)
    · obtain ⟨i, hi, rfl⟩ := q_in2 c1 ca
      obtain ⟨fk, cF, fm⟩ := H.fl i hi
      have wf := fk.wf
      have n6 := wf.2.2.2.1
      have c64 := wf.c64
      have z : (nI i).toNatClampNeg = i := nI_clamp (by omega)
      obtain ⟨h1, f1, e24, g1, s1⟩ := den_hand1 h ok i (by omega) _ fk fm (A.2.1 0) c1 hi c3
      have ok1 := g1.1.1
      have a2 := g1.1.2.2.1
      have db := den_isBeast h1 ok1 (F_n (A.2.2.1 i)) wf.2.2.2.1 g1.1.2.2.2.2.2.1 b
      by_cases cb : 0 ≤ b ∧ b < nI (F_n (A.2.2.1 i))
      · have cc : q_fb2 A (nI i) b := ⟨ca, by rw [z]; exact cb⟩
        rw [if_pos ⟨cc, cd⟩]
        rw [if_pos cb] at db
        obtain ⟨j, hj0, rfl⟩ := nI_of (Int32.not_lt.mpr cb.1)
        have hj : j < F_n (A.2.2.1 i) := (nI_ltI hj0 (by omega)).mp cb.2
        obtain ⟨k, hk, rfl⟩ := q_rg 3 (by decide) cd
        have zj : (nI j).toNatClampNeg = j := nI_clamp (by omega)
        have zk : (nI k).toNatClampNeg = k := nI_clamp (by omega)
        have w4 : 2 * 2 ≤ F_w (A.2.2.1 i) * F_h (A.2.2.1 i) := Nat.mul_le_mul wf.1.1 wf.2.1.1
        have dn : nI (F_w (A.2.2.1 i) * F_h (A.2.2.1 i)) - 1 = q_dn (F_w (A.2.2.1 i) * F_h (A.2.2.1 i)) := by
          unfold q_dn
          rw [if_neg (by omega)]
          exact pk_sub (b := 1) (by omega)
        obtain ⟨h2, f2, s2⟩ := q_pst_m _ fk j k hj (by omega) (nI i) many (F_w (A.2.2.1 i) * F_h (A.2.2.1 i)) 0 (F_dog (A.2.2.1 i)) none h1 (Nat.le_refl _) fk.2.2.2.1 g1
        have q1 : q_oc none = -1 := rfl
        rw [nI_0, q1] at s2
        refine ⟨h2, (f1.wk ok).tr (f2.wk ok1), ?_⟩
        rw [z, zj, zk]
        simp only [e276_0, e276_1, e276_2, e276_5, e276_6, e276_7, e276_8, e276_11, e276_14, e276_15, e276_16, e276_19, e276_22, e276_23, e276_24, e276_27, e276_30, e276_32, e276_33, e276_34, e276_36, e276_37, e276_39, e276_40, e276_43, e276_44, e276_45, e276_49, e276_52, e276_53, e276_55, e276_58, e276_61, e276_62, e276_63, e276_65, e276_68, e276_71, e276_72, e276_73, e276_76, e276_77, e276_80, e276_83, e276_85, e276_87, e276_90, e276_93, e276_95, e276_98, e276_100, e276_103, e276_105, am_bd_some, Option.toList_some, Option.toList_none, List.cons_append, List.nil_append, am_w8_0, am_w8_1, am_w8_2, am_w8_3, am_w8_4, eq_self, or_true, true_or, am_kd_sI, am_kd_sL, am_kd_sR, am_tc_sI, am_tc_sL, am_tc_sR, am_len_sI, am_len_sL, am_len_sR, am_rfs, if_true, if_false, am_rdL_sI, am_rR_sL, am_rt_cq, am_kd_cq, am_tc_cq, am_len_cq, am_rd_sL, am_rd_sR, am_rdL_sR, okK_211 ok, am_sI_id h0, den_in, cd, and_self, y, s1, okK_211 ok1, db, not_false_eq_true, a2, dn]
        exact s2
      · have cc : ¬ q_pstP A (nI i) b d := fun w => cb (by have := w.1.2; rw [z] at this; exact this)
        rw [if_neg cc]
        rw [if_neg cb] at db
        refine ⟨h1, f1.wk ok, ?_⟩
        simp only [e276_0, e276_1, e276_2, e276_5, e276_6, e276_7, e276_8, e276_11, e276_14, e276_15, e276_16, e276_19, e276_22, e276_23, e276_24, e276_27, e276_30, e276_32, e276_33, e276_34, e276_36, e276_37, e276_39, e276_40, e276_43, e276_44, e276_45, e276_49, e276_52, e276_53, e276_55, e276_58, e276_61, e276_62, e276_63, e276_65, e276_68, e276_71, e276_72, e276_73, e276_76, e276_77, e276_80, e276_83, e276_85, e276_87, e276_90, e276_93, e276_95, e276_98, e276_100, e276_103, e276_105, am_bd_some, Option.toList_some, Option.toList_none, List.cons_append, List.nil_append, am_w8_0, am_w8_1, am_w8_2, am_w8_3, am_w8_4, eq_self, or_true, true_or, am_kd_sI, am_kd_sL, am_kd_sR, am_tc_sI, am_tc_sL, am_tc_sR, am_len_sI, am_len_sL, am_len_sR, am_rfs, if_true, if_false, am_rdL_sI, am_rR_sL, am_rt_cq, am_kd_cq, am_tc_cq, am_len_cq, am_rd_sL, am_rd_sR, am_rdL_sR, okK_211 ok, am_sI_id h0, den_in, cd, and_self, y, s1, okK_211 ok1, db, not_true]
    · rw [if_neg (fun w => ca w.1.1)]
      have s0 := den_hand0 h ok (A.2.1 0) c1 c3 a ca
      refine ⟨h, q_wk.rf ok, ?_⟩
      simp only [e276_0, e276_1, e276_2, e276_5, e276_6, e276_7, e276_8, e276_11, e276_14, e276_15, e276_16, e276_19, e276_22, e276_23, e276_24, e276_27, e276_30, e276_32, e276_33, e276_34, e276_36, e276_37, e276_39, e276_40, e276_43, e276_44, e276_45, e276_49, e276_52, e276_53, e276_55, e276_58, e276_61, e276_62, e276_63, e276_65, e276_68, e276_71, e276_72, e276_73, e276_76, e276_77, e276_80, e276_83, e276_85, e276_87, e276_90, e276_93, e276_95, e276_98, e276_100, e276_103, e276_105, am_bd_some, Option.toList_some, Option.toList_none, List.cons_append, List.nil_append, am_w8_0, am_w8_1, am_w8_2, am_w8_3, am_w8_4, eq_self, or_true, true_or, am_kd_sI, am_kd_sL, am_kd_sR, am_tc_sI, am_tc_sL, am_tc_sR, am_len_sI, am_len_sL, am_len_sR, am_rfs, if_true, if_false, am_rdL_sI, am_rR_sL, am_rt_cq, am_kd_cq, am_tc_cq, am_len_cq, am_rd_sL, am_rd_sR, am_rdL_sR, okK_211 ok, am_sI_id h0, den_in, cd, and_self, y, s0]
  · rw [if_neg (fun w => cd w.2)]
    refine ⟨h, q_wk.rf ok, ?_⟩
    simp only [e276_0, e276_1, e276_2, e276_5, e276_6, e276_7, e276_8, e276_11, e276_14, e276_15, e276_16, e276_19, e276_22, e276_23, e276_24, e276_27, e276_30, e276_32, e276_33, e276_34, e276_36, e276_37, e276_39, e276_40, e276_43, e276_44, e276_45, e276_49, e276_52, e276_53, e276_55, e276_58, e276_61, e276_62, e276_63, e276_65, e276_68, e276_71, e276_72, e276_73, e276_76, e276_77, e276_80, e276_83, e276_85, e276_87, e276_90, e276_93, e276_95, e276_98, e276_100, e276_103, e276_105, am_bd_some, Option.toList_some, Option.toList_none, List.cons_append, List.nil_append, am_w8_0, am_w8_1, am_w8_2, am_w8_3, am_w8_4, eq_self, or_true, true_or, am_kd_sI, am_kd_sL, am_kd_sR, am_tc_sI, am_tc_sL, am_tc_sR, am_len_sI, am_len_sL, am_len_sR, am_rfs, if_true, if_false, am_rdL_sI, am_rR_sL, am_rt_cq, am_kd_cq, am_tc_cq, am_len_cq, am_rd_sL, am_rd_sR, am_rdL_sR, okK_211 ok, am_sI_id h0, den_in, cd]
theorem ly_23 : ly_p23 := fun a b d many _ => pr_wk (fun A => q_pstA A a b d many) (fun A h H => den_cpost H a b d many) (fun A h H => den_mpost H a b d many)
