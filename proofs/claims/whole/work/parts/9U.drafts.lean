/-! part 9U: the four sorts: what is told, the class -/
theorem c_kp (h : am_H) (ok : am_okH h) (i : Nat) (hi : i < 18) (h2 : am_H) (D : (ln_s i = 0 → am_den 46 [.ref 160, .int (nI (ln_c i)), .ref 176] h = some (none, h2)) ∧ (ln_s i = 1 → am_den 48 [.ref 163, .int (nI (ln_c i)), .ref 176] h = some (none, h2)) ∧ (ln_s i = 2 → am_den 49 [.ref 165, .int (nI (ln_c i)), .ref 176] h = some (none, h2)) ∧ (ln_s i = 3 → am_den 50 [.ref 171, .int (nI (ln_c i)), .ref 176] h = some (none, h2))) : am_den 45 [.ref 159, .ref (1048578 + i)] h = some (none, h2) := by
  obtain ⟨D0, D1, D2, D3⟩ := D
  obtain ⟨k1, k2, -⟩ := ln_ok hi
  have s4 := ln_s_lt i hi
  have y1 : ¬ (1 : Int32) = 0 := by decide
  have y2 : ¬ (2 : Int32) = 0 := by decide
  have y3 : ¬ (3 : Int32) = 0 := by decide
  have y21 : ¬ (2 : Int32) = 1 := by decide
  have y31 : ¬ (3 : Int32) = 1 := by decide
  have y32 : ¬ (3 : Int32) = 2 := by decide
  show am_ev 45 0 [some (.ref 159), some (.ref (1048578 + i))] [] h = _
  have hs4 : ln_s i = 0 ∨ ln_s i = 1 ∨ ln_s i = 2 ∨ ln_s i = 3 := by omega
  rcases hs4 with e | e | e | e
  · have k1' : kOv (1048578 + i) 11 = some (.int 0) := by rw [k1, e]; rfl
    simp only [e45_0, e45_0n, e45_1, e45_4, e45_7, e45_7n, e45_8, e45_11, e45_11n, e45_12, e45_15, e45_15n, e45_16, e45_19, e45_22, e45_25, e45_25n, e45_26, e45_29, e45_30, e45_33, e45_33n, e45_34, e45_37, e45_37n, e45_38, e45_41, e45_41n, e45_42, e45_45, e45_48, e45_51, e45_51n, e45_52, e45_55, e45_56, e45_59, e45_59n, e45_60, e45_63, e45_63n, e45_64, e45_67, e45_67n, e45_68, e45_71, e45_74, e45_77, e45_77n, e45_78, e45_81, e45_81n, e45_82, e45_85, e45_85n, e45_86, e45_89, e45_92, am_bd_some, Option.toList_some, Option.toList_none, List.cons_append, List.nil_append, am_w8_0, am_w8_1, am_w8_2, am_w8_3, am_w8_4, eq_self, or_true, true_or, am_kd_sI, am_kd_sL, am_kd_sR, am_tc_sI, am_tc_sL, am_tc_sR, am_len_sI, am_len_sL, am_len_sR, am_rfs, if_true, if_false, am_rdL_sI, am_rR_sL, am_rt_cq, am_kd_cq, am_tc_cq, am_len_cq, am_rd_sL, am_rd_sR, am_rdL_sR, k1', k2, am_ob_some, not_true, okK_159 ok, okR_159_0 ok, okR_159_6 ok, okK_160 ok, D0 e]
  · have k1' : kOv (1048578 + i) 11 = some (.int 1) := by rw [k1, e]; rfl
    simp only [e45_0, e45_0n, e45_1, e45_4, e45_7, e45_7n, e45_8, e45_11, e45_11n, e45_12, e45_15, e45_15n, e45_16, e45_19, e45_22, e45_25, e45_25n, e45_26, e45_29, e45_30, e45_33, e45_33n, e45_34, e45_37, e45_37n, e45_38, e45_41, e45_41n, e45_42, e45_45, e45_48, e45_51, e45_51n, e45_52, e45_55, e45_56, e45_59, e45_59n, e45_60, e45_63, e45_63n, e45_64, e45_67, e45_67n, e45_68, e45_71, e45_74, e45_77, e45_77n, e45_78, e45_81, e45_81n, e45_82, e45_85, e45_85n, e45_86, e45_89, e45_92, am_bd_some, Option.toList_some, Option.toList_none, List.cons_append, List.nil_append, am_w8_0, am_w8_1, am_w8_2, am_w8_3, am_w8_4, eq_self, or_true, true_or, am_kd_sI, am_kd_sL, am_kd_sR, am_tc_sI, am_tc_sL, am_tc_sR, am_len_sI, am_len_sL, am_len_sR, am_rfs, if_true, if_false, am_rdL_sI, am_rR_sL, am_rt_cq, am_kd_cq, am_tc_cq, am_len_cq, am_rd_sL, am_rd_sR, am_rdL_sR, k1', k2, am_ob_some, y1, not_true, not_false_eq_true, okK_159 ok, okR_159_1 ok, okR_159_6 ok, okK_163 ok, D1 e]
  · have k1' : kOv (1048578 + i) 11 = some (.int 2) := by rw [k1, e]; rfl
    simp only [e45_0, e45_0n, e45_1, e45_4, e45_7, e45_7n, e45_8, e45_11, e45_11n, e45_12, e45_15, e45_15n, e45_16, e45_19, e45_22, e45_25, e45_25n, e45_26, e45_29, e45_30, e45_33, e45_33n, e45_34, e45_37, e45_37n, e45_38, e45_41, e45_41n, e45_42, e45_45, e45_48, e45_51, e45_51n, e45_52, e45_55, e45_56, e45_59, e45_59n, e45_60, e45_63, e45_63n, e45_64, e45_67, e45_67n, e45_68, e45_71, e45_74, e45_77, e45_77n, e45_78, e45_81, e45_81n, e45_82, e45_85, e45_85n, e45_86, e45_89, e45_92, am_bd_some, Option.toList_some, Option.toList_none, List.cons_append, List.nil_append, am_w8_0, am_w8_1, am_w8_2, am_w8_3, am_w8_4, eq_self, or_true, true_or, am_kd_sI, am_kd_sL, am_kd_sR, am_tc_sI, am_tc_sL, am_tc_sR, am_len_sI, am_len_sL, am_len_sR, am_rfs, if_true, if_false, am_rdL_sI, am_rR_sL, am_rt_cq, am_kd_cq, am_tc_cq, am_len_cq, am_rd_sL, am_rd_sR, am_rdL_sR, k1', k2, am_ob_some, y2, y21, not_true, not_false_eq_true, okK_159 ok, okR_159_2 ok, okR_159_6 ok, okK_165 ok, D2 e]
  · have k1' : kOv (1048578 + i) 11 = some (.int 3) := by rw [k1, e]; rfl
    simp only [e45_0, e45_0n, e45_1, e45_4, e45_7, e45_7n, e45_8, e45_11, e45_11n, e45_12, e45_15, e45_15n, e45_16, e45_19, e45_22, e45_25, e45_25n, e45_26, e45_29, e45_30, e45_33, e45_33n, e45_34, e45_37, e45_37n, e45_38, e45_41, e45_41n, e45_42, e45_45, e45_48, e45_51, e45_51n, e45_52, e45_55, e45_56, e45_59, e45_59n, e45_60, e45_63, e45_63n, e45_64, e45_67, e45_67n, e45_68, e45_71, e45_74, e45_77, e45_77n, e45_78, e45_81, e45_81n, e45_82, e45_85, e45_85n, e45_86, e45_89, e45_92, am_bd_some, Option.toList_some, Option.toList_none, List.cons_append, List.nil_append, am_w8_0, am_w8_1, am_w8_2, am_w8_3, am_w8_4, eq_self, or_true, true_or, am_kd_sI, am_kd_sL, am_kd_sR, am_tc_sI, am_tc_sL, am_tc_sR, am_len_sI, am_len_sL, am_len_sR, am_rfs, if_true, if_false, am_rdL_sI, am_rR_sL, am_rt_cq, am_kd_cq, am_tc_cq, am_len_cq, am_rd_sL, am_rd_sR, am_rdL_sR, k1', k2, am_ob_some, y3, y31, y32, not_true, not_false_eq_true, okK_159 ok, okR_159_3 ok, okR_159_6 ok, okK_171 ok, D3 e]
theorem f_c : c_dr f_dr f_full f_upd 0 := by
  refine ⟨fun h h' d H s => ?_, fun h d i hi is H => ?_, fun t L g h a q d i v hi is H S hv hf => ?_⟩
  · obtain ⟨⟨e0, e1, e2, e3, e4, e5, e6, e7, e8⟩, n6, bt⟩ := H
    have s0 := fun k => s 160 k (by decide) (by decide)
    have s1 := fun k => s 161 k (by decide) (by decide)
    have s2 := fun k => s 162 k (by decide) (by decide)
    refine ⟨⟨(s0 0).1.trans e0, (s0 1).1.trans e1, (s0 2).1.trans e2, (s0 3).1.trans e3, (s0 4).1.trans e4, (s0 5).1.trans e5, (s0 6).2.trans e6, fun b hb => (s1 b).1.trans (e7 b hb), fun b hb => (s2 b).1.trans (e8 b hb)⟩, n6, ?_⟩
    rw [(s0 9).2]
    exact bt
  · obtain ⟨⟨e0, e1, e2, e3, e4, e5, e6, e7, e8⟩, n6, bt⟩ := H
    have q : h.1 160 5 < 6 ↔ F_n d.1 < 6 := by rw [e5]; exact nI_ltI (b := 6) (by omega) (by decide)
    unfold c_fl f_full
    rw [if_pos is]
    exact decide_eq_decide.mpr ⟨fun w => ⟨w.1, fun u => w.2 (q.mpr u)⟩, fun w => ⟨w.1, fun u => w.2 (q.mp u)⟩⟩
  · obtain ⟨h2, d2, s2, H2⟩ := den_fkeep S.1.1 H i hi is v hv hf
    exact ⟨h2, c_kp h S.1.1 i hi h2 ⟨fun _ => d2, fun w => absurd w (by omega), fun w => absurd w (by omega), fun w => absurd w (by omega)⟩, s2 t L g a q S, H2⟩
theorem d_c : c_dr d_dr d_full d_upd 1 := by
  refine ⟨fun h h' d H s => ?_, fun h d i hi is H => ?_, fun t L g h a q d i v hi is H S hv hf => ?_⟩
  · obtain ⟨⟨e0, e1⟩, n⟩ := H
    exact ⟨⟨(s 163 0 (by decide) (by decide)).1.trans e0, fun k hk => (s 164 k (by decide) (by decide)).1.trans (e1 k hk)⟩, n⟩
  · obtain ⟨⟨e0, e1⟩, n⟩ := H
    have q : h.1 163 0 < 40 ↔ d.1 < 40 := by rw [e0]; exact nI_ltI (b := 40) (by omega) (by decide)
    unfold c_fl d_full
    rw [if_neg (by omega), if_pos is]
    exact decide_eq_decide.mpr ⟨fun w u => w (q.mpr u), fun w u => w (q.mp u)⟩
  · obtain ⟨h2, d2, s2, H2⟩ := den_dkeep S.1.1 H i hi is v hv hf
    exact ⟨h2, c_kp h S.1.1 i hi h2 ⟨fun w => absurd w (by omega), fun _ => d2, fun w => absurd w (by omega), fun w => absurd w (by omega)⟩, s2 t L g a q S, H2⟩
theorem b_c : c_dr b_dr b_full b_upd 2 := by
  refine ⟨fun h h' d H s => ?_, fun h d i hi is H => ?_, fun t L g h a q d i v hi is H S hv hf => ?_⟩
  · obtain ⟨⟨e0, e1, e2, e3, e4, e5⟩, n⟩ := H
    exact ⟨⟨(s 165 0 (by decide) (by decide)).1.trans e0, (s 165 1 (by decide) (by decide)).1.trans e1, (s 165 2 (by decide) (by decide)).1.trans e2, fun k hk => ⟨(s 166 k (by decide) (by decide)).1.trans (e3 k hk).1, (s 167 k (by decide) (by decide)).1.trans (e3 k hk).2⟩, fun k hk => ⟨(s 168 k (by decide) (by decide)).1.trans (e4 k hk).1, (s 169 k (by decide) (by decide)).1.trans (e4 k hk).2⟩, fun k hk => (s 170 k (by decide) (by decide)).1.trans (e5 k hk)⟩, n⟩
  · obtain ⟨⟨e0, e1, e2, e3, e4, e5⟩, n1, n2, n3⟩ := H
    have q0 : h.1 165 0 < 5 ↔ B_d d < 5 := by rw [e0]; exact nI_ltI (b := 5) (by omega) (by decide)
    have q1 : h.1 165 1 < 8 ↔ B_b d < 8 := by rw [e1]; exact nI_ltI (b := 8) (by omega) (by decide)
    have q2 : h.1 165 2 < 10 ↔ B_f d < 10 := by rw [e2]; exact nI_ltI (b := 10) (by omega) (by decide)
    unfold c_fl b_full c_bf
    rw [if_neg (by omega), if_neg (by omega), if_pos is]
    by_cases c0 : ln_c i = 0
    · rw [if_pos c0, if_pos c0]
      exact decide_eq_decide.mpr ⟨fun w u => w (q0.mpr u), fun w u => w (q0.mp u)⟩
    · rw [if_neg c0, if_neg c0]
      by_cases c1 : ln_c i = 1
      · rw [if_pos c1, if_pos c1]
        exact decide_eq_decide.mpr ⟨fun w u => w (q1.mpr u), fun w u => w (q1.mp u)⟩
      · rw [if_neg c1, if_neg c1]
        exact decide_eq_decide.mpr ⟨fun w u => w (q2.mpr u), fun w u => w (q2.mp u)⟩
  · obtain ⟨h2, d2, s2, H2⟩ := den_bkeep S.1.1 H i hi is v hv hf
    exact ⟨h2, c_kp h S.1.1 i hi h2 ⟨fun w => absurd w (by omega), fun w => absurd w (by omega), fun _ => d2, fun w => absurd w (by omega)⟩, s2 t L g a q S, H2⟩
theorem l_c : c_dr l_dr l_full l_upd 3 := by
  refine ⟨fun h h' d H s => ?_, fun h d i hi is H => ?_, fun t L g h a q d i v hi is H S hv hf => ?_⟩
  · obtain ⟨⟨e0, e1⟩, n⟩ := H
    exact ⟨⟨(s 171 0 (by decide) (by decide)).1.trans e0, fun k hk => ⟨(s 172 k (by decide) (by decide)).1.trans (e1 k hk).1, (s 173 k (by decide) (by decide)).1.trans (e1 k hk).2.1, (s 174 k (by decide) (by decide)).1.trans (e1 k hk).2.2.1, (s 175 k (by decide) (by decide)).1.trans (e1 k hk).2.2.2⟩⟩, n⟩
  · obtain ⟨⟨e0, e1⟩, n⟩ := H
    have q : h.1 171 0 < 8 ↔ L_n d < 8 := by rw [e0]; exact nI_ltI (b := 8) (by omega) (by decide)
    unfold c_fl l_full
    rw [if_neg (by omega), if_neg (by omega), if_neg (by omega)]
    exact decide_eq_decide.mpr ⟨fun w u => w (q.mpr u), fun w u => w (q.mp u)⟩
  · obtain ⟨h2, d2, s2, H2⟩ := den_lkeep S.1.1 H i hi is v hv hf
    exact ⟨h2, c_kp h S.1.1 i hi h2 ⟨fun w => absurd w (by omega), fun w => absurd w (by omega), fun w => absurd w (by omega), fun _ => d2⟩, s2 t L g a q S, H2⟩
