/-! part 9C: driven, heard: the pairs -/
theorem den_malone (f : q_Fl) (fk : F_ok f) (b : Nat) (hb : b < F_n f) (h : am_H) (mg : q_mg h f (G_0 f)) : ∃ h' : am_H, q_wk h h' ∧ q_mg h' (F_al f b) (G_0 (F_al f b)) ∧ am_den 230 [.ref 211, .int (nI b)] h = some (none, h') := by
  have n6 := fk.wf.2.2.2.1
  obtain ⟨⟨ok, a1, a2, a3, a4, a5, a6, a7⟩, ⟨e1, e2, e3, e4, e5⟩, ea, ew⟩ := mg
  let h1 : am_H := am_sI h 224 0 (nI (F_kind f b))
  let h2 : am_H := am_sI h1 225 0 (nI (q_nm f (F_cell f b)))
  let h3 : am_H := am_sI h2 211 30 1
  have ok1 : am_okH h1 := ok
  have ok2 : am_okH h2 := ok
  have xb : am_ix (nI b) 6 = true := am_ix_nI (by omega) (by decide)
  have zb : (nI b).toNatClampNeg = b := nI_clamp (by omega)
  have x0 : am_ix 0 6 = true := by decide
  have z0 : (0 : Int32).toNatClampNeg = 0 := rfl
  have v1 := a7 b hb
  have v2 : h1.1 225 b = nI (q_nm f (F_cell f b)) := by
    show (am_sI h 224 0 (nI (F_kind f b))).1 225 b = _
    rw [am_rd_sI, if_neg (by omega)]
    exact ea b hb
  have r3 : ∀ a k, h3.1 a k = if a = 211 ∧ k = 30 then 1 else if a = 225 ∧ k = 0 then nI (q_nm f (F_cell f b)) else if a = 224 ∧ k = 0 then nI (F_kind f b) else h.1 a k := fun _ _ => rfl
  refine ⟨h3, ⟨ok, rfl, fun a k w => ⟨?_, rfl⟩⟩, ⟨⟨ok, a1, a2, a3, a4, rfl, a6, fun k hk => ?_⟩, ⟨e1, e2, e3, e4, e5⟩, fun k hk => ?_, fun k hk => ?_⟩, ?_⟩
  · rw [r3, if_neg (by unfold q_told at w; omega), if_neg (by unfold q_told at w; omega), if_neg (by unfold q_told at w; omega)]
  · obtain rfl : k = 0 := by have : k < 1 := hk; omega
    rfl
  · obtain rfl : k = 0 := by have : k < 1 := hk; omega
    rfl
  · obtain rfl : k = 0 := by have : k < 1 := hk; omega
    exact ew 0 (by omega)
  · have s1 : am_ev 230 0 [some (.ref 211), some (.int (nI b))] [] h = am_ev 230 12 [some (.ref 211), some (.int (nI b))] [] h1 := by
      simp only [e230_0, e230_1, e230_4, e230_5, e230_6, e230_9, e230_10, e230_11, e230_13, e230_16, e230_17, e230_18, e230_21, e230_22, e230_23, e230_24, e230_25, e230_26, e230_29, am_bd_some, Option.toList_some, Option.toList_none, List.cons_append, List.nil_append, am_w8_0, am_w8_1, am_w8_2, am_w8_3, am_w8_4, eq_self, or_true, true_or, am_kd_sI, am_kd_sL, am_kd_sR, am_tc_sI, am_tc_sL, am_tc_sR, am_len_sI, am_len_sL, am_len_sR, am_rfs, if_true, if_false, am_rdL_sI, am_rR_sL, am_rt_cq, am_kd_cq, am_tc_cq, am_len_cq, am_rd_sL, am_rd_sR, am_rdL_sR, okK_211 ok, okR_211_35 ok, okT_224 ok, okL_224 ok, xb, zb, x0, z0, v1]
      rfl
    have s2 : am_ev 230 12 [some (.ref 211), some (.int (nI b))] [] h1 = am_ev 230 24 [some (.ref 211), some (.int (nI b))] [] h2 := by
      simp only [e230_0, e230_1, e230_4, e230_5, e230_6, e230_9, e230_10, e230_11, e230_12, e230_13, e230_16, e230_17, e230_18, e230_21, e230_22, e230_23, e230_25, e230_26, e230_29, am_bd_some, Option.toList_some, Option.toList_none, List.cons_append, List.nil_append, am_w8_0, am_w8_1, am_w8_2, am_w8_3, am_w8_4, eq_self, or_true, true_or, am_kd_sI, am_kd_sL, am_kd_sR, am_tc_sI, am_tc_sL, am_tc_sR, am_len_sI, am_len_sL, am_len_sR, am_rfs, if_true, if_false, am_rdL_sI, am_rR_sL, am_rt_cq, am_kd_cq, am_tc_cq, am_len_cq, am_rd_sL, am_rd_sR, am_rdL_sR, okK_211 ok1, okR_211_36 ok1, okT_225 ok1, okL_225 ok1, xb, zb, x0, z0, v2]
      rfl
    show am_ev 230 0 [some (.ref 211), some (.int (nI b))] [] h = _
    rw [s1, s2]
    simp only [e230_0, e230_1, e230_4, e230_5, e230_6, e230_9, e230_10, e230_11, e230_12, e230_13, e230_16, e230_17, e230_18, e230_21, e230_22, e230_23, e230_24, e230_25, e230_26, e230_29, am_bd_some, Option.toList_some, Option.toList_none, List.cons_append, List.nil_append, am_w8_0, am_w8_1, am_w8_2, am_w8_3, am_w8_4, eq_self, or_true, true_or, am_kd_sI, am_kd_sL, am_kd_sR, am_tc_sI, am_tc_sL, am_tc_sR, am_len_sI, am_len_sL, am_len_sR, am_rfs, if_true, if_false, am_rdL_sI, am_rR_sL, am_rt_cq, am_kd_cq, am_tc_cq, am_len_cq, am_rd_sL, am_rd_sR, am_rdL_sR, okK_211 ok2]
    rfl
theorem q_fg_z (h : am_H) (ok : am_okH h) (a1 : Int32) (z3 z4 : Option Value) : ∀ r c, c + r = 4096 → am_ev 229 7 [some (.ref 211), some (.int a1), some (.int (nI c)), z3, z4] [] (q_fn 227 c (fun _ => -1) h) = am_ev 229 27 [some (.ref 211), some (.int a1), some (.int (nI 4096)), z3, z4] [] (q_fn 227 4096 (fun _ => -1) h) := by
  intro r
  induction r with
  | zero =>
    intro c hc
    obtain rfl : c = 4096 := by omega
    have h1 : (4096 : Int32) ≤ nI 4096 := by decide
    rw [e229_7]
    simp only [e229_0, e229_1, e229_2, e229_5, e229_6, e229_8, e229_11, e229_14, e229_15, e229_18, e229_19, e229_20, e229_21, e229_24, e229_28, e229_29, e229_32, e229_33, e229_35, e229_36, e229_39, e229_40, e229_41, e229_44, e229_45, e229_46, e229_47, e229_48, e229_49, e229_52, e229_53, e229_54, e229_55, e229_56, e229_59, e229_62, e229_63, e229_66, e229_67, e229_68, e229_69, e229_70, e229_72, e229_74, e229_75, e229_78, e229_79, e229_81, e229_82, e229_83, e229_86, e229_89, e229_90, e229_91, e229_93, e229_94, e229_97, e229_98, e229_101, e229_102, e229_103, e229_105, e229_106, e229_107, e229_108, e229_109, e229_112, e229_113, e229_115, e229_118, e229_121, e229_122, e229_123, e229_126, e229_127, e229_129, e229_130, e229_133, e229_134, e229_135, e229_138, e229_139, e229_140, e229_141, e229_142, e229_145, e229_146, e229_147, e229_148, e229_149, e229_150, e229_153, e229_154, e229_155, e229_158, e229_160, e229_163, e229_164, e229_167, e229_168, e229_169, e229_172, e229_175, e229_178, e229_181, e229_184, am_bd_some, Option.toList_some, Option.toList_none, List.cons_append, List.nil_append, am_w8_0, am_w8_1, am_w8_2, am_w8_3, am_w8_4, eq_self, or_true, true_or, am_kd_sI, am_kd_sL, am_kd_sR, am_tc_sI, am_tc_sL, am_tc_sR, am_len_sI, am_len_sL, am_len_sR, am_rfs, if_true, if_false, am_rdL_sI, am_rR_sL, am_rt_cq, am_kd_cq, am_tc_cq, am_len_cq, am_rd_sL, am_rd_sR, am_rdL_sR, h1]
  | succ r ih =>
    intro c hc
    have h1 : ¬ (4096 : Int32) ≤ nI c := fun w => nI_ge (b := 4096) (a := c) (by omega) (by decide) w
    have o1 : am_okH (q_fn 227 c (fun _ => -1) h) := ok
    have x : am_ix (nI c) 4096 = true := am_ix_nI (by omega) (by decide)
    have z : (nI c).toNatClampNeg = c := nI_clamp (by omega)
    have st : am_sI (q_fn 227 c (fun _ => -1) h) 227 c (-1) = q_fn 227 (c + 1) (fun _ => -1) h := q_fn_s 227 c (fun _ => -1) h
    rw [e229_7]
    simp only [e229_0, e229_1, e229_2, e229_5, e229_6, e229_8, e229_11, e229_14, e229_15, e229_18, e229_19, e229_20, e229_21, e229_24, e229_28, e229_29, e229_32, e229_33, e229_35, e229_36, e229_39, e229_40, e229_41, e229_44, e229_45, e229_46, e229_47, e229_48, e229_49, e229_52, e229_53, e229_54, e229_55, e229_56, e229_59, e229_62, e229_63, e229_66, e229_67, e229_68, e229_69, e229_70, e229_72, e229_74, e229_75, e229_78, e229_79, e229_81, e229_82, e229_83, e229_86, e229_89, e229_90, e229_91, e229_93, e229_94, e229_97, e229_98, e229_101, e229_102, e229_103, e229_105, e229_106, e229_107, e229_108, e229_109, e229_112, e229_113, e229_115, e229_118, e229_121, e229_122, e229_123, e229_126, e229_127, e229_129, e229_130, e229_133, e229_134, e229_135, e229_138, e229_139, e229_140, e229_141, e229_142, e229_145, e229_146, e229_147, e229_148, e229_149, e229_150, e229_153, e229_154, e229_155, e229_158, e229_160, e229_163, e229_164, e229_167, e229_168, e229_169, e229_172, e229_175, e229_178, e229_181, e229_184, am_bd_some, Option.toList_some, Option.toList_none, List.cons_append, List.nil_append, am_w8_0, am_w8_1, am_w8_2, am_w8_3, am_w8_4, eq_self, or_true, true_or, am_kd_sI, am_kd_sL, am_kd_sR, am_tc_sI, am_tc_sL, am_tc_sR, am_len_sI, am_len_sL, am_len_sR, am_rfs, if_true, if_false, am_rdL_sI, am_rR_sL, am_rt_cq, am_kd_cq, am_tc_cq, am_len_cq, am_rd_sL, am_rd_sR, am_rdL_sR, h1, okK_211 o1, okR_211_40 o1, okT_227 o1, okL_227 o1, x, z, st, nI_1]
    rw [ih (c + 1) (by omega)]
theorem den_findGoings (f : q_Fl) (fk : F_ok f) (b : Nat) (hb : b < F_n f) (h : am_H) (mg : q_mg h f (G_0 f)) : ∃ (h' : am_H) (T : Nat) (X Y K : Nat → Nat) (g : q_G), q_wk h h' ∧ q_mg h' (F_al f b) g ∧ q_hM h' (F_al f b) T X Y K ∧ q_SM (F_al f b) (F_dog f) (F_cell f b) T X Y K T ∧ am_den 229 [.ref 211, .int (nI b)] h = some (none, h') := by
  have ok := mg.1.1
  have fa := F_al_ok fk hb
  have wf := fa.wf
  have hx0 : F_in (F_al f b) (F_dog f) := fa.2.2.2.1
  obtain ⟨-, hy0, -, hp0, -⟩ := fa.2.2.2.2.2.2.2.2.2.2.1 0 (by show 0 < 1; decide)
  have hy0' : F_in (F_al f b) (F_cell f b) := hy0
  have hp0' : F_cell f b ≠ F_pen (F_al f b) := hp0
  obtain ⟨h1, w1, mg1, s1⟩ := den_malone f fk b hb h mg
  have ok1 := mg1.1.1
  have lp := q_fg_z h1 ok1 (nI b) none none 4096 0 (by omega)
  rw [q_fn_0, nI_0] at lp
  let h2 : am_H := am_sI (q_fn 227 4096 (fun _ => -1) h1) 211 43 0
  have ok2 : am_okH h2 := ok1
  have sl := q_sc_lt wf hx0 hy0'
  have xs : am_ix (nI (q_sc (F_al f b) (F_dog f) (F_cell f b))) 4096 = true := am_ix_nI sl (by decide)
  have zs : (nI (q_sc (F_al f b) (F_dog f) (F_cell f b))).toNatClampNeg = q_sc (F_al f b) (F_dog f) (F_cell f b) := nI_clamp (by omega)
  have edog : h2.1 211 28 = nI (q_nm (F_al f b) (F_dog f)) := mg1.2.1.1
  have eat : h2.1 225 0 = nI (q_nm (F_al f b) (F_cell f b)) := mg1.2.2.1 0 (by show 0 < 1; decide)
  have code : (64 : Int32) * nI (q_nm (F_al f b) (F_dog f)) + nI (q_nm (F_al f b) (F_cell f b)) = nI (q_sc (F_al f b) (F_dog f) (F_cell f b)) := by
    rw [show (64 : Int32) * nI (q_nm (F_al f b) (F_dog f)) = nI (64 * q_nm (F_al f b) (F_dog f)) from pk_mul 64 _, nI_add]
    rfl
  have v2 : h2.1 227 (q_sc (F_al f b) (F_dog f) (F_cell f b)) = -1 := by
    show (am_sI (q_fn 227 4096 (fun _ => -1) h1) 211 43 0).1 227 _ = _
    rw [am_rd_sI, if_neg (by omega), q_fn_rd, if_pos ⟨rfl, sl⟩]
  let h3 : am_H := am_sI (am_sI (am_sI (am_sI h2 227 (q_sc (F_al f b) (F_dog f) (F_cell f b)) 0) 228 (q_sc (F_al f b) (F_dog f) (F_cell f b)) (-1)) 229 0 (nI (q_sc (F_al f b) (F_dog f) (F_cell f b)))) 211 43 1
  have ok3 : am_okH h3 := ok1
  have r3 : ∀ a j, h3.1 a j = if a = 211 ∧ j = 43 then 1 else if a = 229 ∧ j = 0 then nI (q_sc (F_al f b) (F_dog f) (F_cell f b)) else if a = 228 ∧ j = q_sc (F_al f b) (F_dog f) (F_cell f b) then -1 else if a = 227 ∧ j = q_sc (F_al f b) (F_dog f) (F_cell f b) then 0 else h2.1 a j := fun _ _ => rfl
  have dm : am_den 231 [.ref 211, .int (nI (q_sc (F_al f b) (F_dog f) (F_cell f b))), .int 0, .int (-1)] h2 = some (none, h3) := by
    have x0 : am_ix 0 4096 = true := by decide
    have z0 : (0 : Int32).toNatClampNeg = 0 := rfl
    let g1 : am_H := am_sI (am_sI h2 227 (q_sc (F_al f b) (F_dog f) (F_cell f b)) 0) 228 (q_sc (F_al f b) (F_dog f) (F_cell f b)) (-1)
    let g2 : am_H := am_sI g1 229 0 (nI (q_sc (F_al f b) (F_dog f) (F_cell f b)))
    have og1 : am_okH g1 := ok1
    have og2 : am_okH g2 := ok1
    have q0 : h2.1 211 43 = 0 := rfl
    have q1 : g1.1 211 43 = 0 := by
      show (am_sI (am_sI h2 227 _ 0) 228 _ (-1)).1 211 43 = _
      rw [am_rd_sI, if_neg (by omega), am_rd_sI, if_neg (by omega)]
      exact q0
    have q2 : g2.1 211 43 = 0 := by
      show (am_sI g1 229 0 _).1 211 43 = _
      rw [am_rd_sI, if_neg (by omega)]
      exact q1
    have t1 : am_ev 231 0 [some (.ref 211), some (.int (nI (q_sc (F_al f b) (F_dog f) (F_cell f b)))), some (.int 0), some (.int (-1))] [] h2 = am_ev 231 24 [some (.ref 211), some (.int (nI (q_sc (F_al f b) (F_dog f) (F_cell f b)))), some (.int 0), some (.int (-1))] [] g1 := by
      simp only [e231_0, e231_1, e231_4, e231_5, e231_6, e231_7, e231_10, e231_11, e231_14, e231_15, e231_16, e231_17, e231_18, e231_21, e231_22, e231_23, e231_25, e231_28, e231_29, e231_32, e231_33, e231_34, e231_35, e231_35i, e231_36, e231_39, e231_40, e231_41, e231_44, am_bd_some, Option.toList_some, Option.toList_none, List.cons_append, List.nil_append, am_w8_0, am_w8_1, am_w8_2, am_w8_3, am_w8_4, eq_self, or_true, true_or, am_kd_sI, am_kd_sL, am_kd_sR, am_tc_sI, am_tc_sL, am_tc_sR, am_len_sI, am_len_sL, am_len_sR, am_rfs, if_true, if_false, am_rdL_sI, am_rR_sL, am_rt_cq, am_kd_cq, am_tc_cq, am_len_cq, am_rd_sL, am_rd_sR, am_rdL_sR, okK_211 ok2, okR_211_40 ok2, okR_211_41 ok2, okT_227 ok2, okL_227 ok2, okT_228 ok2, okL_228 ok2, xs, zs, v2, not_true]
      rfl
    have t2 : am_ev 231 24 [some (.ref 211), some (.int (nI (q_sc (F_al f b) (F_dog f) (F_cell f b)))), some (.int 0), some (.int (-1))] [] g1 = am_ev 231 34 [some (.ref 211), some (.int (nI (q_sc (F_al f b) (F_dog f) (F_cell f b)))), some (.int 0), some (.int (-1))] [] g2 := by
      simp only [e231_0, e231_1, e231_4, e231_5, e231_6, e231_7, e231_10, e231_11, e231_14, e231_15, e231_16, e231_17, e231_18, e231_21, e231_22, e231_23, e231_24, e231_25, e231_28, e231_29, e231_32, e231_33, e231_35, e231_35i, e231_36, e231_39, e231_40, e231_41, e231_44, am_bd_some, Option.toList_some, Option.toList_none, List.cons_append, List.nil_append, am_w8_0, am_w8_1, am_w8_2, am_w8_3, am_w8_4, eq_self, or_true, true_or, am_kd_sI, am_kd_sL, am_kd_sR, am_tc_sI, am_tc_sL, am_tc_sR, am_len_sI, am_len_sL, am_len_sR, am_rfs, if_true, if_false, am_rdL_sI, am_rR_sL, am_rt_cq, am_kd_cq, am_tc_cq, am_len_cq, am_rd_sL, am_rd_sR, am_rdL_sR, okK_211 og1, okR_211_42 og1, okT_229 og1, okL_229 og1, q1, x0, z0]
      rfl
    have z1 : (0 : Int32) + 1 = 1 := by decide
    show am_ev 231 0 [some (.ref 211), some (.int (nI (q_sc (F_al f b) (F_dog f) (F_cell f b)))), some (.int 0), some (.int (-1))] [] h2 = _
    rw [t1, t2]
    simp only [e231_0, e231_1, e231_4, e231_5, e231_6, e231_7, e231_10, e231_11, e231_14, e231_15, e231_16, e231_17, e231_18, e231_21, e231_22, e231_23, e231_24, e231_25, e231_28, e231_29, e231_32, e231_33, e231_34, e231_35, e231_35i, e231_36, e231_39, e231_40, e231_41, e231_44, am_bd_some, Option.toList_some, Option.toList_none, List.cons_append, List.nil_append, am_w8_0, am_w8_1, am_w8_2, am_w8_3, am_w8_4, eq_self, or_true, true_or, am_kd_sI, am_kd_sL, am_kd_sR, am_tc_sI, am_tc_sL, am_tc_sR, am_len_sI, am_len_sL, am_len_sR, am_rfs, if_true, if_false, am_rdL_sI, am_rR_sL, am_rt_cq, am_kd_cq, am_tc_cq, am_len_cq, am_rd_sL, am_rd_sR, am_rdL_sR, okK_211 og2, q2, z1]
    rfl
  have mt3 : q_mtw h1 h3 := ⟨rfl, fun a j p1 p2 p3 p4 => by
    rw [r3, if_neg (fun w => p4 w.1 w.2), if_neg (fun w => p3 w.1), if_neg (fun w => p2 w.1), if_neg (fun w => p1 w.1)]
    show (am_sI (q_fn 227 4096 (fun _ => -1) h1) 211 43 0).1 a j = _
    rw [am_rd_sI, if_neg (fun w => p4 w.1 w.2), q_fn_rd, if_neg (fun w => p1 w.1)]⟩
  have hM3 : q_hM h3 (F_al f b) 1 (fun _ => F_dog f) (fun _ => F_cell f b) (fun _ => 3) := by
    refine ⟨?_, fun i hi => ?_, fun s hs hn => ?_⟩
    · rw [r3, if_pos ⟨rfl, rfl⟩]; rfl
    · obtain rfl : i = 0 := by omega
      refine ⟨?_, ?_, ?_⟩
      · rw [r3, if_neg (by omega), if_pos ⟨rfl, rfl⟩]
      · rw [r3, if_neg (by omega), if_neg (by omega), if_neg (by omega), if_pos ⟨rfl, rfl⟩]; rfl
      · rw [r3, if_neg (by omega), if_neg (by omega), if_pos ⟨rfl, rfl⟩]; rfl
    · have n0 := hn 0 (by decide)
      rw [r3, if_neg (by omega), if_neg (by omega), if_neg (by omega), if_neg (fun w => n0 w.2.symm)]
      show (am_sI (q_fn 227 4096 (fun _ => -1) h1) 211 43 0).1 227 s = _
      rw [am_rd_sI, if_neg (by omega), q_fn_rd, if_pos ⟨rfl, hs⟩]
  have sm0 : q_SM (F_al f b) (F_dog f) (F_cell f b) 1 (fun _ => F_dog f) (fun _ => F_cell f b) (fun _ => 3) 0 := by
    refine ⟨⟨⟨Nat.le_refl _, by decide⟩, ⟨rfl, rfl, rfl⟩, fun i i1 i2 => by omega, fun i _ => ⟨hx0, hy0'⟩, fun i j h1 h2 => by omega, fun i j _ _ => Nat.le_refl _⟩, fun _ j _ => by show 3 ≤ 3 + 4; decide, fun i hi => absurd hi (Nat.not_lt_zero _), fun _ => rfl⟩
  obtain ⟨h4, T, X, Y, K, g, w4, mg4, hM4, sm4, s4⟩ := q_fg_o (F_al f b) fa rfl (F_dog f) (F_cell f b) hx0 hy0' hp0' (nI b) 4096 0 1 _ _ _ h3 (G_0 (F_al f b)) none none (by omega) (mt3.mg mg1) rfl rfl hM3 sm0
  rw [nI_0] at s4
  refine ⟨h4, T, X, Y, K, g, (w1.tr (mt3.wk ok1)).tr w4, mg4, hM4, sm4, ?_⟩
  have x06 : am_ix 0 6 = true := by decide
  have z06 : (0 : Int32).toNatClampNeg = 0 := rfl
  have t0 : am_ev 229 0 [some (.ref 211), some (.int (nI b)), none, none, none] [] h = am_ev 229 7 [some (.ref 211), some (.int (nI b)), some (.int 0), none, none] [] h1 := by
    simp only [e229_0, e229_1, e229_2, e229_5, e229_6, e229_8, e229_11, e229_14, e229_15, e229_18, e229_19, e229_20, e229_21, e229_24, e229_27, e229_28, e229_29, e229_32, e229_33, e229_35, e229_36, e229_39, e229_40, e229_41, e229_44, e229_45, e229_46, e229_47, e229_48, e229_49, e229_52, e229_53, e229_54, e229_55, e229_56, e229_59, e229_62, e229_63, e229_66, e229_67, e229_68, e229_69, e229_70, e229_72, e229_74, e229_75, e229_78, e229_79, e229_81, e229_82, e229_83, e229_86, e229_89, e229_90, e229_91, e229_93, e229_94, e229_97, e229_98, e229_101, e229_102, e229_103, e229_105, e229_106, e229_107, e229_108, e229_109, e229_112, e229_113, e229_115, e229_118, e229_121, e229_122, e229_123, e229_126, e229_127, e229_129, e229_130, e229_133, e229_134, e229_135, e229_138, e229_139, e229_140, e229_141, e229_142, e229_145, e229_146, e229_147, e229_148, e229_149, e229_150, e229_153, e229_154, e229_155, e229_158, e229_160, e229_163, e229_164, e229_167, e229_168, e229_169, e229_172, e229_175, e229_178, e229_181, e229_184, am_bd_some, Option.toList_some, Option.toList_none, List.cons_append, List.nil_append, am_w8_0, am_w8_1, am_w8_2, am_w8_3, am_w8_4, eq_self, or_true, true_or, am_kd_sI, am_kd_sL, am_kd_sR, am_tc_sI, am_tc_sL, am_tc_sR, am_len_sI, am_len_sL, am_len_sR, am_rfs, if_true, if_false, am_rdL_sI, am_rR_sL, am_rt_cq, am_kd_cq, am_tc_cq, am_len_cq, am_rd_sL, am_rd_sR, am_rdL_sR, okK_211 ok, s1]
  have okf : am_okH (q_fn 227 4096 (fun _ => -1) h1) := ok1
  have t1 : am_ev 229 27 [some (.ref 211), some (.int (nI b)), some (.int (nI 4096)), none, none] [] (q_fn 227 4096 (fun _ => -1) h1) = am_ev 229 32 [some (.ref 211), some (.int (nI b)), some (.int (nI 4096)), none, none] [] h2 := by
    simp only [e229_0, e229_1, e229_2, e229_5, e229_6, e229_7, e229_8, e229_11, e229_14, e229_15, e229_18, e229_19, e229_20, e229_21, e229_24, e229_27, e229_28, e229_29, e229_33, e229_35, e229_36, e229_39, e229_40, e229_41, e229_44, e229_45, e229_46, e229_47, e229_48, e229_49, e229_52, e229_53, e229_54, e229_55, e229_56, e229_59, e229_62, e229_63, e229_66, e229_67, e229_68, e229_69, e229_70, e229_72, e229_74, e229_75, e229_78, e229_79, e229_81, e229_82, e229_83, e229_86, e229_89, e229_90, e229_91, e229_93, e229_94, e229_97, e229_98, e229_101, e229_102, e229_103, e229_105, e229_106, e229_107, e229_108, e229_109, e229_112, e229_113, e229_115, e229_118, e229_121, e229_122, e229_123, e229_126, e229_127, e229_129, e229_130, e229_133, e229_134, e229_135, e229_138, e229_139, e229_140, e229_141, e229_142, e229_145, e229_146, e229_147, e229_148, e229_149, e229_150, e229_153, e229_154, e229_155, e229_158, e229_160, e229_163, e229_164, e229_167, e229_168, e229_169, e229_172, e229_175, e229_178, e229_181, e229_184, am_bd_some, Option.toList_some, Option.toList_none, List.cons_append, List.nil_append, am_w8_0, am_w8_1, am_w8_2, am_w8_3, am_w8_4, eq_self, or_true, true_or, am_kd_sI, am_kd_sL, am_kd_sR, am_tc_sI, am_tc_sL, am_tc_sR, am_len_sI, am_len_sL, am_len_sR, am_rfs, if_true, if_false, am_rdL_sI, am_rR_sL, am_rt_cq, am_kd_cq, am_tc_cq, am_len_cq, am_rd_sL, am_rd_sR, am_rdL_sR, okK_211 okf]
    rfl
  have t2 : am_ev 229 32 [some (.ref 211), some (.int (nI b)), some (.int (nI 4096)), none, none] [] h2 = am_ev 229 54 [some (.ref 211), some (.int (nI b)), some (.int 0), none, none] [] h3 := by
    simp only [e229_0, e229_1, e229_2, e229_5, e229_6, e229_7, e229_8, e229_11, e229_14, e229_15, e229_18, e229_19, e229_20, e229_21, e229_24, e229_27, e229_28, e229_29, e229_32, e229_33, e229_35, e229_36, e229_39, e229_40, e229_41, e229_44, e229_45, e229_46, e229_47, e229_48, e229_49, e229_52, e229_53, e229_55, e229_56, e229_59, e229_62, e229_63, e229_66, e229_67, e229_68, e229_69, e229_70, e229_72, e229_74, e229_75, e229_78, e229_79, e229_81, e229_82, e229_83, e229_86, e229_89, e229_90, e229_91, e229_93, e229_94, e229_97, e229_98, e229_101, e229_102, e229_103, e229_105, e229_106, e229_107, e229_108, e229_109, e229_112, e229_113, e229_115, e229_118, e229_121, e229_122, e229_123, e229_126, e229_127, e229_129, e229_130, e229_133, e229_134, e229_135, e229_138, e229_139, e229_140, e229_141, e229_142, e229_145, e229_146, e229_147, e229_148, e229_149, e229_150, e229_153, e229_154, e229_155, e229_158, e229_160, e229_163, e229_164, e229_167, e229_168, e229_169, e229_172, e229_175, e229_178, e229_181, e229_184, am_bd_some, Option.toList_some, Option.toList_none, List.cons_append, List.nil_append, am_w8_0, am_w8_1, am_w8_2, am_w8_3, am_w8_4, eq_self, or_true, true_or, am_kd_sI, am_kd_sL, am_kd_sR, am_tc_sI, am_tc_sL, am_tc_sR, am_len_sI, am_len_sL, am_len_sR, am_rfs, if_true, if_false, am_rdL_sI, am_rR_sL, am_rt_cq, am_kd_cq, am_tc_cq, am_len_cq, am_rd_sL, am_rd_sR, am_rdL_sR, okK_211 ok2, okR_211_36 ok2, okT_225 ok2, okL_225 ok2, x06, z06, edog, eat, code, dm]
  show am_ev 229 0 [some (.ref 211), some (.int (nI b)), none, none, none] [] h = _
  rw [t0, lp, t1, t2]
  exact s4
/-! the best of them -/
def q_cm (f : q_Fl) (Y K : Nat → Nat) (i : Nat) (c : Option Nat) : Prop := (c = none → ∀ j, j < i → Y j ≠ F_pen f) ∧ ∀ k, c = some k → (∃ j, j < i ∧ Y j = F_pen f ∧ K j = k) ∧ ∀ j, j < i → Y j = F_pen f → k ≤ K j
def q_b0 (c : Option Nat) : Int32 := match c with
  | none => 1000000
  | some k => nI (k / 4)
theorem q_be_l (f : q_Fl) (wf : F_wf f) (x0 y0 : Nat) (hp0 : y0 ≠ F_pen f) (T : Nat) (X Y K : Nat → Nat) (h : am_H) (g : q_G) (mg : q_mg h f g) (hM : q_hM h f T X Y K) (mq : q_MQ f x0 y0 T X Y K) (fi : Int32) : ∀ (r i : Nat) (cur : Option Nat) (z5 : Option Value), i + r = T → q_cm f Y K i cur → ∃ cur' : Option Nat, q_cm f Y K T cur' ∧ am_ev 233 9 [some (.ref 211), some (.int fi), some (.int (q_b0 cur)), some (.int (q_c1 cur)), some (.int (nI i)), z5] [] h = some (some (.int (if fi = 0 then q_c0 cur' else q_c1 cur')), h) := by
  have ok := mg.1.1
  have a3 := mg.1.2.2.2.1
  have T1 := mq.1.2
  have n64 : ¬ (64 : Int32) = 0 := by decide
  have kb : ∀ i cur k, i ≤ T → q_cm f Y K i cur → cur = some k → k < 20000 := fun i cur k hi cm hk => by
    obtain ⟨⟨j, j1, j2, j3⟩, -⟩ := cm.2 k hk
    by_cases hz : j = 0
    · rw [hz, mq.2.1.2.1] at j2; exact absurd j2 hp0
    · have := (mq.2.2.1 j (by omega) (by omega)).1
      omega
  intro r
  induction r with
  | zero =>
    intro i cur z5 hi cm
    obtain rfl : i = T := by omega
    have h1 : nI i ≤ nI i := Int32.le_refl _
    refine ⟨cur, cm, ?_⟩
    rw [e233_9]
    cases hc : cur with
    | none =>
      have e0 : q_b0 none = 1000000 := rfl
      have e : (if fi = 0 then q_c0 none else q_c1 none) = -1 := by split <;> rfl
      rw [e]
      simp only [e233_0, e233_3, e233_4, e233_5, e233_6, e233_7, e233_11, e233_12, e233_15, e233_18, e233_19, e233_22, e233_24, e233_25, e233_27, e233_29, e233_31, e233_32, e233_33, e233_36, e233_39, e233_40, e233_43, e233_45, e233_46, e233_47, e233_50, e233_51, e233_54, e233_56, e233_57, e233_58, e233_61, e233_62, e233_65, e233_67, e233_68, e233_69, e233_72, e233_73, e233_76, e233_78, e233_79, e233_80, e233_81, e233_84, e233_86, e233_87, e233_88, e233_91, e233_94, e233_95, e233_98, e233_101, e233_102, e233_105, e233_106, e233_109, e233_110, e233_113, e233_114, am_bd_some, Option.toList_some, Option.toList_none, List.cons_append, List.nil_append, am_w8_0, am_w8_1, am_w8_2, am_w8_3, am_w8_4, eq_self, or_true, true_or, am_kd_sI, am_kd_sL, am_kd_sR, am_tc_sI, am_tc_sL, am_tc_sR, am_len_sI, am_len_sL, am_len_sR, am_rfs, if_true, if_false, am_rdL_sI, am_rR_sL, am_rt_cq, am_kd_cq, am_tc_cq, am_len_cq, am_rd_sL, am_rd_sR, am_rdL_sR, okK_211 ok, hM.1, h1, e0, not_true]
    | some k =>
      have k2 := kb i cur k (Nat.le_refl _) cm hc
      have e0 : q_b0 (some k) = nI (k / 4) := rfl
      have nf : ¬ nI (k / 4) = 1000000 := fun w => by
        have := (nI_eq (b := 1000000) (by omega) (by decide)).mp w
        omega
      by_cases c : fi = 0
      · have c' := eq_true c
        rw [if_pos c]
        simp only [e233_0, e233_3, e233_4, e233_5, e233_6, e233_7, e233_11, e233_12, e233_15, e233_18, e233_19, e233_22, e233_24, e233_25, e233_27, e233_29, e233_31, e233_32, e233_33, e233_36, e233_39, e233_40, e233_43, e233_45, e233_46, e233_47, e233_50, e233_51, e233_54, e233_56, e233_57, e233_58, e233_61, e233_62, e233_65, e233_67, e233_68, e233_69, e233_72, e233_73, e233_76, e233_78, e233_79, e233_80, e233_81, e233_84, e233_86, e233_87, e233_88, e233_91, e233_94, e233_95, e233_98, e233_101, e233_102, e233_105, e233_106, e233_109, e233_110, e233_113, e233_114, am_bd_some, Option.toList_some, Option.toList_none, List.cons_append, List.nil_append, am_w8_0, am_w8_1, am_w8_2, am_w8_3, am_w8_4, eq_self, or_true, true_or, am_kd_sI, am_kd_sL, am_kd_sR, am_tc_sI, am_tc_sL, am_tc_sR, am_len_sI, am_len_sL, am_len_sR, am_rfs, if_true, if_false, am_rdL_sI, am_rR_sL, am_rt_cq, am_kd_cq, am_tc_cq, am_len_cq, am_rd_sL, am_rd_sR, am_rdL_sR, okK_211 ok, hM.1, h1, e0, nf, not_false_eq_true, c']
        rfl
      · rw [if_neg c]
        simp only [e233_0, e233_3, e233_4, e233_5, e233_6, e233_7, e233_11, e233_12, e233_15, e233_18, e233_19, e233_22, e233_24, e233_25, e233_27, e233_29, e233_31, e233_32, e233_33, e233_36, e233_39, e233_40, e233_43, e233_45, e233_46, e233_47, e233_50, e233_51, e233_54, e233_56, e233_57, e233_58, e233_61, e233_62, e233_65, e233_67, e233_68, e233_69, e233_72, e233_73, e233_76, e233_78, e233_79, e233_80, e233_81, e233_84, e233_86, e233_87, e233_88, e233_91, e233_94, e233_95, e233_98, e233_101, e233_102, e233_105, e233_106, e233_109, e233_110, e233_113, e233_114, am_bd_some, Option.toList_some, Option.toList_none, List.cons_append, List.nil_append, am_w8_0, am_w8_1, am_w8_2, am_w8_3, am_w8_4, eq_self, or_true, true_or, am_kd_sI, am_kd_sL, am_kd_sR, am_tc_sI, am_tc_sL, am_tc_sR, am_len_sI, am_len_sL, am_len_sR, am_rfs, if_true, if_false, am_rdL_sI, am_rR_sL, am_rt_cq, am_kd_cq, am_tc_cq, am_len_cq, am_rd_sL, am_rd_sR, am_rdL_sR, okK_211 ok, hM.1, h1, e0, nf, not_false_eq_true, c]
  | succ r ih =>
    intro i cur z5 hi cm
    have h1 : ¬ nI T ≤ nI i := nI_ge (by omega) (by omega)
    have x : am_ix (nI i) 4096 = true := am_ix_nI (by omega) (by decide)
    have z : (nI i).toNatClampNeg = i := nI_clamp (by omega)
    obtain ⟨v1, v2, v3⟩ := hM.2.1 i (by omega)
    obtain ⟨hx, hy⟩ := mq.2.2.2.1 i (by omega)
    have sl := q_sc_lt wf hx hy
    obtain ⟨s1, s2⟩ := q_sc_d wf hx hy
    obtain ⟨d1, d2⟩ := q_d64 sl
    rw [s1] at d1 d2
    rw [s2] at d2
    have xs : am_ix (nI (q_sc f (X i) (Y i))) 4096 = true := am_ix_nI sl (by decide)
    have zs : (nI (q_sc f (X i) (Y i))).toNatClampNeg = q_sc f (X i) (Y i) := nI_clamp (by omega)
    have pe := q_pn_eq wf hy
    rw [e233_9]
    by_cases cp : Y i = F_pen f
    · have cp' := eq_true (pe.mpr cp)
      have hz : i ≠ 0 := fun w => by rw [w, mq.2.1.2.1] at cp; exact hp0 cp
      have Kb := (mq.2.2.1 i (by omega) (by omega)).1
      have g0 : q_g0 K i = K i / 4 := if_neg hz
      have w0 : q_w0 K i = nI (K i % 4) := if_neg hz
      rw [g0] at v2
      rw [w0] at v3
      have take : (∀ k, cur = some k → K i < k) → q_cm f Y K (i + 1) (some (K i)) := fun hl => by
        refine ⟨fun q => (by cases q), fun k hk => ?_⟩
        cases hk
        refine ⟨⟨i, by omega, cp, rfl⟩, fun j j1 j2 => ?_⟩
        by_cases cj : j = i
        · rw [cj]; exact Nat.le_refl _
        · cases hc : cur with
          | none => exact absurd j2 (cm.1 hc j (by omega))
          | some k => have := (cm.2 k hc).2 j (by omega) j2; have := hl k hc; omega
      cases hc : cur with
      | none =>
        rw [hc] at take
        have e0 : q_b0 none = 1000000 := rfl
        have lt : nI (K i / 4) < 1000000 := nI_lt (b := 1000000) (by omega) (by decide)
        obtain ⟨c2, m2, s3⟩ := ih (i + 1) (some (K i)) (some (.int (nI (q_sc f (X i) (Y i))))) (by omega) (take (fun k hk => by cases hk))
        refine ⟨c2, m2, ?_⟩
        simp only [e233_0, e233_3, e233_4, e233_5, e233_6, e233_7, e233_11, e233_12, e233_15, e233_18, e233_19, e233_22, e233_24, e233_25, e233_27, e233_29, e233_31, e233_32, e233_33, e233_36, e233_39, e233_40, e233_43, e233_45, e233_46, e233_47, e233_50, e233_51, e233_54, e233_56, e233_57, e233_58, e233_61, e233_62, e233_65, e233_67, e233_68, e233_69, e233_72, e233_73, e233_76, e233_78, e233_79, e233_80, e233_81, e233_84, e233_86, e233_87, e233_88, e233_91, e233_94, e233_95, e233_98, e233_101, e233_102, e233_105, e233_106, e233_109, e233_110, e233_113, e233_114, am_bd_some, Option.toList_some, Option.toList_none, List.cons_append, List.nil_append, am_w8_0, am_w8_1, am_w8_2, am_w8_3, am_w8_4, eq_self, or_true, true_or, am_kd_sI, am_kd_sL, am_kd_sR, am_tc_sI, am_tc_sL, am_tc_sR, am_len_sI, am_len_sL, am_len_sR, am_rfs, if_true, if_false, am_rdL_sI, am_rR_sL, am_rt_cq, am_kd_cq, am_tc_cq, am_len_cq, am_rd_sL, am_rd_sR, am_rdL_sR, okK_211 ok, hM.1, h1, okR_211_42 ok, okT_229 ok, okL_229 ok, x, z, v1, n64, d1, d2, a3, cp', not_true, okR_211_40 ok, okR_211_41 ok, okT_227 ok, okL_227 ok, okT_228 ok, okL_228 ok, xs, zs, v2, v3, e0, lt, nI_1]
        exact s3
      | some k =>
        rw [hc] at take
        have k2 := kb i cur k (by omega) cm hc
        have e0 : q_b0 (some k) = nI (k / 4) := rfl
        have e1 : q_c1 (some k) = nI (k % 4) := rfl
        have l1 : nI (K i / 4) < nI (k / 4) ↔ K i / 4 < k / 4 := nI_ltI (by omega) (by omega)
        have l2 : nI (K i / 4) = nI (k / 4) ↔ K i / 4 = k / 4 := nI_eq (by omega) (by omega)
        have l3 : nI (k % 4) ≤ nI (K i % 4) ↔ k % 4 ≤ K i % 4 := nI_leI (by omega) (by omega)
        by_cases lt : K i < k
        · obtain ⟨c2, m2, s3⟩ := ih (i + 1) (some (K i)) (some (.int (nI (q_sc f (X i) (Y i))))) (by omega) (take (fun k' hk => by cases hk; exact lt))
          refine ⟨c2, m2, ?_⟩
          by_cases q1 : K i / 4 < k / 4
          · have q1' := l1.mpr q1
            simp only [e233_0, e233_3, e233_4, e233_5, e233_6, e233_7, e233_11, e233_12, e233_15, e233_18, e233_19, e233_22, e233_24, e233_25, e233_27, e233_29, e233_31, e233_32, e233_33, e233_36, e233_39, e233_40, e233_43, e233_45, e233_46, e233_47, e233_50, e233_51, e233_54, e233_56, e233_57, e233_58, e233_61, e233_62, e233_65, e233_67, e233_68, e233_69, e233_72, e233_73, e233_76, e233_78, e233_79, e233_80, e233_81, e233_84, e233_86, e233_87, e233_88, e233_91, e233_94, e233_95, e233_98, e233_101, e233_102, e233_105, e233_106, e233_109, e233_110, e233_113, e233_114, am_bd_some, Option.toList_some, Option.toList_none, List.cons_append, List.nil_append, am_w8_0, am_w8_1, am_w8_2, am_w8_3, am_w8_4, eq_self, or_true, true_or, am_kd_sI, am_kd_sL, am_kd_sR, am_tc_sI, am_tc_sL, am_tc_sR, am_len_sI, am_len_sL, am_len_sR, am_rfs, if_true, if_false, am_rdL_sI, am_rR_sL, am_rt_cq, am_kd_cq, am_tc_cq, am_len_cq, am_rd_sL, am_rd_sR, am_rdL_sR, okK_211 ok, hM.1, h1, okR_211_42 ok, okT_229 ok, okL_229 ok, x, z, v1, n64, d1, d2, a3, cp', not_true, okR_211_40 ok, okR_211_41 ok, okT_227 ok, okL_227 ok, okT_228 ok, okL_228 ok, xs, zs, v2, v3, e0, q1', nI_1]
            exact s3
          · have q1' : ¬ nI (K i / 4) < nI (k / 4) := fun w => q1 (l1.mp w)
            have q2' := eq_true (l2.mpr (show K i / 4 = k / 4 by omega))
            have q3' : ¬ nI (k % 4) ≤ nI (K i % 4) := fun w => by have := l3.mp w; omega
            simp only [e233_0, e233_3, e233_4, e233_5, e233_6, e233_7, e233_11, e233_12, e233_15, e233_18, e233_19, e233_22, e233_24, e233_25, e233_27, e233_29, e233_31, e233_32, e233_33, e233_36, e233_39, e233_40, e233_43, e233_45, e233_46, e233_47, e233_50, e233_51, e233_54, e233_56, e233_57, e233_58, e233_61, e233_62, e233_65, e233_67, e233_68, e233_69, e233_72, e233_73, e233_76, e233_78, e233_79, e233_80, e233_81, e233_84, e233_86, e233_87, e233_88, e233_91, e233_94, e233_95, e233_98, e233_101, e233_102, e233_105, e233_106, e233_109, e233_110, e233_113, e233_114, am_bd_some, Option.toList_some, Option.toList_none, List.cons_append, List.nil_append, am_w8_0, am_w8_1, am_w8_2, am_w8_3, am_w8_4, eq_self, or_true, true_or, am_kd_sI, am_kd_sL, am_kd_sR, am_tc_sI, am_tc_sL, am_tc_sR, am_len_sI, am_len_sL, am_len_sR, am_rfs, if_true, if_false, am_rdL_sI, am_rR_sL, am_rt_cq, am_kd_cq, am_tc_cq, am_len_cq, am_rd_sL, am_rd_sR, am_rdL_sR, okK_211 ok, hM.1, h1, okR_211_42 ok, okT_229 ok, okL_229 ok, x, z, v1, n64, d1, d2, a3, cp', not_true, okR_211_40 ok, okR_211_41 ok, okT_227 ok, okL_227 ok, okT_228 ok, okL_228 ok, xs, zs, v2, v3, e0, e1, q1', q2', q3', nI_1]
            exact s3
        · have keep : q_cm f Y K (i + 1) (some k) := by
            rw [hc] at cm
            refine ⟨fun q => (by cases q), fun k' hk => ?_⟩
            cases hk
            obtain ⟨⟨j, j1, j2, j3⟩, mn⟩ := cm.2 k rfl
            refine ⟨⟨j, by omega, j2, j3⟩, fun j' q1 q2 => ?_⟩
            by_cases cj : j' = i
            · rw [cj]; omega
            · exact mn j' (by omega) q2
          obtain ⟨c2, m2, s3⟩ := ih (i + 1) (some k) (some (.int (nI (q_sc f (X i) (Y i))))) (by omega) keep
          refine ⟨c2, m2, ?_⟩
          have q1' : ¬ nI (K i / 4) < nI (k / 4) := fun w => by have := l1.mp w; omega
          by_cases q2 : K i / 4 = k / 4
          · have q2' := eq_true (l2.mpr q2)
            have q3' : nI (k % 4) ≤ nI (K i % 4) := l3.mpr (by omega)
            simp only [e233_0, e233_3, e233_4, e233_5, e233_6, e233_7, e233_11, e233_12, e233_15, e233_18, e233_19, e233_22, e233_24, e233_25, e233_27, e233_29, e233_31, e233_32, e233_33, e233_36, e233_39, e233_40, e233_43, e233_45, e233_46, e233_47, e233_50, e233_51, e233_54, e233_56, e233_57, e233_58, e233_61, e233_62, e233_65, e233_67, e233_68, e233_69, e233_72, e233_73, e233_76, e233_78, e233_79, e233_80, e233_81, e233_84, e233_86, e233_87, e233_88, e233_91, e233_94, e233_95, e233_98, e233_101, e233_102, e233_105, e233_106, e233_109, e233_110, e233_113, e233_114, am_bd_some, Option.toList_some, Option.toList_none, List.cons_append, List.nil_append, am_w8_0, am_w8_1, am_w8_2, am_w8_3, am_w8_4, eq_self, or_true, true_or, am_kd_sI, am_kd_sL, am_kd_sR, am_tc_sI, am_tc_sL, am_tc_sR, am_len_sI, am_len_sL, am_len_sR, am_rfs, if_true, if_false, am_rdL_sI, am_rR_sL, am_rt_cq, am_kd_cq, am_tc_cq, am_len_cq, am_rd_sL, am_rd_sR, am_rdL_sR, okK_211 ok, hM.1, h1, okR_211_42 ok, okT_229 ok, okL_229 ok, x, z, v1, n64, d1, d2, a3, cp', not_true, okR_211_40 ok, okR_211_41 ok, okT_227 ok, okL_227 ok, okT_228 ok, okL_228 ok, xs, zs, v2, v3, e0, e1, q1', q2', q3', nI_1]
            rw [e0, e1] at s3
            exact s3
          · have q2' : ¬ nI (K i / 4) = nI (k / 4) := fun w => q2 (l2.mp w)
            simp only [e233_0, e233_3, e233_4, e233_5, e233_6, e233_7, e233_11, e233_12, e233_15, e233_18, e233_19, e233_22, e233_24, e233_25, e233_27, e233_29, e233_31, e233_32, e233_33, e233_36, e233_39, e233_40, e233_43, e233_45, e233_46, e233_47, e233_50, e233_51, e233_54, e233_56, e233_57, e233_58, e233_61, e233_62, e233_65, e233_67, e233_68, e233_69, e233_72, e233_73, e233_76, e233_78, e233_79, e233_80, e233_81, e233_84, e233_86, e233_87, e233_88, e233_91, e233_94, e233_95, e233_98, e233_101, e233_102, e233_105, e233_106, e233_109, e233_110, e233_113, e233_114, am_bd_some, Option.toList_some, Option.toList_none, List.cons_append, List.nil_append, am_w8_0, am_w8_1, am_w8_2, am_w8_3, am_w8_4, eq_self, or_true, true_or, am_kd_sI, am_kd_sL, am_kd_sR, am_tc_sI, am_tc_sL, am_tc_sR, am_len_sI, am_len_sL, am_len_sR, am_rfs, if_true, if_false, am_rdL_sI, am_rR_sL, am_rt_cq, am_kd_cq, am_tc_cq, am_len_cq, am_rd_sL, am_rd_sR, am_rdL_sR, okK_211 ok, hM.1, h1, okR_211_42 ok, okT_229 ok, okL_229 ok, x, z, v1, n64, d1, d2, a3, cp', not_true, okR_211_40 ok, okT_227 ok, okL_227 ok, xs, zs, v2, e0, e1, q1', q2', not_false_eq_true, nI_1]
            rw [e0, e1] at s3
            exact s3
    · have cp' : ¬ nI (q_nm f (Y i)) = q_pn f := fun w => cp (pe.mp w)
      have keep : q_cm f Y K (i + 1) cur := by
        refine ⟨fun hc j j1 => ?_, fun k hk => ?_⟩
        · by_cases cj : j = i
          · rw [cj]; exact cp
          · exact cm.1 hc j (by omega)
        · obtain ⟨⟨j, j1, j2, j3⟩, mn⟩ := cm.2 k hk
          refine ⟨⟨j, by omega, j2, j3⟩, fun j' q1 q2 => ?_⟩
          by_cases cj : j' = i
          · rw [cj] at q2; exact absurd q2 cp
          · exact mn j' (by omega) q2
      obtain ⟨c2, m2, s3⟩ := ih (i + 1) cur (some (.int (nI (q_sc f (X i) (Y i))))) (by omega) keep
      refine ⟨c2, m2, ?_⟩
      simp only [e233_0, e233_3, e233_4, e233_5, e233_6, e233_7, e233_11, e233_12, e233_15, e233_18, e233_19, e233_22, e233_24, e233_25, e233_27, e233_29, e233_31, e233_32, e233_33, e233_36, e233_39, e233_40, e233_43, e233_45, e233_46, e233_47, e233_50, e233_51, e233_54, e233_56, e233_57, e233_58, e233_61, e233_62, e233_65, e233_67, e233_68, e233_69, e233_72, e233_73, e233_76, e233_78, e233_79, e233_80, e233_81, e233_84, e233_86, e233_87, e233_88, e233_91, e233_94, e233_95, e233_98, e233_101, e233_102, e233_105, e233_106, e233_109, e233_110, e233_113, e233_114, am_bd_some, Option.toList_some, Option.toList_none, List.cons_append, List.nil_append, am_w8_0, am_w8_1, am_w8_2, am_w8_3, am_w8_4, eq_self, or_true, true_or, am_kd_sI, am_kd_sL, am_kd_sR, am_tc_sI, am_tc_sL, am_tc_sR, am_len_sI, am_len_sL, am_len_sR, am_rfs, if_true, if_false, am_rdL_sI, am_rR_sL, am_rt_cq, am_kd_cq, am_tc_cq, am_len_cq, am_rd_sL, am_rd_sR, am_rdL_sR, okK_211 ok, hM.1, h1, okR_211_42 ok, okT_229 ok, okL_229 ok, x, z, v1, n64, d1, d2, a3, cp', not_false_eq_true, nI_1]
      exact s3
