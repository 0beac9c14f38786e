/-! part 9Q: the class reads a line, the whole; what a text is -/
theorem t_lx_lt (so : Nat) (w : List Nat) : ∀ r i j, t_lx so w r i = some j → j < i + r ∧ ln_s j = so ∧ w = ln_w j := by
  intro r
  induction r with
  | zero => intro i j h; cases h
  | succ r ih =>
    intro i j h
    unfold t_lx at h
    by_cases c : ln_s i = so ∧ w = ln_w i
    · rw [if_pos c] at h
      obtain rfl := Option.some.inj h
      exact ⟨by omega, c⟩
    · rw [if_neg c] at h
      have := ih (i + 1) j h
      exact ⟨by omega, this.2⟩
theorem t_ln_lt {t : Nat → Nat} {L so s i : Nat} (h : t_ln t L so s = some i) : i < 18 ∧ ln_s i = so ∧ t_w t s (t_at t L s - s) = ln_w i ∧ t_K t L s = 2 := by
  unfold t_ln at h
  by_cases c : t_C t L s = 1
  · rw [if_pos c] at h
    have := t_lx_lt _ _ _ _ _ h
    exact ⟨by omega, this.2.1, this.2.2, (t_C_i t L s).2.1.mp c⟩
  · rw [if_neg c] at h; cases h
theorem den_readLine {t : Nat → Nat} {L : Nat} {g h : am_H} {so s : Nat} {q : Nat × Nat} (hso : so < 4) (hs : s ≤ L) (H : c_st t L g h (t_at t L s) q) (k10 : h.1 159 10 = t_C t L s) (k11 : h.1 159 11 = nI s) :
    (match t_ln t L so s with
    | none => ∃ h' : am_H, am_den 26 [.ref 159, .int (nI so)] h = some (none, h') ∧ c_bk g h' s
    | some i => (match t_rw t L (t_at t L s) (ln_r i).length with
      | some p => ∃ h' : am_H, am_den 26 [.ref 159, .int (nI so)] h = some (none, h') ∧ c_bk g h' p
      | none => ∃ h1 : am_H, c_st t L g h1 (t_ps t L (t_at t L s) ((ln_r i).length + 1)) (t_rq (ln_r i) (t_va t L (t_at t L s)) (t_nx t L (t_at t L s)) (ln_r i).length (if c_fl h i = true then t_nt q 3 s else q)) ∧ c_sd h h1 ∧ (∀ j, j < (ln_r i).length → h1.1 176 j = nI (t_va t L (t_at t L s) j) ∧ t_va t L (t_at t L s) j < 100) ∧ ((t_rq (ln_r i) (t_va t L (t_at t L s)) (t_nx t L (t_at t L s)) (ln_r i).length (if c_fl h i = true then t_nt q 3 s else q)).1 ≠ 0 → am_den 26 [.ref 159, .int (nI so)] h = some (none, h1)) ∧ ((t_rq (ln_r i) (t_va t L (t_at t L s)) (t_nx t L (t_at t L s)) (ln_r i).length (if c_fl h i = true then t_nt q 3 s else q)).1 = 0 → ∀ h2 : am_H, am_den 45 [.ref 159, .ref (1048578 + i)] h1 = some (none, h2) → am_den 26 [.ref 159, .int (nI so)] h = some (none, h2)))) := by
  have ok := H.1.1
  have al := t_at_le t L s hs
  have dl := den_lineAt h t L H.1 s so al.1 al.2 H.2.2.2.1 k11 k10 hso
  cases hl : t_ln t L so s with
  | none =>
    rw [hl] at dl
    have dl' : am_den 27 [.ref 159, .int (nI so)] h = some (some .null, h) := dl
    have db := den_breakOff h ok
    refine ⟨_, ?_, ⟨(H.2.1.sI 159 4 1 (by omega)).sI 159 5 (h.1 159 11) (by omega), ?_, ?_⟩⟩
    · show am_ev 26 0 [some (.ref 159), some (.int (nI so)), none, none] [] h = _
      simp only [e26_0, e26_0n, e26_1, e26_2, e26_5, e26_5n, e26_6, e26_6n, e26_7, e26_7n, e26_10, e26_10n, e26_11, e26_14, e26_15, e26_15n, e26_16, e26_16n, e26_17, e26_20, e26_23, e26_23n, e26_24, e26_25, e26_25n, e26_26, e26_29, e26_32, e26_33, e26_34, e26_35, e26_35n, e26_36, e26_39, e26_42, e26_45, e26_46, e26_46n, e26_47, e26_50k, e26_50, e26_51, e26_54, e26_54n, e26_55, e26_58, e26_58n, e26_59, e26_62, e26_63, e26_66, e26_66n, e26_67, e26_70, e26_71, e26_71n, e26_72, e26_75, e26_76, e26_76n, e26_77, e26_80, e26_81, e26_81n, e26_82, e26_82n, e26_83, e26_86, e26_87, e26_90, e26_93, e26_96, e26_96n, e26_97, e26_98, e26_98n, e26_99, e26_102, e26_105, e26_108, e26_111, e26_111n, e26_112, e26_115, e26_115n, e26_116, e26_119, e26_120, e26_123, e26_123n, e26_124, e26_127, e26_130, e26_130n, e26_131, e26_134, e26_137, e26_137n, e26_138, e26_138n, e26_139, e26_142, am_bd_some, Option.toList_some, Option.toList_none, List.cons_append, List.nil_append, am_w8_0, am_w8_1, am_w8_2, am_w8_3, am_w8_4, eq_self, or_true, true_or, am_kd_sI, am_kd_sL, am_kd_sR, am_tc_sI, am_tc_sL, am_tc_sR, am_len_sI, am_len_sL, am_len_sR, am_rfs, if_true, if_false, am_rdL_sI, am_rR_sL, am_rt_cq, am_kd_cq, am_tc_cq, am_len_cq, am_rd_sL, am_rd_sR, am_rdL_sR, okK_159 ok, dl', db]
    · rw [am_rd_sI, if_neg (by omega), am_rd_sI, if_pos ⟨rfl, rfl⟩]
    · rw [am_rd_sI, if_pos ⟨rfl, rfl⟩]; exact k11
  | some i =>
    obtain ⟨i18, is, iw, iK⟩ := t_ln_lt hl
    rw [hl] at dl
    have dl' : am_den 27 [.ref 159, .int (nI so)] h = some (some (.ref (1048578 + i)), h) := dl
    have df := den_isFull h ok i i18
    have n0 : nI 0 = 0 := rfl
    obtain ⟨h1, s1, st1, sd1⟩ : ∃ h1 : am_H, am_ev 26 0 [some (.ref 159), some (.int (nI so)), none, none] [] h = am_ev 26 34 [some (.ref 159), some (.int (nI so)), some (.ref (1048578 + i)), some (.int (nI 0))] [] h1 ∧ c_st t L g h1 (t_at t L s) (if c_fl h i = true then t_nt q 3 s else q) ∧ c_sd h h1 := by
      cases cf : c_fl h i with
      | true =>
        have b1 : q_bi true = 1 := rfl
        have y : ¬ (1 : Int32) = 0 := by decide
        rw [cf, b1] at df
        obtain ⟨h1, d1, st1, sd1, -, -⟩ := c_note H 3 s (by decide)
        have d1' : am_den 43 [.ref 159, .int 3, .int (nI s)] h = some (none, h1) := d1
        refine ⟨h1, ?_, st1, sd1⟩
        simp only [e26_0, e26_0n, e26_1, e26_2, e26_5, e26_5n, e26_6, e26_6n, e26_7, e26_7n, e26_10, e26_10n, e26_11, e26_14, e26_15, e26_15n, e26_16, e26_16n, e26_17, e26_20, e26_23, e26_23n, e26_24, e26_25, e26_25n, e26_26, e26_29, e26_32, e26_33, e26_35, e26_35n, e26_36, e26_39, e26_42, e26_45, e26_46, e26_46n, e26_47, e26_50k, e26_50, e26_51, e26_54, e26_54n, e26_55, e26_58, e26_58n, e26_59, e26_62, e26_63, e26_66, e26_66n, e26_67, e26_70, e26_71, e26_71n, e26_72, e26_75, e26_76, e26_76n, e26_77, e26_80, e26_81, e26_81n, e26_82, e26_82n, e26_83, e26_86, e26_87, e26_90, e26_93, e26_96, e26_96n, e26_97, e26_98, e26_98n, e26_99, e26_102, e26_105, e26_108, e26_111, e26_111n, e26_112, e26_115, e26_115n, e26_116, e26_119, e26_120, e26_123, e26_123n, e26_124, e26_127, e26_130, e26_130n, e26_131, e26_134, e26_137, e26_137n, e26_138, e26_138n, e26_139, e26_142, am_bd_some, Option.toList_some, Option.toList_none, List.cons_append, List.nil_append, am_w8_0, am_w8_1, am_w8_2, am_w8_3, am_w8_4, eq_self, or_true, true_or, am_kd_sI, am_kd_sL, am_kd_sR, am_tc_sI, am_tc_sL, am_tc_sR, am_len_sI, am_len_sL, am_len_sR, am_rfs, if_true, if_false, am_rdL_sI, am_rR_sL, am_rt_cq, am_kd_cq, am_tc_cq, am_len_cq, am_rd_sL, am_rd_sR, am_rdL_sR, okK_159 ok, dl', df, y, k11, d1']
        rfl
      | false =>
        have b0 : q_bi false = 0 := rfl
        rw [cf, b0] at df
        refine ⟨h, ?_, H, c_sd.rf h⟩
        simp only [e26_0, e26_0n, e26_1, e26_2, e26_5, e26_5n, e26_6, e26_6n, e26_7, e26_7n, e26_10, e26_10n, e26_11, e26_14, e26_15, e26_15n, e26_16, e26_16n, e26_17, e26_20, e26_23, e26_23n, e26_24, e26_25, e26_25n, e26_26, e26_29, e26_32, e26_33, e26_35, e26_35n, e26_36, e26_39, e26_42, e26_45, e26_46, e26_46n, e26_47, e26_50k, e26_50, e26_51, e26_54, e26_54n, e26_55, e26_58, e26_58n, e26_59, e26_62, e26_63, e26_66, e26_66n, e26_67, e26_70, e26_71, e26_71n, e26_72, e26_75, e26_76, e26_76n, e26_77, e26_80, e26_81, e26_81n, e26_82, e26_82n, e26_83, e26_86, e26_87, e26_90, e26_93, e26_96, e26_96n, e26_97, e26_98, e26_98n, e26_99, e26_102, e26_105, e26_108, e26_111, e26_111n, e26_112, e26_115, e26_115n, e26_116, e26_119, e26_120, e26_123, e26_123n, e26_124, e26_127, e26_130, e26_130n, e26_131, e26_134, e26_137, e26_137n, e26_138, e26_138n, e26_139, e26_142, am_bd_some, Option.toList_some, Option.toList_none, List.cons_append, List.nil_append, am_w8_0, am_w8_1, am_w8_2, am_w8_3, am_w8_4, eq_self, or_true, true_or, am_kd_sI, am_kd_sL, am_kd_sR, am_tc_sI, am_tc_sL, am_tc_sR, am_len_sI, am_len_sL, am_len_sR, am_rfs, if_true, if_false, am_rdL_sI, am_rR_sL, am_rt_cq, am_kd_cq, am_tc_cq, am_len_cq, am_rd_sL, am_rd_sR, am_rdL_sR, okK_159 ok, dl', df]
        rfl
    have lp := c_lp t L g i (t_at t L s) so i18 al.2 (if c_fl h i = true then t_nt q 3 s else q) (ln_r i).length 0 h1 (Nat.zero_add _) st1 (fun j hj => absurd hj (Nat.not_lt_zero _))
    have dn : am_den 26 [.ref 159, .int (nI so)] h = am_ev 26 34 [some (.ref 159), some (.int (nI so)), some (.ref (1048578 + i)), some (.int (nI 0))] [] h1 := s1
    show (match t_rw t L (t_at t L s) (ln_r i).length with
      | some p => _
      | none => _)
    generalize (if c_fl h i = true then t_nt q 3 s else q) = q1 at lp st1 ⊢
    unfold t_rw
    revert lp
    cases hf : t_fb t L (t_at t L s) (ln_r i).length 0 with
    | some p =>
      intro lp
      obtain ⟨h', a1, a2⟩ := lp
      exact ⟨h', dn.trans a1, a2⟩
    | none =>
      intro lp
      obtain ⟨h2, a1, st2, sd2, n2⟩ := lp
      have ok2 := st2.1.1
      obtain ⟨h3, d3, st3, sd3, n3, t10, t11, t12⟩ := c_tok st2
      have ok3 := st3.1.1
      have es : t_S t L (t_ps t L (t_at t L s) (ln_r i).length) = t_nx t L (t_at t L s) (ln_r i).length := rfl
      rw [es] at st3 t10 t11 t12
      have tc := (t_C_i t L (t_nx t L (t_at t L s) (ln_r i).length)).2.2.2
      have s3 : am_ev 26 111 [some (.ref 159), some (.int (nI so)), some (.ref (1048578 + i)), some (.int (nI (ln_r i).length))] [] h2 = am_ev 26 115 [some (.ref 159), some (.int (nI so)), some (.ref (1048578 + i)), some (.int (nI (ln_r i).length))] [] h3 := by
        simp only [e26_0, e26_0n, e26_1, e26_2, e26_5, e26_5n, e26_6, e26_6n, e26_7, e26_7n, e26_10, e26_10n, e26_11, e26_14, e26_15, e26_15n, e26_16, e26_16n, e26_17, e26_20, e26_23, e26_23n, e26_24, e26_25, e26_25n, e26_26, e26_29, e26_32, e26_33, e26_34, e26_35, e26_35n, e26_36, e26_39, e26_42, e26_45, e26_46, e26_46n, e26_47, e26_50k, e26_50, e26_51, e26_54, e26_54n, e26_55, e26_58, e26_58n, e26_59, e26_62, e26_63, e26_66, e26_66n, e26_67, e26_70, e26_71, e26_71n, e26_72, e26_75, e26_76, e26_76n, e26_77, e26_80, e26_81, e26_81n, e26_82, e26_82n, e26_83, e26_86, e26_87, e26_90, e26_93, e26_96, e26_96n, e26_97, e26_98, e26_98n, e26_99, e26_102, e26_105, e26_108, e26_111, e26_111n, e26_112, e26_116, e26_119, e26_120, e26_123, e26_123n, e26_124, e26_127, e26_130, e26_130n, e26_131, e26_134, e26_137, e26_137n, e26_138, e26_138n, e26_139, e26_142, am_bd_some, Option.toList_some, Option.toList_none, List.cons_append, List.nil_append, am_w8_0, am_w8_1, am_w8_2, am_w8_3, am_w8_4, eq_self, or_true, true_or, am_kd_sI, am_kd_sL, am_kd_sR, am_tc_sI, am_tc_sL, am_tc_sR, am_len_sI, am_len_sL, am_len_sR, am_rfs, if_true, if_false, am_rdL_sI, am_rR_sL, am_rt_cq, am_kd_cq, am_tc_cq, am_len_cq, am_rd_sL, am_rd_sR, am_rdL_sR, okK_159 ok2, d3]
      have dn3 := (dn.trans a1).trans s3
      show (match (if t_K t L (t_nx t L (t_at t L s) (ln_r i).length) = 4 then none else some (t_nx t L (t_at t L s) (ln_r i).length) : Option Nat) with
        | some p => _
        | none => _)
      by_cases c : t_K t L (t_nx t L (t_at t L s) (ln_r i).length) = 4
      · rw [if_pos c]
        have ea := (t_CK t L (t_nx t L (t_at t L s) (ln_r i).length)).2.2 (by omega)
        have pe : t_ps t L (t_at t L s) ((ln_r i).length + 1) = t_at t L (t_nx t L (t_at t L s) (ln_r i).length) := ea.symm
        have c3 : h3.1 159 10 = 3 := t10.trans (tc.mpr c)
        have r3 : ((3 : Int32) = 3) = True := eq_true rfl
        have e4 := st3.2.2.2.2.1
        have q9 := st3.2.2.2.2.2.2
        have e40 : h3.1 159 4 = 0 ↔ (t_rq (ln_r i) (t_va t L (t_at t L s)) (t_nx t L (t_at t L s)) (ln_r i).length q1).1 = 0 := by rw [e4]; exact nI_eq (b := 0) (by omega) (by decide)
        refine ⟨h3, by rw [pe]; exact st3, (sd1.tr sd2).tr sd3, fun j hj => ⟨(n3 j).trans (n2 j hj).1, t_v_lt (n2 j hj).2⟩, fun w => ?_, fun w h4 d4 => ?_⟩
        · have w' : ¬ h3.1 159 4 = 0 := fun z => w (e40.mp z)
          rw [dn3]
          simp only [e26_0, e26_0n, e26_1, e26_2, e26_5, e26_5n, e26_6, e26_6n, e26_7, e26_7n, e26_10, e26_10n, e26_11, e26_14, e26_15, e26_15n, e26_16, e26_16n, e26_17, e26_20, e26_23, e26_23n, e26_24, e26_25, e26_25n, e26_26, e26_29, e26_32, e26_33, e26_34, e26_35, e26_35n, e26_36, e26_39, e26_42, e26_45, e26_46, e26_46n, e26_47, e26_50k, e26_50, e26_51, e26_54, e26_54n, e26_55, e26_58, e26_58n, e26_59, e26_62, e26_63, e26_66, e26_66n, e26_67, e26_70, e26_71, e26_71n, e26_72, e26_75, e26_76, e26_76n, e26_77, e26_80, e26_81, e26_81n, e26_82, e26_82n, e26_83, e26_86, e26_87, e26_90, e26_93, e26_96, e26_96n, e26_97, e26_98, e26_98n, e26_99, e26_102, e26_105, e26_108, e26_111, e26_111n, e26_112, e26_115, e26_115n, e26_116, e26_119, e26_120, e26_123, e26_123n, e26_124, e26_127, e26_130, e26_130n, e26_131, e26_134, e26_137, e26_137n, e26_138, e26_138n, e26_139, e26_142, am_bd_some, Option.toList_some, Option.toList_none, List.cons_append, List.nil_append, am_w8_0, am_w8_1, am_w8_2, am_w8_3, am_w8_4, eq_self, or_true, true_or, am_kd_sI, am_kd_sL, am_kd_sR, am_tc_sI, am_tc_sL, am_tc_sR, am_len_sI, am_len_sL, am_len_sR, am_rfs, if_true, if_false, am_rdL_sI, am_rR_sL, am_rt_cq, am_kd_cq, am_tc_cq, am_len_cq, am_rd_sL, am_rd_sR, am_rdL_sR, okK_159 ok3, c3, r3, w', not_false_eq_true]
        · have w' := eq_true (e40.mpr w)
          rw [dn3]
          simp only [e26_0, e26_0n, e26_1, e26_2, e26_5, e26_5n, e26_6, e26_6n, e26_7, e26_7n, e26_10, e26_10n, e26_11, e26_14, e26_15, e26_15n, e26_16, e26_16n, e26_17, e26_20, e26_23, e26_23n, e26_24, e26_25, e26_25n, e26_26, e26_29, e26_32, e26_33, e26_34, e26_35, e26_35n, e26_36, e26_39, e26_42, e26_45, e26_46, e26_46n, e26_47, e26_50k, e26_50, e26_51, e26_54, e26_54n, e26_55, e26_58, e26_58n, e26_59, e26_62, e26_63, e26_66, e26_66n, e26_67, e26_70, e26_71, e26_71n, e26_72, e26_75, e26_76, e26_76n, e26_77, e26_80, e26_81, e26_81n, e26_82, e26_82n, e26_83, e26_86, e26_87, e26_90, e26_93, e26_96, e26_96n, e26_97, e26_98, e26_98n, e26_99, e26_102, e26_105, e26_108, e26_111, e26_111n, e26_112, e26_115, e26_115n, e26_116, e26_119, e26_120, e26_123, e26_123n, e26_124, e26_127, e26_130, e26_130n, e26_131, e26_134, e26_137, e26_137n, e26_138, e26_138n, e26_139, e26_142, am_bd_some, Option.toList_some, Option.toList_none, List.cons_append, List.nil_append, am_w8_0, am_w8_1, am_w8_2, am_w8_3, am_w8_4, eq_self, or_true, true_or, am_kd_sI, am_kd_sL, am_kd_sR, am_tc_sI, am_tc_sL, am_tc_sR, am_len_sI, am_len_sL, am_len_sR, am_rfs, if_true, if_false, am_rdL_sI, am_rR_sL, am_rt_cq, am_kd_cq, am_tc_cq, am_len_cq, am_rd_sL, am_rd_sR, am_rdL_sR, okK_159 ok3, c3, r3, w', not_true, d4]
      · rw [if_neg c]
        have c3 : ¬ h3.1 159 10 = 3 := fun w => c (tc.mp (t10.symm.trans w))
        have db := den_breakOff h3 ok3
        refine ⟨_, ?_, ⟨(st3.2.1.sI 159 4 1 (by omega)).sI 159 5 (h3.1 159 11) (by omega), ?_, ?_⟩⟩
        · rw [dn3]
          simp only [e26_0, e26_0n, e26_1, e26_2, e26_5, e26_5n, e26_6, e26_6n, e26_7, e26_7n, e26_10, e26_10n, e26_11, e26_14, e26_15, e26_15n, e26_16, e26_16n, e26_17, e26_20, e26_23, e26_23n, e26_24, e26_25, e26_25n, e26_26, e26_29, e26_32, e26_33, e26_34, e26_35, e26_35n, e26_36, e26_39, e26_42, e26_45, e26_46, e26_46n, e26_47, e26_50k, e26_50, e26_51, e26_54, e26_54n, e26_55, e26_58, e26_58n, e26_59, e26_62, e26_63, e26_66, e26_66n, e26_67, e26_70, e26_71, e26_71n, e26_72, e26_75, e26_76, e26_76n, e26_77, e26_80, e26_81, e26_81n, e26_82, e26_82n, e26_83, e26_86, e26_87, e26_90, e26_93, e26_96, e26_96n, e26_97, e26_98, e26_98n, e26_99, e26_102, e26_105, e26_108, e26_111, e26_111n, e26_112, e26_115, e26_115n, e26_116, e26_119, e26_120, e26_123, e26_123n, e26_124, e26_127, e26_130, e26_130n, e26_131, e26_134, e26_137, e26_137n, e26_138, e26_138n, e26_139, e26_142, am_bd_some, Option.toList_some, Option.toList_none, List.cons_append, List.nil_append, am_w8_0, am_w8_1, am_w8_2, am_w8_3, am_w8_4, eq_self, or_true, true_or, am_kd_sI, am_kd_sL, am_kd_sR, am_tc_sI, am_tc_sL, am_tc_sR, am_len_sI, am_len_sL, am_len_sR, am_rfs, if_true, if_false, am_rdL_sI, am_rR_sL, am_rt_cq, am_kd_cq, am_tc_cq, am_len_cq, am_rd_sL, am_rd_sR, am_rdL_sR, okK_159 ok3, c3, db]
        · rw [am_rd_sI, if_neg (by omega), am_rd_sI, if_pos ⟨rfl, rfl⟩]
        · rw [am_rd_sI, if_pos ⟨rfl, rfl⟩]; exact t11
/-- a text, line by line: where it breaks off, or the first fault and what is told -/
def t_ll {D : Type} (full : Nat → D → Bool) (upd : Nat → (Nat → Nat) → D → D) (t : Nat → Nat) (L so : Nat) : Nat → Nat → Nat × Nat → D → Nat ⊕ ((Nat × Nat) × D)
  | 0, _, q, d => .inr (q, d)
  | n + 1, a, q, d => if t_K t L (t_S t L a) = 0 then .inr (q, d) else
    match t_ln t L so (t_S t L a) with
    | none => .inl (t_S t L a)
    | some i => match t_rw t L (t_at t L (t_S t L a)) (ln_r i).length with
      | some p => .inl p
      | none => t_ll full upd t L so n (t_ps t L (t_at t L (t_S t L a)) ((ln_r i).length + 1)) (t_rq (ln_r i) (t_va t L (t_at t L (t_S t L a))) (t_nx t L (t_at t L (t_S t L a))) (ln_r i).length (if full i d = true then t_nt q 3 (t_S t L a) else q)) (if (t_rq (ln_r i) (t_va t L (t_at t L (t_S t L a))) (t_nx t L (t_at t L (t_S t L a))) (ln_r i).length (if full i d = true then t_nt q 3 (t_S t L a) else q)).1 = 0 then upd i (t_va t L (t_at t L (t_S t L a))) d else d)
theorem t_nt_0 {q : Nat × Nat} {w p : Nat} (hw : w ≠ 0) : (t_nt q w p).1 ≠ 0 := by
  unfold t_nt
  by_cases c : q.1 = 0
  · rw [if_pos c]; exact hw
  · rw [if_neg c]; exact c
theorem t_nt_1 {q : Nat × Nat} {w p : Nat} (hq : q.1 ≠ 1) (hw : w ≠ 1) : (t_nt q w p).1 ≠ 1 := by
  unfold t_nt
  by_cases c : q.1 = 0
  · rw [if_pos c]; exact hw
  · rw [if_neg c]; exact hq
theorem t_nt_k {q : Nat × Nat} {w p : Nat} (hq : q.1 ≠ 0) : t_nt q w p = q := if_neg hq
theorem t_rq_0 {r : List Nat} {v x : Nat → Nat} : ∀ {m : Nat} {q : Nat × Nat}, (t_rq r v x m q).1 = 0 → q.1 = 0 ∧ t_rq r v x m q = q ∧ ∀ j, j < m → t_can (r.getD j 0) (v j) v = true := by
  intro m
  induction m with
  | zero => exact fun h => ⟨h, rfl, fun j hj => absurd hj (Nat.not_lt_zero _)⟩
  | succ m ih =>
    intro q h
    unfold t_rq at h ⊢
    by_cases c : t_can (r.getD m 0) (v m) v = true
    · rw [if_pos c] at h ⊢
      obtain ⟨a1, a2, a3⟩ := ih h
      refine ⟨a1, a2, fun j hj => ?_⟩
      by_cases e : j = m
      · rw [e]; exact c
      · exact a3 j (by omega)
    · rw [if_neg c] at h
      exact absurd h (t_nt_0 (by decide))
theorem t_rq_1 {r : List Nat} {v x : Nat → Nat} : ∀ {m : Nat} {q : Nat × Nat}, q.1 ≠ 1 → (t_rq r v x m q).1 ≠ 1 := by
  intro m
  induction m with
  | zero => exact fun h => h
  | succ m ih =>
    intro q h
    unfold t_rq
    by_cases c : t_can (r.getD m 0) (v m) v = true
    · rw [if_pos c]; exact ih h
    · rw [if_neg c]; exact t_nt_1 (ih h) (by decide)
theorem t_rq_k {r : List Nat} {v x : Nat → Nat} : ∀ {m : Nat} {q : Nat × Nat}, q.1 ≠ 0 → t_rq r v x m q = q := by
  intro m
  induction m with
  | zero => exact fun _ => rfl
  | succ m ih =>
    intro q h
    unfold t_rq
    rw [ih h]
    by_cases c : t_can (r.getD m 0) (v m) v = true
    · rw [if_pos c]
    · rw [if_neg c]; exact t_nt_k h
