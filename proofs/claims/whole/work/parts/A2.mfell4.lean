/-! part A2: the reference reads a line of a fell: size, wall, pen, dog -/
theorem m_fl_t {t : Nat → Nat} {L : Nat} {g : am_H} {e : Nat} {r : List Nat} {q1 : Nat × Nat} {T : Nat → Int32} {fx fy : Int32} {h : am_H} {m : Nat} (H : m_nm t L g e r q1 0 T fx fy h m) (m2 : 2 ≤ m) (W s : Nat) (to : Nat) (ht : to < 6) : ∃ h' : am_H, am_ev 177 242 [some (.ref 211), some (.long (lN W)), some (.retAddr 0), some (.int (nI s)), some (.int (-1)), some (.int (nI to))] [] h = some (some (.int 1), h') ∧ m_nm t L g e r q1 0 (f_wT (f_wT T to (nI (t_va t L e 0))) (to + 1) (nI (t_va t L e 1))) fx fy h' m := by
  have ok := H.1.1.1
  have N0 : h.1 222 0 = nI (t_va t L e 0) := (H.2.1 0 (by omega)).2
  have N1 : h.1 222 1 = nI (t_va t L e 1) := (H.2.1 1 (by omega)).2
  have H1 := H.w to (nI (t_va t L e 0))
  have ok1 := H1.1.1.1
  have M1 : (am_sI h 221 to (nI (t_va t L e 0))).1 222 1 = nI (t_va t L e 1) := (c_ne _ _ _ _ _ _ (by decide)).trans N1
  have H2 := H1.w (to + 1) (nI (t_va t L e 1))
  have x0 : am_ix 0 6 = true := by decide
  have x1 : am_ix 1 6 = true := by decide
  have z0 : (0 : Int32).toNatClampNeg = 0 := rfl
  have z1 : (1 : Int32).toNatClampNeg = 1 := rfl
  have i0 : am_ix (nI to) 81 = true := am_ix_nI (by omega) (by decide)
  have i1 : am_ix (nI (to + 1)) 81 = true := am_ix_nI (by omega) (by decide)
  have w0 : (nI to).toNatClampNeg = to := nI_clamp (by omega)
  have w1 : (nI (to + 1)).toNatClampNeg = to + 1 := nI_clamp (by omega)
  have o1 : (1 : Int32) = 0 ∨ (1 : Int32) = 1 := Or.inr rfl
  refine ⟨_, ?_, H2⟩
  simp only [e177_0, e177_1, e177_4, e177_6, e177_8, e177_9, e177_12, e177_13, e177_16, e177_17, e177_20, e177_21, e177_24, e177_25, e177_28, e177_29, e177_32, e177_33, e177_36, e177_37, e177_40, e177_41, e177_44, e177_45, e177_48, e177_49, e177_51, e177_52, e177_55, e177_56, e177_58, e177_60, e177_61, e177_64, e177_65, e177_68, e177_70, e177_71, e177_74, e177_75, e177_77, e177_80, e177_81, e177_82, e177_85, e177_86, e177_89, e177_90, e177_91, e177_92, e177_94, e177_97, e177_100, e177_101, e177_102, e177_103, e177_105, e177_108, e177_111, e177_114, e177_115, e177_116, e177_119, e177_122, e177_123, e177_124, e177_125, e177_128, e177_129, e177_132, e177_133, e177_134, e177_135, e177_137, e177_140, e177_143, e177_144, e177_145, e177_146, e177_149, e177_151, e177_152, e177_155, e177_156, e177_157, e177_158, e177_159, e177_162, e177_163, e177_166, e177_167, e177_170, e177_172, e177_173, e177_176, e177_179, e177_180, e177_183, e177_184, e177_185, e177_188, e177_189, e177_190, e177_191, e177_192, e177_193, e177_196, e177_199, e177_200, e177_201, e177_204, e177_205, e177_206, e177_207, e177_210, e177_211, e177_212, e177_213, e177_214, e177_215, e177_216, e177_219, e177_220, e177_223, e177_224, e177_227, e177_228, e177_231, e177_232, e177_235, e177_236, e177_239, e177_240, e177_242, e177_243, e177_246, e177_248, e177_249, e177_252, e177_253, e177_254, e177_255, e177_256, e177_259, e177_261, e177_262, e177_263, e177_264, e177_267, e177_268, e177_269, e177_270, e177_271, am_bd_some, Option.toList_some, Option.toList_none, List.cons_append, List.nil_append, am_w8_0, am_w8_1, am_w8_2, am_w8_3, am_w8_4, eq_self, or_true, true_or, am_kd_sI, am_kd_sL, am_kd_sR, am_tc_sI, am_tc_sL, am_tc_sR, am_len_sI, am_len_sL, am_len_sR, am_rfs, if_true, if_false, am_rdL_sI, am_rR_sL, am_rt_cq, am_kd_cq, am_tc_cq, am_len_cq, am_rd_sL, am_rd_sR, am_rdL_sR, okK_211 ok, okR_211_19 ok, okR_211_20 ok, okT_221 ok, okL_221 ok, okT_222 ok, okL_222 ok, x0, x1, z0, z1, N0, M1, nI_1, i0, i1, w0, w1, o1]
def f_kk (c : Nat) : Nat := if c = 6 then 1936292453 else if c = 4 then 2002873452 else if c = 5 then 7365998 else 6582119
theorem f_kk_ok : ∀ i, i < 18 → ln_s i = 0 → ¬ ln_c i < 4 → ln_k i = f_kk (ln_c i) := by decide +kernel
theorem f_ks (i : Nat) (hi : i < 18) (is : ln_s i = 0) (ib : ¬ ln_c i < 4) : (ln_c i = 6 ∧ ln_k i = 1936292453) ∨ (ln_c i = 4 ∧ ln_k i = 2002873452) ∨ (ln_c i = 5 ∧ ln_k i = 7365998) ∨ (ln_c i = 7 ∧ ln_k i = 6582119) := by
  have e := f_kk_ok i hi is ib
  rcases f_c8 i hi is with c | c | c | c | c
  · rw [c] at e; exact Or.inl ⟨c, e⟩
  · exact absurd c ib
  · rw [c] at e; exact Or.inr (Or.inl ⟨c, e⟩)
  · rw [c] at e; exact Or.inr (Or.inr (Or.inl ⟨c, e⟩))
  · rw [c] at e; exact Or.inr (Or.inr (Or.inr ⟨c, e⟩))
theorem f_nofull {i : Nat} (d : f_D) (ib : ¬ ln_c i < 4) (q p : Nat × Nat) : (if f_full i d = true then p else q) = q := if_neg (fun w => ib (of_decide_eq_true w).1)
theorem f_mw_of {t : Nat → Nat} {L : Nat} {g : am_H} {e : Nat} {r : List Nat} {q1 : Nat × Nat} {off : Nat} {T : Nat → Int32} {fx fy : Int32} {h : am_H} {i n : Nat} (H : m_nm t L g e r q1 off T fx fy h i) (n6 : n ≤ 6) (e7 : T 7 = nI n) : f_mw h := ⟨n, n6, (H.2.2.2.1 7).trans e7⟩
theorem f_r7 : ∀ i, i < 18 → ln_s i = 0 → ln_c i = 7 → (ln_r i).getD 2 0 = 101 := by decide +kernel
theorem f_r6 : ∀ i, i < 18 → ln_s i = 0 → ln_c i = 6 → (ln_r i).getD 0 0 = 115 ∧ (ln_r i).getD 1 0 = 115 := by decide +kernel
theorem m_fl_s {t : Nat → Nat} {L : Nat} {g h : am_H} {s : Nat} {q : Nat × Nat} (H : m_st t L g h s q s) (hs : s < L) (G : h.1 211 23 = 1) (d : f_D) (R : q.1 = 0 → f_mr h d) (Rw : f_mw h) (i : Nat) (hi : i < 18) (is : ln_s i = 0) (c6 : ln_c i = 6) (ek : ln_k i = 1936292453) : m_lr f_mr f_mw f_full f_upd t L g 177 (ln_k i) h s q d i := by
  obtain ⟨n, n6, e7⟩ := Rw
  obtain ⟨r0, r1⟩ := f_r6 i hi is c6
  have ln2 : (ln_r i).length = 2 := by rw [f_len i hi is, if_neg (by omega)]
  have kb := (f_kb i hi is).2 (by omega)
  rw [ek] at kb
  have cS : (lg_cmp (lN 1936292453) 1936292453 = 0) = True := eq_true (by decide)
  have cD : (lg_cmp (lN 1936292453) 6582119 = 0) = False := eq_false (by decide)
  have cW : (lg_cmp (lN 1936292453) 2002873452 = 0) = False := eq_false (by decide)
  have o0 : (0 : Int32) = 0 ∨ (0 : Int32) = 1 := Or.inl rfl
  have o1 : (1 : Int32) = 0 ∨ (1 : Int32) = 1 := Or.inr rfl
  have y : ¬ (1 : Int32) = 0 := by decide
  obtain ⟨h1, s1, H1⟩ := m_fl_0 H hs G 1936292453 (by decide) kb (Or.inl (by decide)) (ln_r i)
  have ok1 := H1.1.1.1
  obtain ⟨A0, B0⟩ := m_nu H1 (by decide) 2 8 (-1) (by decide) (by decide) (fun c => r_s r0 (t_v_lt c))
  unfold m_lr
  rw [ln2, ek, f_nofull d (by omega)]
  show (match (if t_K t L (t_nx t L (t_E t L s) 0) = 3 then (if t_K t L (t_nx t L (t_E t L s) 1) = 3 then none else some (t_nx t L (t_E t L s) 1)) else some (t_nx t L (t_E t L s) 0) : Option Nat) with
    | some p => _
    | none => _)
  by_cases k0 : t_K t L (t_nx t L (t_E t L s) 0) = 3
  · rw [if_pos k0]
    obtain ⟨h2, d2, H2, -⟩ := B0 k0
    have ok2 := H2.1.1.1
    have d2' := den_take h1 ok1 0 2 8 1 h2 d2 o1
    obtain ⟨A1, B1⟩ := m_nu H2 (by decide) 2 8 (-1) (by decide) (by decide) (fun c => r_s r1 (t_v_lt c))
    by_cases k1 : t_K t L (t_nx t L (t_E t L s) 1) = 3
    · rw [if_pos k1]
      obtain ⟨h3, d3, H3, -⟩ := B1 k1
      have d3' := den_take h2 ok2 1 2 8 1 h3 d3 o1
      obtain ⟨h4, s4, H4⟩ := m_fl_t H3 (Nat.le_refl _) 1936292453 s 0 (by decide)
      refine ⟨h4, ?_, H4.1, fun z => ?_, f_mw_of H4 n6 e7⟩
      · show am_ev 177 0 [some (.ref 211), some (.long (lN 1936292453)), some (.retAddr 0), some (.int (nI s)), none, none] [] h = _
        rw [s1, ← s4]
        simp only [e177_0, e177_1, e177_4, e177_6, e177_8, e177_9, e177_12, e177_13, e177_16, e177_17, e177_20, e177_21, e177_24, e177_25, e177_28, e177_29, e177_32, e177_33, e177_36, e177_37, e177_40, e177_41, e177_44, e177_45, e177_48, e177_49, e177_51, e177_52, e177_55, e177_56, e177_58, e177_60, e177_61, e177_64, e177_65, e177_68, e177_70, e177_71, e177_74, e177_75, e177_77, e177_80, e177_81, e177_82, e177_85, e177_86, e177_89, e177_90, e177_91, e177_92, e177_94, e177_97, e177_100, e177_101, e177_102, e177_103, e177_105, e177_108, e177_111, e177_114, e177_115, e177_116, e177_119, e177_122, e177_123, e177_124, e177_125, e177_128, e177_129, e177_132, e177_133, e177_134, e177_135, e177_137, e177_140, e177_143, e177_144, e177_145, e177_146, e177_149, e177_151, e177_152, e177_155, e177_156, e177_157, e177_158, e177_159, e177_162, e177_163, e177_166, e177_167, e177_170, e177_172, e177_173, e177_176, e177_179, e177_180, e177_183, e177_184, e177_185, e177_188, e177_189, e177_190, e177_191, e177_192, e177_193, e177_196, e177_199, e177_200, e177_201, e177_204, e177_205, e177_206, e177_207, e177_210, e177_211, e177_212, e177_213, e177_214, e177_215, e177_216, e177_219, e177_220, e177_223, e177_224, e177_227, e177_228, e177_231, e177_232, e177_235, e177_236, e177_239, e177_240, e177_243, e177_246, e177_248, e177_249, e177_252, e177_253, e177_254, e177_255, e177_256, e177_259, e177_261, e177_262, e177_263, e177_264, e177_267, e177_268, e177_269, e177_270, e177_271, am_bd_some, Option.toList_some, Option.toList_none, List.cons_append, List.nil_append, am_w8_0, am_w8_1, am_w8_2, am_w8_3, am_w8_4, eq_self, or_true, true_or, am_kd_sI, am_kd_sL, am_kd_sR, am_tc_sI, am_tc_sL, am_tc_sR, am_len_sI, am_len_sL, am_len_sR, am_rfs, if_true, if_false, am_rdL_sI, am_rR_sL, am_rt_cq, am_kd_cq, am_tc_cq, am_len_cq, am_rd_sL, am_rd_sR, am_rdL_sR, cS, cD, cW, not_true, not_false_eq_true, okK_211 ok1, d2', y, okK_211 ok2, d3']
        rfl
      · obtain ⟨z1, -, z3⟩ := t_rq_0 z
        obtain ⟨M, m6, X, Y, x8, y8⟩ := R z1
        have up : f_upd i (t_va t L (t_E t L s)) d = ((f_upd i (t_va t L (t_E t L s)) d).1, d.2) := by
          unfold f_upd
          rw [if_pos c6]
        rw [up]
        refine f_mr_of H4 _ (f_m_size (d := d) M i (t_va t L (t_E t L s)) c6) ?_ X Y x8 y8
        show F_n (f_upd i (t_va t L (t_E t L s)) d).1 ≤ 6
        unfold f_upd
        rw [if_pos c6]
        exact m6
    · rw [if_neg k1]
      obtain ⟨h3, d3, b3⟩ := A1 k1
      have d3' := den_take h2 ok2 1 2 8 0 h3 d3 o0
      refine ⟨h3, ?_, b3⟩
      show am_ev 177 0 [some (.ref 211), some (.long (lN 1936292453)), some (.retAddr 0), some (.int (nI s)), none, none] [] h = _
      rw [s1]
      simp only [e177_0, e177_1, e177_4, e177_6, e177_8, e177_9, e177_12, e177_13, e177_16, e177_17, e177_20, e177_21, e177_24, e177_25, e177_28, e177_29, e177_32, e177_33, e177_36, e177_37, e177_40, e177_41, e177_44, e177_45, e177_48, e177_49, e177_51, e177_52, e177_55, e177_56, e177_58, e177_60, e177_61, e177_64, e177_65, e177_68, e177_70, e177_71, e177_74, e177_75, e177_77, e177_80, e177_81, e177_82, e177_85, e177_86, e177_89, e177_90, e177_91, e177_92, e177_94, e177_97, e177_100, e177_101, e177_102, e177_103, e177_105, e177_108, e177_111, e177_114, e177_115, e177_116, e177_119, e177_122, e177_123, e177_124, e177_125, e177_128, e177_129, e177_132, e177_133, e177_134, e177_135, e177_137, e177_140, e177_143, e177_144, e177_145, e177_146, e177_149, e177_151, e177_152, e177_155, e177_156, e177_157, e177_158, e177_159, e177_162, e177_163, e177_166, e177_167, e177_170, e177_172, e177_173, e177_176, e177_179, e177_180, e177_183, e177_184, e177_185, e177_188, e177_189, e177_190, e177_191, e177_192, e177_193, e177_196, e177_199, e177_200, e177_201, e177_204, e177_205, e177_206, e177_207, e177_210, e177_211, e177_212, e177_213, e177_214, e177_215, e177_216, e177_219, e177_220, e177_223, e177_224, e177_227, e177_228, e177_231, e177_232, e177_235, e177_236, e177_239, e177_240, e177_242, e177_243, e177_246, e177_248, e177_249, e177_252, e177_253, e177_254, e177_255, e177_256, e177_259, e177_261, e177_262, e177_263, e177_264, e177_267, e177_268, e177_269, e177_270, e177_271, am_bd_some, Option.toList_some, Option.toList_none, List.cons_append, List.nil_append, am_w8_0, am_w8_1, am_w8_2, am_w8_3, am_w8_4, eq_self, or_true, true_or, am_kd_sI, am_kd_sL, am_kd_sR, am_tc_sI, am_tc_sL, am_tc_sR, am_len_sI, am_len_sL, am_len_sR, am_rfs, if_true, if_false, am_rdL_sI, am_rR_sL, am_rt_cq, am_kd_cq, am_tc_cq, am_len_cq, am_rd_sL, am_rd_sR, am_rdL_sR, cS, cD, cW, not_true, not_false_eq_true, okK_211 ok1, d2', y, okK_211 ok2, d3', o0]
  · rw [if_neg k0]
    obtain ⟨h2, d2, b2⟩ := A0 k0
    have d2' := den_take h1 ok1 0 2 8 0 h2 d2 o0
    refine ⟨h2, ?_, b2⟩
    show am_ev 177 0 [some (.ref 211), some (.long (lN 1936292453)), some (.retAddr 0), some (.int (nI s)), none, none] [] h = _
    rw [s1]
    simp only [e177_0, e177_1, e177_4, e177_6, e177_8, e177_9, e177_12, e177_13, e177_16, e177_17, e177_20, e177_21, e177_24, e177_25, e177_28, e177_29, e177_32, e177_33, e177_36, e177_37, e177_40, e177_41, e177_44, e177_45, e177_48, e177_49, e177_51, e177_52, e177_55, e177_56, e177_58, e177_60, e177_61, e177_64, e177_65, e177_68, e177_70, e177_71, e177_74, e177_75, e177_77, e177_80, e177_81, e177_82, e177_85, e177_86, e177_89, e177_90, e177_91, e177_92, e177_94, e177_97, e177_100, e177_101, e177_102, e177_103, e177_105, e177_108, e177_111, e177_114, e177_115, e177_116, e177_119, e177_122, e177_123, e177_124, e177_125, e177_128, e177_129, e177_132, e177_133, e177_134, e177_135, e177_137, e177_140, e177_143, e177_144, e177_145, e177_146, e177_149, e177_151, e177_152, e177_155, e177_156, e177_157, e177_158, e177_159, e177_162, e177_163, e177_166, e177_167, e177_170, e177_172, e177_173, e177_176, e177_179, e177_180, e177_183, e177_184, e177_185, e177_188, e177_189, e177_190, e177_191, e177_192, e177_193, e177_196, e177_199, e177_200, e177_201, e177_204, e177_205, e177_206, e177_207, e177_210, e177_211, e177_212, e177_213, e177_214, e177_215, e177_216, e177_219, e177_220, e177_223, e177_224, e177_227, e177_228, e177_231, e177_232, e177_235, e177_236, e177_239, e177_240, e177_242, e177_243, e177_246, e177_248, e177_249, e177_252, e177_253, e177_254, e177_255, e177_256, e177_259, e177_261, e177_262, e177_263, e177_264, e177_267, e177_268, e177_269, e177_270, e177_271, am_bd_some, Option.toList_some, Option.toList_none, List.cons_append, List.nil_append, am_w8_0, am_w8_1, am_w8_2, am_w8_3, am_w8_4, eq_self, or_true, true_or, am_kd_sI, am_kd_sL, am_kd_sR, am_tc_sI, am_tc_sL, am_tc_sR, am_len_sI, am_len_sL, am_len_sR, am_rfs, if_true, if_false, am_rdL_sI, am_rR_sL, am_rt_cq, am_kd_cq, am_tc_cq, am_len_cq, am_rd_sL, am_rd_sR, am_rdL_sR, cS, cD, cW, not_true, not_false_eq_true, okK_211 ok1, d2', o0]
/-- what is told of a cell -/
theorem f_c8v {t : Nat → Nat} {L e : Nat} {r : List Nat} {m : Nat} (r0 : r.getD 0 0 = 99) (r1 : r.getD 1 0 = 99) (m2 : 2 ≤ m) (z3 : ∀ j, j < m → t_can (r.getD j 0) (t_va t L e j) (t_va t L e) = true) : t_va t L e 0 < 8 ∧ t_va t L e 1 < 8 := ⟨t_can_c (by have := z3 0 (by omega); rw [r0] at this; exact this), t_can_c (by have := z3 1 (by omega); rw [r1] at this; exact this)⟩
theorem m_fl_p {t : Nat → Nat} {L : Nat} {g h : am_H} {s : Nat} {q : Nat × Nat} (H : m_st t L g h s q s) (hs : s < L) (G : h.1 211 23 = 1) (d : f_D) (R : q.1 = 0 → f_mr h d) (Rw : f_mw h) (i : Nat) (hi : i < 18) (is : ln_s i = 0) (c5 : ln_c i = 5) (ek : ln_k i = 7365998) : m_lr f_mr f_mw f_full f_upd t L g 177 (ln_k i) h s q d i := by
  obtain ⟨n, n6, e7⟩ := Rw
  obtain ⟨r0, r1⟩ := f_c99 i hi is (by omega)
  have ln2 : (ln_r i).length = 2 := by rw [f_len i hi is, if_neg (by omega)]
  have kb := (f_kb i hi is).2 (by omega)
  rw [ek] at kb
  have cS : (lg_cmp (lN 7365998) 1936292453 = 0) = False := eq_false (by decide)
  have cD : (lg_cmp (lN 7365998) 6582119 = 0) = False := eq_false (by decide)
  have cW : (lg_cmp (lN 7365998) 2002873452 = 0) = False := eq_false (by decide)
  have cP : (lg_cmp (lN 7365998) 7365998 = 0) = True := eq_true (by decide)
  have o0 : (0 : Int32) = 0 ∨ (0 : Int32) = 1 := Or.inl rfl
  have o1 : (1 : Int32) = 0 ∨ (1 : Int32) = 1 := Or.inr rfl
  have y : ¬ (1 : Int32) = 0 := by decide
  obtain ⟨h1, s1, H1⟩ := m_fl_0 H hs G 7365998 (by decide) kb (Or.inr (Or.inr (Or.inl (by decide)))) (ln_r i)
  have ok1 := H1.1.1.1
  have C := m_cell H1 r0 r1
  unfold m_lr
  rw [ln2, ek, f_nofull d (by omega)]
  revert C
  cases t_fb t L (t_E t L s) 2 0 with
  | some p =>
    rintro ⟨h2, d2, b2⟩
    refine ⟨h2, ?_, b2⟩
    show am_ev 177 0 [some (.ref 211), some (.long (lN 7365998)), some (.retAddr 0), some (.int (nI s)), none, none] [] h = _
    rw [s1]
    simp only [e177_0, e177_1, e177_4, e177_6, e177_8, e177_9, e177_12, e177_13, e177_16, e177_17, e177_20, e177_21, e177_24, e177_25, e177_28, e177_29, e177_32, e177_33, e177_36, e177_37, e177_40, e177_41, e177_44, e177_45, e177_48, e177_49, e177_51, e177_52, e177_55, e177_56, e177_58, e177_60, e177_61, e177_64, e177_65, e177_68, e177_70, e177_71, e177_74, e177_75, e177_77, e177_80, e177_81, e177_82, e177_85, e177_86, e177_89, e177_90, e177_91, e177_92, e177_94, e177_97, e177_100, e177_101, e177_102, e177_103, e177_105, e177_108, e177_111, e177_114, e177_115, e177_116, e177_119, e177_122, e177_123, e177_124, e177_125, e177_128, e177_129, e177_132, e177_133, e177_134, e177_135, e177_137, e177_140, e177_143, e177_144, e177_145, e177_146, e177_149, e177_151, e177_152, e177_155, e177_156, e177_157, e177_158, e177_159, e177_162, e177_163, e177_166, e177_167, e177_170, e177_172, e177_173, e177_176, e177_179, e177_180, e177_183, e177_184, e177_185, e177_188, e177_189, e177_190, e177_191, e177_192, e177_193, e177_196, e177_199, e177_200, e177_201, e177_204, e177_205, e177_206, e177_207, e177_210, e177_211, e177_212, e177_213, e177_214, e177_215, e177_216, e177_219, e177_220, e177_223, e177_224, e177_227, e177_228, e177_231, e177_232, e177_235, e177_236, e177_239, e177_240, e177_242, e177_243, e177_246, e177_248, e177_249, e177_252, e177_253, e177_254, e177_255, e177_256, e177_259, e177_261, e177_262, e177_263, e177_264, e177_267, e177_268, e177_269, e177_270, e177_271, am_bd_some, Option.toList_some, Option.toList_none, List.cons_append, List.nil_append, am_w8_0, am_w8_1, am_w8_2, am_w8_3, am_w8_4, eq_self, or_true, true_or, am_kd_sI, am_kd_sL, am_kd_sR, am_tc_sI, am_tc_sL, am_tc_sR, am_len_sI, am_len_sL, am_len_sR, am_rfs, if_true, if_false, am_rdL_sI, am_rR_sL, am_rt_cq, am_kd_cq, am_tc_cq, am_len_cq, am_rd_sL, am_rd_sR, am_rdL_sR, cS, cD, cW, not_true, not_false_eq_true, okK_211 ok1, d2, o0]
  | none =>
    rintro ⟨h2, d2, H2⟩
    obtain ⟨h4, s4, H4⟩ := m_fl_t H2 (Nat.le_refl _) 7365998 s 2 (by decide)
    refine ⟨h4, ?_, H4.1, fun z => ?_, f_mw_of H4 n6 e7⟩
    · show am_ev 177 0 [some (.ref 211), some (.long (lN 7365998)), some (.retAddr 0), some (.int (nI s)), none, none] [] h = _
      rw [s1, ← s4]
      simp only [e177_0, e177_1, e177_4, e177_6, e177_8, e177_9, e177_12, e177_13, e177_16, e177_17, e177_20, e177_21, e177_24, e177_25, e177_28, e177_29, e177_32, e177_33, e177_36, e177_37, e177_40, e177_41, e177_44, e177_45, e177_48, e177_49, e177_51, e177_52, e177_55, e177_56, e177_58, e177_60, e177_61, e177_64, e177_65, e177_68, e177_70, e177_71, e177_74, e177_75, e177_77, e177_80, e177_81, e177_82, e177_85, e177_86, e177_89, e177_90, e177_91, e177_92, e177_94, e177_97, e177_100, e177_101, e177_102, e177_103, e177_105, e177_108, e177_111, e177_114, e177_115, e177_116, e177_119, e177_122, e177_123, e177_124, e177_125, e177_128, e177_129, e177_132, e177_133, e177_134, e177_135, e177_137, e177_140, e177_143, e177_144, e177_145, e177_146, e177_149, e177_151, e177_152, e177_155, e177_156, e177_157, e177_158, e177_159, e177_162, e177_163, e177_166, e177_167, e177_170, e177_172, e177_173, e177_176, e177_179, e177_180, e177_183, e177_184, e177_185, e177_188, e177_189, e177_190, e177_191, e177_192, e177_193, e177_196, e177_199, e177_200, e177_201, e177_204, e177_205, e177_206, e177_207, e177_210, e177_211, e177_212, e177_213, e177_214, e177_215, e177_216, e177_219, e177_220, e177_223, e177_224, e177_227, e177_228, e177_231, e177_232, e177_235, e177_236, e177_239, e177_240, e177_243, e177_246, e177_248, e177_249, e177_252, e177_253, e177_254, e177_255, e177_256, e177_259, e177_261, e177_262, e177_263, e177_264, e177_267, e177_268, e177_269, e177_270, e177_271, am_bd_some, Option.toList_some, Option.toList_none, List.cons_append, List.nil_append, am_w8_0, am_w8_1, am_w8_2, am_w8_3, am_w8_4, eq_self, or_true, true_or, am_kd_sI, am_kd_sL, am_kd_sR, am_tc_sI, am_tc_sL, am_tc_sR, am_len_sI, am_len_sL, am_len_sR, am_rfs, if_true, if_false, am_rdL_sI, am_rR_sL, am_rt_cq, am_kd_cq, am_tc_cq, am_len_cq, am_rd_sL, am_rd_sR, am_rdL_sR, cS, cD, cW, cP, not_true, not_false_eq_true, okK_211 ok1, d2, y]
      rfl
    · obtain ⟨z1, -, z3⟩ := t_rq_0 z
      obtain ⟨M, m6, X, Y, x8, y8⟩ := R z1
      obtain ⟨w0, w1⟩ := f_c8v r0 r1 (Nat.le_refl _) z3
      have f8 := f_far8 x8 y8 w0 w1
      have up : f_upd i (t_va t L (t_E t L s)) d = ((f_upd i (t_va t L (t_E t L s)) d).1, f_far (t_va t L (t_E t L s)) d) := by
        unfold f_upd
        rw [if_neg (by omega), if_neg (by omega), if_neg (by omega), if_pos c5]
      rw [up]
      refine f_mr_of H4 _ (f_m_pen (d := d) M i (t_va t L (t_E t L s)) c5 w0 w1) ?_ ?_ ?_ f8.1 f8.2
      · show F_n (f_upd i (t_va t L (t_E t L s)) d).1 ≤ 6
        unfold f_upd
        rw [if_neg (by omega), if_neg (by omega), if_neg (by omega), if_pos c5]
        exact m6
      · rw [X]; exact f_gr _ _ x8 (by omega)
      · rw [Y]; exact f_gr _ _ y8 (by omega)
theorem m_fl_d {t : Nat → Nat} {L : Nat} {g h : am_H} {s : Nat} {q : Nat × Nat} (H : m_st t L g h s q s) (hs : s < L) (G : h.1 211 23 = 1) (d : f_D) (R : q.1 = 0 → f_mr h d) (Rw : f_mw h) (i : Nat) (hi : i < 18) (is : ln_s i = 0) (c7 : ln_c i = 7) (ek : ln_k i = 6582119) : m_lr f_mr f_mw f_full f_upd t L g 177 (ln_k i) h s q d i := by
  obtain ⟨n, n6, e7⟩ := Rw
  obtain ⟨r0, r1⟩ := f_c99 i hi is (by omega)
  have r2 := f_r7 i hi is c7
  have ln3 : (ln_r i).length = 3 := by rw [f_len i hi is, if_pos c7]
  have kb := (f_kb i hi is).2 (by omega)
  rw [ek] at kb
  have cS : (lg_cmp (lN 6582119) 1936292453 = 0) = False := eq_false (by decide)
  have cD : (lg_cmp (lN 6582119) 6582119 = 0) = True := eq_true (by decide)
  have cW : (lg_cmp (lN 6582119) 2002873452 = 0) = False := eq_false (by decide)
  have cP : (lg_cmp (lN 6582119) 7365998 = 0) = False := eq_false (by decide)
  have o0 : (0 : Int32) = 0 ∨ (0 : Int32) = 1 := Or.inl rfl
  have o1 : (1 : Int32) = 0 ∨ (1 : Int32) = 1 := Or.inr rfl
  have y : ¬ (1 : Int32) = 0 := by decide
  obtain ⟨h1, s1, H1⟩ := m_fl_0 H hs G 6582119 (by decide) kb (Or.inr (Or.inr (Or.inr (by decide)))) (ln_r i)
  have ok1 := H1.1.1.1
  have C := m_cell H1 r0 r1
  have fb : t_fb t L (t_E t L s) 3 0 = match t_fb t L (t_E t L s) 2 0 with
      | some p => some p
      | none => if t_K t L (t_nx t L (t_E t L s) 2) = 3 then none else some (t_nx t L (t_E t L s) 2) := by
    show (if t_K t L (t_nx t L (t_E t L s) 0) = 3 then (if t_K t L (t_nx t L (t_E t L s) 1) = 3 then (if t_K t L (t_nx t L (t_E t L s) 2) = 3 then none else some (t_nx t L (t_E t L s) 2)) else some (t_nx t L (t_E t L s) 1)) else some (t_nx t L (t_E t L s) 0) : Option Nat) = match (if t_K t L (t_nx t L (t_E t L s) 0) = 3 then (if t_K t L (t_nx t L (t_E t L s) 1) = 3 then none else some (t_nx t L (t_E t L s) 1)) else some (t_nx t L (t_E t L s) 0) : Option Nat) with
      | some p => some p
      | none => if t_K t L (t_nx t L (t_E t L s) 2) = 3 then none else some (t_nx t L (t_E t L s) 2)
    by_cases k0 : t_K t L (t_nx t L (t_E t L s) 0) = 3
    · rw [if_pos k0, if_pos k0]
      by_cases k1 : t_K t L (t_nx t L (t_E t L s) 1) = 3
      · rw [if_pos k1, if_pos k1]
      · rw [if_neg k1, if_neg k1]
    · rw [if_neg k0, if_neg k0]
  unfold m_lr
  rw [ln3, ek, f_nofull d (by omega), fb]
  revert C
  cases t_fb t L (t_E t L s) 2 0 with
  | some p =>
    rintro ⟨h2, d2, b2⟩
    refine ⟨h2, ?_, b2⟩
    show am_ev 177 0 [some (.ref 211), some (.long (lN 6582119)), some (.retAddr 0), some (.int (nI s)), none, none] [] h = _
    rw [s1]
    simp only [e177_0, e177_1, e177_4, e177_6, e177_8, e177_9, e177_12, e177_13, e177_16, e177_17, e177_20, e177_21, e177_24, e177_25, e177_28, e177_29, e177_32, e177_33, e177_36, e177_37, e177_40, e177_41, e177_44, e177_45, e177_48, e177_49, e177_51, e177_52, e177_55, e177_56, e177_58, e177_60, e177_61, e177_64, e177_65, e177_68, e177_70, e177_71, e177_74, e177_75, e177_77, e177_80, e177_81, e177_82, e177_85, e177_86, e177_89, e177_90, e177_91, e177_92, e177_94, e177_97, e177_100, e177_101, e177_102, e177_103, e177_105, e177_108, e177_111, e177_114, e177_115, e177_116, e177_119, e177_122, e177_123, e177_124, e177_125, e177_128, e177_129, e177_132, e177_133, e177_134, e177_135, e177_137, e177_140, e177_143, e177_144, e177_145, e177_146, e177_149, e177_151, e177_152, e177_155, e177_156, e177_157, e177_158, e177_159, e177_162, e177_163, e177_166, e177_167, e177_170, e177_172, e177_173, e177_176, e177_179, e177_180, e177_183, e177_184, e177_185, e177_188, e177_189, e177_190, e177_191, e177_192, e177_193, e177_196, e177_199, e177_200, e177_201, e177_204, e177_205, e177_206, e177_207, e177_210, e177_211, e177_212, e177_213, e177_214, e177_215, e177_216, e177_219, e177_220, e177_223, e177_224, e177_227, e177_228, e177_231, e177_232, e177_235, e177_236, e177_239, e177_240, e177_242, e177_243, e177_246, e177_248, e177_249, e177_252, e177_253, e177_254, e177_255, e177_256, e177_259, e177_261, e177_262, e177_263, e177_264, e177_267, e177_268, e177_269, e177_270, e177_271, am_bd_some, Option.toList_some, Option.toList_none, List.cons_append, List.nil_append, am_w8_0, am_w8_1, am_w8_2, am_w8_3, am_w8_4, eq_self, or_true, true_or, am_kd_sI, am_kd_sL, am_kd_sR, am_tc_sI, am_tc_sL, am_tc_sR, am_len_sI, am_len_sL, am_len_sR, am_rfs, if_true, if_false, am_rdL_sI, am_rR_sL, am_rt_cq, am_kd_cq, am_tc_cq, am_len_cq, am_rd_sL, am_rd_sR, am_rdL_sR, cS, cD, cW, not_true, not_false_eq_true, okK_211 ok1, d2, o0]
  | none =>
    rintro ⟨h2, d2, H2⟩
    have ok2 := H2.1.1.1
    obtain ⟨A2, B2⟩ := m_nu H2 (by decide) 1 9 (-1) (by decide) (by decide) (fun c => r_e r2 (t_v_lt c))
    show (match (if t_K t L (t_nx t L (t_E t L s) 2) = 3 then none else some (t_nx t L (t_E t L s) 2) : Option Nat) with
      | some p => _
      | none => _)
    by_cases k2 : t_K t L (t_nx t L (t_E t L s) 2) = 3
    · rw [if_pos k2]
      obtain ⟨h3, d3, H3, -⟩ := B2 k2
      have ok3 := H3.1.1.1
      have d3' := den_take h2 ok2 2 1 9 1 h3 d3 o1
      have N2 : h3.1 222 2 = nI (t_va t L (t_E t L s) 2) := (H3.2.1 2 (by decide)).2
      have x2 : am_ix 2 6 = true := by decide
      have z2 : (2 : Int32).toNatClampNeg = 2 := rfl
      have x6 : am_ix 6 81 = true := by decide
      have z6 : (6 : Int32).toNatClampNeg = 6 := rfl
      have H5 := H3.w 6 (nI (t_va t L (t_E t L s) 2))
      obtain ⟨h4, s4, H4⟩ := m_fl_t H5 (by decide) 6582119 s 4 (by decide)
      refine ⟨h4, ?_, H4.1, fun z => ?_, f_mw_of H4 n6 e7⟩
      · show am_ev 177 0 [some (.ref 211), some (.long (lN 6582119)), some (.retAddr 0), some (.int (nI s)), none, none] [] h = _
        rw [s1, ← s4]
        simp only [e177_0, e177_1, e177_4, e177_6, e177_8, e177_9, e177_12, e177_13, e177_16, e177_17, e177_20, e177_21, e177_24, e177_25, e177_28, e177_29, e177_32, e177_33, e177_36, e177_37, e177_40, e177_41, e177_44, e177_45, e177_48, e177_49, e177_51, e177_52, e177_55, e177_56, e177_58, e177_60, e177_61, e177_64, e177_65, e177_68, e177_70, e177_71, e177_74, e177_75, e177_77, e177_80, e177_81, e177_82, e177_85, e177_86, e177_89, e177_90, e177_91, e177_92, e177_94, e177_97, e177_100, e177_101, e177_102, e177_103, e177_105, e177_108, e177_111, e177_114, e177_115, e177_116, e177_119, e177_122, e177_123, e177_124, e177_125, e177_128, e177_129, e177_132, e177_133, e177_134, e177_135, e177_137, e177_140, e177_143, e177_144, e177_145, e177_146, e177_149, e177_151, e177_152, e177_155, e177_156, e177_157, e177_158, e177_159, e177_162, e177_163, e177_166, e177_167, e177_170, e177_172, e177_173, e177_176, e177_179, e177_180, e177_183, e177_184, e177_185, e177_188, e177_189, e177_190, e177_191, e177_192, e177_193, e177_196, e177_199, e177_200, e177_201, e177_204, e177_205, e177_206, e177_207, e177_210, e177_211, e177_212, e177_213, e177_214, e177_215, e177_216, e177_219, e177_220, e177_223, e177_224, e177_227, e177_228, e177_231, e177_232, e177_235, e177_236, e177_239, e177_240, e177_243, e177_246, e177_248, e177_249, e177_252, e177_253, e177_254, e177_255, e177_256, e177_259, e177_261, e177_262, e177_263, e177_264, e177_267, e177_268, e177_269, e177_270, e177_271, am_bd_some, Option.toList_some, Option.toList_none, List.cons_append, List.nil_append, am_w8_0, am_w8_1, am_w8_2, am_w8_3, am_w8_4, eq_self, or_true, true_or, am_kd_sI, am_kd_sL, am_kd_sR, am_tc_sI, am_tc_sL, am_tc_sR, am_len_sI, am_len_sL, am_len_sR, am_rfs, if_true, if_false, am_rdL_sI, am_rR_sL, am_rt_cq, am_kd_cq, am_tc_cq, am_len_cq, am_rd_sL, am_rd_sR, am_rdL_sR, cS, cD, cW, cP, not_true, not_false_eq_true, okK_211 ok1, d2, y, okK_211 ok2, d3', okK_211 ok3, okR_211_19 ok3, okR_211_20 ok3, okT_221 ok3, okL_221 ok3, okT_222 ok3, okL_222 ok3, x2, z2, N2, x6, z6]
        rfl
      · obtain ⟨z1, -, z3⟩ := t_rq_0 z
        obtain ⟨M, m6, X, Y, x8, y8⟩ := R z1
        obtain ⟨w0, w1⟩ := f_c8v r0 r1 (by decide) z3
        have f8 := f_far8 x8 y8 w0 w1
        have up : f_upd i (t_va t L (t_E t L s)) d = ((f_upd i (t_va t L (t_E t L s)) d).1, f_far (t_va t L (t_E t L s)) d) := by
          unfold f_upd
          rw [if_neg (by omega), if_neg (by omega), if_neg (by omega), if_neg (by omega)]
        rw [up]
        refine f_mr_of H4 _ (f_m_dog (d := d) M i (t_va t L (t_E t L s)) c7 w0 w1) ?_ ?_ ?_ f8.1 f8.2
        · show F_n (f_upd i (t_va t L (t_E t L s)) d).1 ≤ 6
          unfold f_upd
          rw [if_neg (by omega), if_neg (by omega), if_neg (by omega), if_neg (by omega)]
          exact m6
        · rw [X]; exact f_gr _ _ x8 (by omega)
        · rw [Y]; exact f_gr _ _ y8 (by omega)
    · rw [if_neg k2]
      obtain ⟨h3, d3, b3⟩ := A2 k2
      have d3' := den_take h2 ok2 2 1 9 0 h3 d3 o0
      refine ⟨h3, ?_, b3⟩
      show am_ev 177 0 [some (.ref 211), some (.long (lN 6582119)), some (.retAddr 0), some (.int (nI s)), none, none] [] h = _
      rw [s1]
      simp only [e177_0, e177_1, e177_4, e177_6, e177_8, e177_9, e177_12, e177_13, e177_16, e177_17, e177_20, e177_21, e177_24, e177_25, e177_28, e177_29, e177_32, e177_33, e177_36, e177_37, e177_40, e177_41, e177_44, e177_45, e177_48, e177_49, e177_51, e177_52, e177_55, e177_56, e177_58, e177_60, e177_61, e177_64, e177_65, e177_68, e177_70, e177_71, e177_74, e177_75, e177_77, e177_80, e177_81, e177_82, e177_85, e177_86, e177_89, e177_90, e177_91, e177_92, e177_94, e177_97, e177_100, e177_101, e177_102, e177_103, e177_105, e177_108, e177_111, e177_114, e177_115, e177_116, e177_119, e177_122, e177_123, e177_124, e177_125, e177_128, e177_129, e177_132, e177_133, e177_134, e177_135, e177_137, e177_140, e177_143, e177_144, e177_145, e177_146, e177_149, e177_151, e177_152, e177_155, e177_156, e177_157, e177_158, e177_159, e177_162, e177_163, e177_166, e177_167, e177_170, e177_172, e177_173, e177_176, e177_179, e177_180, e177_183, e177_184, e177_185, e177_188, e177_189, e177_190, e177_191, e177_192, e177_193, e177_196, e177_199, e177_200, e177_201, e177_204, e177_205, e177_206, e177_207, e177_210, e177_211, e177_212, e177_213, e177_214, e177_215, e177_216, e177_219, e177_220, e177_223, e177_224, e177_227, e177_228, e177_231, e177_232, e177_235, e177_236, e177_239, e177_240, e177_242, e177_243, e177_246, e177_248, e177_249, e177_252, e177_253, e177_254, e177_255, e177_256, e177_259, e177_261, e177_262, e177_263, e177_264, e177_267, e177_268, e177_269, e177_270, e177_271, am_bd_some, Option.toList_some, Option.toList_none, List.cons_append, List.nil_append, am_w8_0, am_w8_1, am_w8_2, am_w8_3, am_w8_4, eq_self, or_true, true_or, am_kd_sI, am_kd_sL, am_kd_sR, am_tc_sI, am_tc_sL, am_tc_sR, am_len_sI, am_len_sL, am_len_sR, am_rfs, if_true, if_false, am_rdL_sI, am_rR_sL, am_rt_cq, am_kd_cq, am_tc_cq, am_len_cq, am_rd_sL, am_rd_sR, am_rdL_sR, cS, cD, cW, not_true, not_false_eq_true, okK_211 ok1, d2, y, okK_211 ok2, d3', o0]
theorem m_fl_w {t : Nat → Nat} {L : Nat} {g h : am_H} {s : Nat} {q : Nat × Nat} (H : m_st t L g h s q s) (hs : s < L) (G : h.1 211 23 = 1) (d : f_D) (R : q.1 = 0 → f_mr h d) (Rw : f_mw h) (i : Nat) (hi : i < 18) (is : ln_s i = 0) (c4 : ln_c i = 4) (ek : ln_k i = 2002873452) : m_lr f_mr f_mw f_full f_upd t L g 177 (ln_k i) h s q d i := by
  obtain ⟨n, n6, e7⟩ := Rw
  obtain ⟨r0, r1⟩ := f_c99 i hi is (by omega)
  have ln2 : (ln_r i).length = 2 := by rw [f_len i hi is, if_neg (by omega)]
  have kb := (f_kb i hi is).2 (by omega)
  rw [ek] at kb
  have cS : (lg_cmp (lN 2002873452) 1936292453 = 0) = False := eq_false (by decide)
  have cD : (lg_cmp (lN 2002873452) 6582119 = 0) = False := eq_false (by decide)
  have cW : (lg_cmp (lN 2002873452) 2002873452 = 0) = True := eq_true (by decide)
  have o0 : (0 : Int32) = 0 ∨ (0 : Int32) = 1 := Or.inl rfl
  have o1 : (1 : Int32) = 0 ∨ (1 : Int32) = 1 := Or.inr rfl
  have y : ¬ (1 : Int32) = 0 := by decide
  obtain ⟨h1, s1, H1⟩ := m_fl_0 H hs G 2002873452 (by decide) kb (Or.inr (Or.inl (by decide))) (ln_r i)
  have ok1 := H1.1.1.1
  have C := m_cell H1 r0 r1
  unfold m_lr
  rw [ln2, ek, f_nofull d (by omega)]
  revert C
  cases t_fb t L (t_E t L s) 2 0 with
  | some p =>
    rintro ⟨h2, d2, b2⟩
    refine ⟨h2, ?_, b2⟩
    show am_ev 177 0 [some (.ref 211), some (.long (lN 2002873452)), some (.retAddr 0), some (.int (nI s)), none, none] [] h = _
    rw [s1]
    simp only [e177_0, e177_1, e177_4, e177_6, e177_8, e177_9, e177_12, e177_13, e177_16, e177_17, e177_20, e177_21, e177_24, e177_25, e177_28, e177_29, e177_32, e177_33, e177_36, e177_37, e177_40, e177_41, e177_44, e177_45, e177_48, e177_49, e177_51, e177_52, e177_55, e177_56, e177_58, e177_60, e177_61, e177_64, e177_65, e177_68, e177_70, e177_71, e177_74, e177_75, e177_77, e177_80, e177_81, e177_82, e177_85, e177_86, e177_89, e177_90, e177_91, e177_92, e177_94, e177_97, e177_100, e177_101, e177_102, e177_103, e177_105, e177_108, e177_111, e177_114, e177_115, e177_116, e177_119, e177_122, e177_123, e177_124, e177_125, e177_128, e177_129, e177_132, e177_133, e177_134, e177_135, e177_137, e177_140, e177_143, e177_144, e177_145, e177_146, e177_149, e177_151, e177_152, e177_155, e177_156, e177_157, e177_158, e177_159, e177_162, e177_163, e177_166, e177_167, e177_170, e177_172, e177_173, e177_176, e177_179, e177_180, e177_183, e177_184, e177_185, e177_188, e177_189, e177_190, e177_191, e177_192, e177_193, e177_196, e177_199, e177_200, e177_201, e177_204, e177_205, e177_206, e177_207, e177_210, e177_211, e177_212, e177_213, e177_214, e177_215, e177_216, e177_219, e177_220, e177_223, e177_224, e177_227, e177_228, e177_231, e177_232, e177_235, e177_236, e177_239, e177_240, e177_242, e177_243, e177_246, e177_248, e177_249, e177_252, e177_253, e177_254, e177_255, e177_256, e177_259, e177_261, e177_262, e177_263, e177_264, e177_267, e177_268, e177_269, e177_270, e177_271, am_bd_some, Option.toList_some, Option.toList_none, List.cons_append, List.nil_append, am_w8_0, am_w8_1, am_w8_2, am_w8_3, am_w8_4, eq_self, or_true, true_or, am_kd_sI, am_kd_sL, am_kd_sR, am_tc_sI, am_tc_sL, am_tc_sR, am_len_sI, am_len_sL, am_len_sR, am_rfs, if_true, if_false, am_rdL_sI, am_rR_sL, am_rt_cq, am_kd_cq, am_tc_cq, am_len_cq, am_rd_sL, am_rd_sR, am_rdL_sR, cS, cD, cW, not_true, not_false_eq_true, okK_211 ok1, d2, o0]
  | none =>
    rintro ⟨h2, d2, H2⟩
    have ok2 := H2.1.1.1
    have N0 : h2.1 222 0 = nI (t_va t L (t_E t L s) 0) := (H2.2.1 0 (by decide)).2
    have N1 : h2.1 222 1 = nI (t_va t L (t_E t L s) 1) := (H2.2.1 1 (by decide)).2
    have G2 := H2.2.2.1
    have E2 := H2.2.2.2.1
    have x0 : am_ix 0 6 = true := by decide
    have x1 : am_ix 1 6 = true := by decide
    have z0 : (0 : Int32).toNatClampNeg = 0 := rfl
    have z1 : (1 : Int32).toNatClampNeg = 1 := rfl
    cases ga : t_ac (ln_r i) (t_va t L (t_E t L s)) 2 with
    | true =>
      rw [ga] at G2
      have G2' : h2.1 211 23 = 1 := G2
      have z3 := (t_ac_iff _ _ _).mp ga
      obtain ⟨w0, w1⟩ := f_c8v r0 r1 (Nat.le_refl _) z3
      have a26 : (26 : Int32) + nI (t_va t L (t_E t L s) 1) = nI (26 + t_va t L (t_E t L s) 1) := nI_add 26 _
      have i26 : am_ix (nI (26 + t_va t L (t_E t L s) 1)) 81 = true := am_ix_nI (by omega) (by decide)
      have q26 : (nI (26 + t_va t L (t_E t L s) 1)).toNatClampNeg = 26 + t_va t L (t_E t L s) 1 := nI_clamp (by omega)
      have H4 := H2.w (26 + t_va t L (t_E t L s) 1) (h2.1 221 (26 + t_va t L (t_E t L s) 1) ||| ((1 : Int32) <<< (nI (t_va t L (t_E t L s) 0) &&& 31)))
      refine ⟨_, ?_, H4.1, fun z => ?_, f_mw_of H4 n6 (by rw [if_neg (by omega)]; exact e7)⟩
      · show am_ev 177 0 [some (.ref 211), some (.long (lN 2002873452)), some (.retAddr 0), some (.int (nI s)), none, none] [] h = _
        rw [s1]
        simp only [e177_0, e177_1, e177_4, e177_6, e177_8, e177_9, e177_12, e177_13, e177_16, e177_17, e177_20, e177_21, e177_24, e177_25, e177_28, e177_29, e177_32, e177_33, e177_36, e177_37, e177_40, e177_41, e177_44, e177_45, e177_48, e177_49, e177_51, e177_52, e177_55, e177_56, e177_58, e177_60, e177_61, e177_64, e177_65, e177_68, e177_70, e177_71, e177_74, e177_75, e177_77, e177_80, e177_81, e177_82, e177_85, e177_86, e177_89, e177_90, e177_91, e177_92, e177_94, e177_97, e177_100, e177_101, e177_102, e177_103, e177_105, e177_108, e177_111, e177_114, e177_115, e177_116, e177_119, e177_122, e177_123, e177_124, e177_125, e177_128, e177_129, e177_132, e177_133, e177_134, e177_135, e177_137, e177_140, e177_143, e177_144, e177_145, e177_146, e177_149, e177_151, e177_152, e177_155, e177_156, e177_157, e177_158, e177_159, e177_162, e177_163, e177_166, e177_167, e177_170, e177_172, e177_173, e177_176, e177_179, e177_180, e177_183, e177_184, e177_185, e177_188, e177_189, e177_190, e177_191, e177_192, e177_193, e177_196, e177_199, e177_200, e177_201, e177_204, e177_205, e177_206, e177_207, e177_210, e177_211, e177_212, e177_213, e177_214, e177_215, e177_216, e177_219, e177_220, e177_223, e177_224, e177_227, e177_228, e177_231, e177_232, e177_235, e177_236, e177_239, e177_240, e177_242, e177_243, e177_246, e177_248, e177_249, e177_252, e177_253, e177_254, e177_255, e177_256, e177_259, e177_261, e177_262, e177_263, e177_264, e177_267, e177_268, e177_269, e177_270, e177_271, am_bd_some, Option.toList_some, Option.toList_none, List.cons_append, List.nil_append, am_w8_0, am_w8_1, am_w8_2, am_w8_3, am_w8_4, eq_self, or_true, true_or, am_kd_sI, am_kd_sL, am_kd_sR, am_tc_sI, am_tc_sL, am_tc_sR, am_len_sI, am_len_sL, am_len_sR, am_rfs, if_true, if_false, am_rdL_sI, am_rR_sL, am_rt_cq, am_kd_cq, am_tc_cq, am_len_cq, am_rd_sL, am_rd_sR, am_rdL_sR, cS, cD, cW, not_true, not_false_eq_true, okK_211 ok1, d2, y, okK_211 ok2, G2', okR_211_19 ok2, okR_211_20 ok2, okT_221 ok2, okL_221 ok2, okT_222 ok2, okL_222 ok2, x0, x1, z0, z1, N0, N1, a26, i26, q26, o1]
      · obtain ⟨z1, -, -⟩ := t_rq_0 z
        obtain ⟨M, m6, X, Y, x8, y8⟩ := R z1
        have f8 := f_far8 x8 y8 w0 w1
        have up : f_upd i (t_va t L (t_E t L s)) d = ((f_upd i (t_va t L (t_E t L s)) d).1, f_far (t_va t L (t_E t L s)) d) := by
          unfold f_upd
          rw [if_neg (by omega), if_neg (by omega), if_pos c4]
        have M2 := f_m_wall (d := d) M m6 i (t_va t L (t_E t L s)) c4 w0 w1
        rw [up]
        refine f_mr_of H4 _ ?_ ?_ ?_ ?_ f8.1 f8.2
        · rw [E2]; exact M2
        · show F_n (f_upd i (t_va t L (t_E t L s)) d).1 ≤ 6
          unfold f_upd
          rw [if_neg (by omega), if_neg (by omega), if_pos c4]
          exact m6
        · rw [X]; exact f_gr _ _ x8 (by omega)
        · rw [Y]; exact f_gr _ _ y8 (by omega)
    | false =>
      rw [ga] at G2
      have G2' : h2.1 211 23 = 0 := G2
      have a26 : (26 : Int32) + 0 = 26 := by decide
      have i26 : am_ix 26 81 = true := by decide
      have q26 : (26 : Int32).toNatClampNeg = 26 := rfl
      have H4 := H2.w 26 (h2.1 221 26 ||| 0)
      refine ⟨_, ?_, H4.1, fun z => ?_, f_mw_of H4 n6 (by rw [if_neg (by decide)]; exact e7)⟩
      · show am_ev 177 0 [some (.ref 211), some (.long (lN 2002873452)), some (.retAddr 0), some (.int (nI s)), none, none] [] h = _
        rw [s1]
        simp only [e177_0, e177_1, e177_4, e177_6, e177_8, e177_9, e177_12, e177_13, e177_16, e177_17, e177_20, e177_21, e177_24, e177_25, e177_28, e177_29, e177_32, e177_33, e177_36, e177_37, e177_40, e177_41, e177_44, e177_45, e177_48, e177_49, e177_51, e177_52, e177_55, e177_56, e177_58, e177_60, e177_61, e177_64, e177_65, e177_68, e177_70, e177_71, e177_74, e177_75, e177_77, e177_80, e177_81, e177_82, e177_85, e177_86, e177_89, e177_90, e177_91, e177_92, e177_94, e177_97, e177_100, e177_101, e177_102, e177_103, e177_105, e177_108, e177_111, e177_114, e177_115, e177_116, e177_119, e177_122, e177_123, e177_124, e177_125, e177_128, e177_129, e177_132, e177_133, e177_134, e177_135, e177_137, e177_140, e177_143, e177_144, e177_145, e177_146, e177_149, e177_151, e177_152, e177_155, e177_156, e177_157, e177_158, e177_159, e177_162, e177_163, e177_166, e177_167, e177_170, e177_172, e177_173, e177_176, e177_179, e177_180, e177_183, e177_184, e177_185, e177_188, e177_189, e177_190, e177_191, e177_192, e177_193, e177_196, e177_199, e177_200, e177_201, e177_204, e177_205, e177_206, e177_207, e177_210, e177_211, e177_212, e177_213, e177_214, e177_215, e177_216, e177_219, e177_220, e177_223, e177_224, e177_227, e177_228, e177_231, e177_232, e177_235, e177_236, e177_239, e177_240, e177_242, e177_243, e177_246, e177_248, e177_249, e177_252, e177_253, e177_254, e177_255, e177_256, e177_259, e177_261, e177_262, e177_263, e177_264, e177_267, e177_268, e177_269, e177_270, e177_271, am_bd_some, Option.toList_some, Option.toList_none, List.cons_append, List.nil_append, am_w8_0, am_w8_1, am_w8_2, am_w8_3, am_w8_4, eq_self, or_true, true_or, am_kd_sI, am_kd_sL, am_kd_sR, am_tc_sI, am_tc_sL, am_tc_sR, am_len_sI, am_len_sL, am_len_sR, am_rfs, if_true, if_false, am_rdL_sI, am_rR_sL, am_rt_cq, am_kd_cq, am_tc_cq, am_len_cq, am_rd_sL, am_rd_sR, am_rdL_sR, cS, cD, cW, not_true, not_false_eq_true, okK_211 ok1, d2, y, okK_211 ok2, G2', okR_211_19 ok2, okR_211_20 ok2, okT_221 ok2, okL_221 ok2, a26, i26, q26, o1]
      · obtain ⟨-, -, z3⟩ := t_rq_0 z
        rw [(t_ac_iff _ _ _).mpr z3] at ga
        cases ga
theorem m_fl {t : Nat → Nat} {L : Nat} {g h : am_H} {s : Nat} {q : Nat × Nat} (H : m_st t L g h s q s) (hs : s < L) (G : h.1 211 23 = 1) (d : f_D) (R : q.1 = 0 → f_mr h d) (Rw : f_mw h) (i : Nat) (hi : i < 18) (is : ln_s i = 0) : m_lr f_mr f_mw f_full f_upd t L g 177 (ln_k i) h s q d i := by
  by_cases ib : ln_c i < 4
  · exact m_fl_b H hs G d R Rw i hi is ib
  · rcases f_ks i hi is ib with ⟨c, e⟩ | ⟨c, e⟩ | ⟨c, e⟩ | ⟨c, e⟩
    · exact m_fl_s H hs G d R Rw i hi is c e
    · exact m_fl_w H hs G d R Rw i hi is c e
    · exact m_fl_p H hs G d R Rw i hi is c e
    · exact m_fl_d H hs G d R Rw i hi is c e
