/-! part A1: the reference reads a line of a fell -/
/-- what a line comes to in the reference -/
def m_lr {D : Type} (mr : am_H → D → Prop) (mw : am_H → Prop) (full : Nat → D → Bool) (upd : Nat → (Nat → Nat) → D → D) (t : Nat → Nat) (L : Nat) (g : am_H) (k W : Nat) (h : am_H) (s : Nat) (q : Nat × Nat) (d : D) (i : Nat) : Prop :=
  match t_fb t L (t_E t L s) (ln_r i).length 0 with
  | some p => ∃ h' : am_H, am_den k [.ref 211, .long (lN W), .int (nI s)] h = some (some (.int 0), h') ∧ m_bk g h' p
  | none => ∃ h' : am_H, am_den k [.ref 211, .long (lN W), .int (nI s)] h = some (some (.int 1), h') ∧ m_st t L g h' (t_nx t L (t_E t L s) (ln_r i).length) (t_rq (ln_r i) (t_va t L (t_E t L s)) (t_nx t L (t_E t L s)) (ln_r i).length (if full i d = true then t_nt q 3 s else q)) (t_nx t L (t_E t L s) (ln_r i).length) ∧ ((t_rq (ln_r i) (t_va t L (t_E t L s)) (t_nx t L (t_E t L s)) (ln_r i).length (if full i d = true then t_nt q 3 s else q)).1 = 0 → mr h' (upd i (t_va t L (t_E t L s)) d)) ∧ mw h'
theorem f_kb : ∀ i, i < 18 → ln_s i = 0 → (ln_c i < 4 → m_kb (ln_k i) = nI (ln_c i)) ∧ (¬ ln_c i < 4 → m_kb (ln_k i) = -1) := by decide +kernel
theorem f_c99 : ∀ i, i < 18 → ln_s i = 0 → ln_c i ≠ 6 → (ln_r i).getD 0 0 = 99 ∧ (ln_r i).getD 1 0 = 99 := by decide +kernel
theorem f_mr_of {t : Nat → Nat} {L : Nat} {g : am_H} {e : Nat} {r : List Nat} {q1 : Nat × Nat} {off : Nat} {T : Nat → Int32} {fx fy : Int32} {h : am_H} {i : Nat} (H : m_nm t L g e r q1 off T fx fy h i) (d : f_D) (M : f_mm T d.1) (n6 : F_n d.1 ≤ 6) (X : fx = f_fx d.2.1) (Y : fy = f_fx d.2.2) (x8 : d.2.1 ≤ 8) (y8 : d.2.2 ≤ 8) : f_mr h d := by
  obtain ⟨S, N, G, E, X', Y'⟩ := H
  have e : (fun k => h.1 221 k) = T := funext E
  exact ⟨by rw [e]; exact M, n6, X'.trans X, Y'.trans Y, x8, y8⟩
theorem f_far8 {v : Nat → Nat} {d : f_D} (x8 : d.2.1 ≤ 8) (y8 : d.2.2 ≤ 8) (h0 : v 0 < 8) (h1 : v 1 < 8) : (f_far v d).1 ≤ 8 ∧ (f_far v d).2 ≤ 8 := ⟨Nat.max_le.mpr ⟨x8, by omega⟩, Nat.max_le.mpr ⟨y8, by omega⟩⟩
theorem m_fl_b {t : Nat → Nat} {L : Nat} {g h : am_H} {s : Nat} {q : Nat × Nat} (H : m_st t L g h s q s) (hs : s < L) (G : h.1 211 23 = 1) (d : f_D) (R : q.1 = 0 → f_mr h d) (Rw : f_mw h) (i : Nat) (hi : i < 18) (is : ln_s i = 0) (ib : ln_c i < 4) : m_lr f_mr f_mw f_full f_upd t L g 177 (ln_k i) h s q d i := by
  have ok := H.1.1
  obtain ⟨n, n6, e7⟩ := Rw
  have kb := (f_kb i hi is).1 ib
  obtain ⟨r0, r1⟩ := f_c99 i hi is (by omega)
  have ln2 : (ln_r i).length = 2 := by rw [f_len i hi is, if_neg (by omega)]
  have nm : ¬ nI (ln_c i) = -1 := q_m1_n _ (by omega)
  have fi : q.1 = 0 → F_n d.1 = n := fun w => by
    have := (R w).1.2.2.2.2.1
    have n6' := (R w).2.1
    exact (nI_eq (by omega) (by omega)).mp (this.symm.trans e7)
  obtain ⟨h1, d1, S1, a1, a2, a3⟩ := m_full H 7 6 n (by decide) (by decide) n6 e7 (f_full i d) (fun w => by
    have := fi w
    unfold f_full
    rw [decide_eq_true_eq]
    omega)
  have ok1 := S1.1.1
  obtain ⟨h2, d2, H2, -⟩ := m_beg S1 hs ((a3 23 (by decide)).trans G) (ln_r i) 0
  have ok2 := H2.1.1.1
  have B := m_beast H2 r0 r1 n n6 ((a1 7).trans e7) (nI (ln_c i))
  have d1' : am_den 180 [.ref 211, .int 7, .int 6, .int (nI s)] h = some (none, h1) := d1
  have dk := den_kindBy (ln_k i) (ln_wk hi).2.2.2.2 h
  rw [kb] at dk
  have s1 : am_ev 177 0 [some (.ref 211), some (.long (lN (ln_k i))), some (.retAddr 0), some (.int (nI s)), none, none] [] h = am_ev 177 68 [some (.ref 211), some (.long (lN (ln_k i))), some (.retAddr 0), some (.int (nI s)), some (.int (nI (ln_c i))), none] [] h2 := by
    simp only [e177_0, e177_1, e177_4, e177_6, e177_8, e177_9, e177_12, e177_13, e177_16, e177_17, e177_20, e177_21, e177_24, e177_25, e177_28, e177_29, e177_32, e177_33, e177_36, e177_37, e177_40, e177_41, e177_44, e177_45, e177_48, e177_49, e177_51, e177_52, e177_55, e177_56, e177_58, e177_60, e177_61, e177_64, e177_65, e177_70, e177_71, e177_74, e177_75, e177_77, e177_80, e177_81, e177_82, e177_85, e177_86, e177_89, e177_90, e177_91, e177_92, e177_94, e177_97, e177_100, e177_101, e177_102, e177_103, e177_105, e177_108, e177_111, e177_114, e177_115, e177_116, e177_119, e177_122, e177_123, e177_124, e177_125, e177_128, e177_129, e177_132, e177_133, e177_134, e177_135, e177_137, e177_140, e177_143, e177_144, e177_145, e177_146, e177_149, e177_151, e177_152, e177_155, e177_156, e177_157, e177_158, e177_159, e177_162, e177_163, e177_166, e177_167, e177_170, e177_172, e177_173, e177_176, e177_179, e177_180, e177_183, e177_184, e177_185, e177_188, e177_189, e177_190, e177_191, e177_192, e177_193, e177_196, e177_199, e177_200, e177_201, e177_204, e177_205, e177_206, e177_207, e177_210, e177_211, e177_212, e177_213, e177_214, e177_215, e177_216, e177_219, e177_220, e177_223, e177_224, e177_227, e177_228, e177_231, e177_232, e177_235, e177_236, e177_239, e177_240, e177_242, e177_243, e177_246, e177_248, e177_249, e177_252, e177_253, e177_254, e177_255, e177_256, e177_259, e177_261, e177_262, e177_263, e177_264, e177_267, e177_268, e177_269, e177_270, e177_271, am_bd_some, Option.toList_some, Option.toList_none, List.cons_append, List.nil_append, am_w8_0, am_w8_1, am_w8_2, am_w8_3, am_w8_4, eq_self, or_true, true_or, am_kd_sI, am_kd_sL, am_kd_sR, am_tc_sI, am_tc_sL, am_tc_sR, am_len_sI, am_len_sL, am_len_sR, am_rfs, if_true, if_false, am_rdL_sI, am_rR_sL, am_rt_cq, am_kd_cq, am_tc_cq, am_len_cq, am_rd_sL, am_rd_sR, am_rdL_sR, dk, nm, not_false_eq_true, okK_211 ok, d1', okK_211 ok1, d2]
  have o0 : (0 : Int32) = 0 ∨ (0 : Int32) = 1 := Or.inl rfl
  have o1 : (1 : Int32) = 0 ∨ (1 : Int32) = 1 := Or.inr rfl
  unfold m_lr
  rw [ln2]
  revert B
  cases t_fb t L (t_E t L s) 2 0 with
  | some p =>
    rintro ⟨h3, d3, b3⟩
    refine ⟨h3, ?_, b3⟩
    show am_ev 177 0 [some (.ref 211), some (.long (lN (ln_k i))), some (.retAddr 0), some (.int (nI s)), none, none] [] h = _
    rw [s1]
    simp only [e177_0, e177_1, e177_4, e177_6, e177_8, e177_9, e177_12, e177_13, e177_16, e177_17, e177_20, e177_21, e177_24, e177_25, e177_28, e177_29, e177_32, e177_33, e177_36, e177_37, e177_40, e177_41, e177_44, e177_45, e177_48, e177_49, e177_51, e177_52, e177_55, e177_56, e177_58, e177_60, e177_61, e177_64, e177_65, e177_68, e177_70, e177_71, e177_74, e177_75, e177_77, e177_80, e177_81, e177_82, e177_85, e177_86, e177_89, e177_90, e177_91, e177_92, e177_94, e177_97, e177_100, e177_101, e177_102, e177_103, e177_105, e177_108, e177_111, e177_114, e177_115, e177_116, e177_119, e177_122, e177_123, e177_124, e177_125, e177_128, e177_129, e177_132, e177_133, e177_134, e177_135, e177_137, e177_140, e177_143, e177_144, e177_145, e177_146, e177_149, e177_151, e177_152, e177_155, e177_156, e177_157, e177_158, e177_159, e177_162, e177_163, e177_166, e177_167, e177_170, e177_172, e177_173, e177_176, e177_179, e177_180, e177_183, e177_184, e177_185, e177_188, e177_189, e177_190, e177_191, e177_192, e177_193, e177_196, e177_199, e177_200, e177_201, e177_204, e177_205, e177_206, e177_207, e177_210, e177_211, e177_212, e177_213, e177_214, e177_215, e177_216, e177_219, e177_220, e177_223, e177_224, e177_227, e177_228, e177_231, e177_232, e177_235, e177_236, e177_239, e177_240, e177_242, e177_243, e177_246, e177_248, e177_249, e177_252, e177_253, e177_254, e177_255, e177_256, e177_259, e177_261, e177_262, e177_263, e177_264, e177_267, e177_268, e177_269, e177_270, e177_271, am_bd_some, Option.toList_some, Option.toList_none, List.cons_append, List.nil_append, am_w8_0, am_w8_1, am_w8_2, am_w8_3, am_w8_4, eq_self, or_true, true_or, am_kd_sI, am_kd_sL, am_kd_sR, am_tc_sI, am_tc_sL, am_tc_sR, am_len_sI, am_len_sL, am_len_sR, am_rfs, if_true, if_false, am_rdL_sI, am_rR_sL, am_rt_cq, am_kd_cq, am_tc_cq, am_len_cq, am_rd_sL, am_rd_sR, am_rdL_sR, nm, okK_211 ok2, d3, o0]
  | none =>
    rintro ⟨h3, d3, H3⟩
    refine ⟨h3, ?_, H3.1, fun z => ?_, ?_⟩
    · show am_ev 177 0 [some (.ref 211), some (.long (lN (ln_k i))), some (.retAddr 0), some (.int (nI s)), none, none] [] h = _
      rw [s1]
      simp only [e177_0, e177_1, e177_4, e177_6, e177_8, e177_9, e177_12, e177_13, e177_16, e177_17, e177_20, e177_21, e177_24, e177_25, e177_28, e177_29, e177_32, e177_33, e177_36, e177_37, e177_40, e177_41, e177_44, e177_45, e177_48, e177_49, e177_51, e177_52, e177_55, e177_56, e177_58, e177_60, e177_61, e177_64, e177_65, e177_68, e177_70, e177_71, e177_74, e177_75, e177_77, e177_80, e177_81, e177_82, e177_85, e177_86, e177_89, e177_90, e177_91, e177_92, e177_94, e177_97, e177_100, e177_101, e177_102, e177_103, e177_105, e177_108, e177_111, e177_114, e177_115, e177_116, e177_119, e177_122, e177_123, e177_124, e177_125, e177_128, e177_129, e177_132, e177_133, e177_134, e177_135, e177_137, e177_140, e177_143, e177_144, e177_145, e177_146, e177_149, e177_151, e177_152, e177_155, e177_156, e177_157, e177_158, e177_159, e177_162, e177_163, e177_166, e177_167, e177_170, e177_172, e177_173, e177_176, e177_179, e177_180, e177_183, e177_184, e177_185, e177_188, e177_189, e177_190, e177_191, e177_192, e177_193, e177_196, e177_199, e177_200, e177_201, e177_204, e177_205, e177_206, e177_207, e177_210, e177_211, e177_212, e177_213, e177_214, e177_215, e177_216, e177_219, e177_220, e177_223, e177_224, e177_227, e177_228, e177_231, e177_232, e177_235, e177_236, e177_239, e177_240, e177_242, e177_243, e177_246, e177_248, e177_249, e177_252, e177_253, e177_254, e177_255, e177_256, e177_259, e177_261, e177_262, e177_263, e177_264, e177_267, e177_268, e177_269, e177_270, e177_271, am_bd_some, Option.toList_some, Option.toList_none, List.cons_append, List.nil_append, am_w8_0, am_w8_1, am_w8_2, am_w8_3, am_w8_4, eq_self, or_true, true_or, am_kd_sI, am_kd_sL, am_kd_sR, am_tc_sI, am_tc_sL, am_tc_sR, am_len_sI, am_len_sL, am_len_sR, am_rfs, if_true, if_false, am_rdL_sI, am_rR_sL, am_rt_cq, am_kd_cq, am_tc_cq, am_len_cq, am_rd_sL, am_rd_sR, am_rdL_sR, nm, okK_211 ok2, d3, o1]
    · obtain ⟨z1, -, z3⟩ := t_rq_0 z
      have ff := c_q0 z1
      rw [ff, if_neg (by decide)] at z1
      obtain ⟨M, m6, X, Y, x8, y8⟩ := R z1
      have en := fi z1
      have n5 : n < 6 := by
        have := of_decide_eq_false ff
        omega
      have w0 : t_va t L (t_E t L s) 0 < 8 := t_can_c (by have := z3 0 (by decide); rw [r0] at this; exact this)
      have w1 : t_va t L (t_E t L s) 1 < 8 := t_can_c (by have := z3 1 (by decide); rw [r1] at this; exact this)
      have f8 := f_far8 x8 y8 w0 w1
      have up : f_upd i (t_va t L (t_E t L s)) d = ((f_upd i (t_va t L (t_E t L s)) d).1, f_far (t_va t L (t_E t L s)) d) := by
        unfold f_upd
        rw [if_neg (by omega), if_pos ib]
      rw [if_pos n5] at H3
      have M1 : f_mm (fun k => h1.1 221 k) d.1 := by
        have e : (fun k => h1.1 221 k) = fun k => h.1 221 k := funext a1
        rw [e]; exact M
      have M2 := f_m_beast (d := d) M1 (by omega) i (t_va t L (t_E t L s)) (by omega) ib w0 w1
      rw [en] at M2
      rw [up]
      refine f_mr_of H3 _ M2 ?_ ?_ ?_ f8.1 f8.2
      · show F_n (f_upd i (t_va t L (t_E t L s)) d).1 ≤ 6
        unfold f_upd
        rw [if_neg (by omega), if_pos ib]
        show F_n d.1 + 1 ≤ 6
        omega
      · rw [a3 21 (by decide), X]
        exact f_gr _ _ x8 (by omega)
      · rw [a3 22 (by decide), Y]
        exact f_gr _ _ y8 (by omega)
    · by_cases c : n < 6
      · rw [if_pos c] at H3
        exact ⟨n + 1, by omega, H3.2.2.2.1 7⟩
      · rw [if_neg c] at H3
        exact ⟨n, n6, (H3.2.2.2.1 7).trans ((a1 7).trans e7)⟩
/-- the other words: up to the numbers -/
theorem m_fl_0 {t : Nat → Nat} {L : Nat} {g h : am_H} {s : Nat} {q : Nat × Nat} (H : m_st t L g h s q s) (hs : s < L) (G : h.1 211 23 = 1) (W : Nat) (hW : W < 2 ^ 64) (kb : m_kb W = -1) (hc : lg_cmp (lN W) 1936292453 = 0 ∨ lg_cmp (lN W) 2002873452 = 0 ∨ lg_cmp (lN W) 7365998 = 0 ∨ lg_cmp (lN W) 6582119 = 0) (r : List Nat) : ∃ h1 : am_H, am_ev 177 0 [some (.ref 211), some (.long (lN W)), some (.retAddr 0), some (.int (nI s)), none, none] [] h = am_ev 177 81 [some (.ref 211), some (.long (lN W)), some (.retAddr 0), some (.int (nI s)), some (.int (-1)), none] [] h1 ∧ m_nm t L g (t_E t L s) r q 0 (fun k => h.1 221 k) (h.1 211 21) (h.1 211 22) h1 0 := by
  have ok := H.1.1
  obtain ⟨h1, d1, H1, -⟩ := m_beg (H.le (Nat.le_succ _)) hs G r 0
  have dk := den_kindBy W hW h
  rw [kb] at dk
  have y : ((-1 : Int32) = -1) = True := eq_true rfl
  have s1 : am_ev 177 49 [some (.ref 211), some (.long (lN W)), some (.retAddr 0), some (.int (nI s)), some (.int (-1)), none] [] h = am_ev 177 81 [some (.ref 211), some (.long (lN W)), some (.retAddr 0), some (.int (nI s)), some (.int (-1)), none] [] h1 := by
    simp only [e177_0, e177_1, e177_4, e177_6, e177_8, e177_9, e177_12, e177_13, e177_16, e177_17, e177_20, e177_21, e177_24, e177_25, e177_28, e177_29, e177_32, e177_33, e177_36, e177_37, e177_40, e177_41, e177_44, e177_45, e177_48, e177_49, e177_51, e177_52, e177_55, e177_56, e177_58, e177_60, e177_61, e177_64, e177_65, e177_68, e177_70, e177_71, e177_74, e177_75, e177_77, e177_80, e177_82, e177_85, e177_86, e177_89, e177_90, e177_91, e177_92, e177_94, e177_97, e177_100, e177_101, e177_102, e177_103, e177_105, e177_108, e177_111, e177_114, e177_115, e177_116, e177_119, e177_122, e177_123, e177_124, e177_125, e177_128, e177_129, e177_132, e177_133, e177_134, e177_135, e177_137, e177_140, e177_143, e177_144, e177_145, e177_146, e177_149, e177_151, e177_152, e177_155, e177_156, e177_157, e177_158, e177_159, e177_162, e177_163, e177_166, e177_167, e177_170, e177_172, e177_173, e177_176, e177_179, e177_180, e177_183, e177_184, e177_185, e177_188, e177_189, e177_190, e177_191, e177_192, e177_193, e177_196, e177_199, e177_200, e177_201, e177_204, e177_205, e177_206, e177_207, e177_210, e177_211, e177_212, e177_213, e177_214, e177_215, e177_216, e177_219, e177_220, e177_223, e177_224, e177_227, e177_228, e177_231, e177_232, e177_235, e177_236, e177_239, e177_240, e177_242, e177_243, e177_246, e177_248, e177_249, e177_252, e177_253, e177_254, e177_255, e177_256, e177_259, e177_261, e177_262, e177_263, e177_264, e177_267, e177_268, e177_269, e177_270, e177_271, am_bd_some, Option.toList_some, Option.toList_none, List.cons_append, List.nil_append, am_w8_0, am_w8_1, am_w8_2, am_w8_3, am_w8_4, eq_self, or_true, true_or, am_kd_sI, am_kd_sL, am_kd_sR, am_tc_sI, am_tc_sL, am_tc_sR, am_len_sI, am_len_sL, am_len_sR, am_rfs, if_true, if_false, am_rdL_sI, am_rR_sL, am_rt_cq, am_kd_cq, am_tc_cq, am_len_cq, am_rd_sL, am_rd_sR, am_rdL_sR, y, okK_211 ok, d1]
  refine ⟨h1, ?_, H1⟩
  rw [← s1]
  by_cases c1 : lg_cmp (lN W) 1936292453 = 0
  · have c1' := eq_true c1
    simp only [e177_0, e177_1, e177_4, e177_6, e177_8, e177_9, e177_12, e177_13, e177_16, e177_17, e177_20, e177_21, e177_24, e177_25, e177_28, e177_29, e177_32, e177_33, e177_36, e177_37, e177_40, e177_41, e177_44, e177_45, e177_48, e177_51, e177_52, e177_55, e177_56, e177_58, e177_60, e177_61, e177_64, e177_65, e177_68, e177_70, e177_71, e177_74, e177_75, e177_77, e177_80, e177_81, e177_82, e177_85, e177_86, e177_89, e177_90, e177_91, e177_92, e177_94, e177_97, e177_100, e177_101, e177_102, e177_103, e177_105, e177_108, e177_111, e177_114, e177_115, e177_116, e177_119, e177_122, e177_123, e177_124, e177_125, e177_128, e177_129, e177_132, e177_133, e177_134, e177_135, e177_137, e177_140, e177_143, e177_144, e177_145, e177_146, e177_149, e177_151, e177_152, e177_155, e177_156, e177_157, e177_158, e177_159, e177_162, e177_163, e177_166, e177_167, e177_170, e177_172, e177_173, e177_176, e177_179, e177_180, e177_183, e177_184, e177_185, e177_188, e177_189, e177_190, e177_191, e177_192, e177_193, e177_196, e177_199, e177_200, e177_201, e177_204, e177_205, e177_206, e177_207, e177_210, e177_211, e177_212, e177_213, e177_214, e177_215, e177_216, e177_219, e177_220, e177_223, e177_224, e177_227, e177_228, e177_231, e177_232, e177_235, e177_236, e177_239, e177_240, e177_242, e177_243, e177_246, e177_248, e177_249, e177_252, e177_253, e177_254, e177_255, e177_256, e177_259, e177_261, e177_262, e177_263, e177_264, e177_267, e177_268, e177_269, e177_270, e177_271, am_bd_some, Option.toList_some, Option.toList_none, List.cons_append, List.nil_append, am_w8_0, am_w8_1, am_w8_2, am_w8_3, am_w8_4, eq_self, or_true, true_or, am_kd_sI, am_kd_sL, am_kd_sR, am_tc_sI, am_tc_sL, am_tc_sR, am_len_sI, am_len_sL, am_len_sR, am_rfs, if_true, if_false, am_rdL_sI, am_rR_sL, am_rt_cq, am_kd_cq, am_tc_cq, am_len_cq, am_rd_sL, am_rd_sR, am_rdL_sR, dk, y, not_true, c1']
  have c1' := eq_false c1
  by_cases c2 : lg_cmp (lN W) 2002873452 = 0
  · have c2' := eq_true c2
    simp only [e177_0, e177_1, e177_4, e177_6, e177_8, e177_9, e177_12, e177_13, e177_16, e177_17, e177_20, e177_21, e177_24, e177_25, e177_28, e177_29, e177_32, e177_33, e177_36, e177_37, e177_40, e177_41, e177_44, e177_45, e177_48, e177_51, e177_52, e177_55, e177_56, e177_58, e177_60, e177_61, e177_64, e177_65, e177_68, e177_70, e177_71, e177_74, e177_75, e177_77, e177_80, e177_81, e177_82, e177_85, e177_86, e177_89, e177_90, e177_91, e177_92, e177_94, e177_97, e177_100, e177_101, e177_102, e177_103, e177_105, e177_108, e177_111, e177_114, e177_115, e177_116, e177_119, e177_122, e177_123, e177_124, e177_125, e177_128, e177_129, e177_132, e177_133, e177_134, e177_135, e177_137, e177_140, e177_143, e177_144, e177_145, e177_146, e177_149, e177_151, e177_152, e177_155, e177_156, e177_157, e177_158, e177_159, e177_162, e177_163, e177_166, e177_167, e177_170, e177_172, e177_173, e177_176, e177_179, e177_180, e177_183, e177_184, e177_185, e177_188, e177_189, e177_190, e177_191, e177_192, e177_193, e177_196, e177_199, e177_200, e177_201, e177_204, e177_205, e177_206, e177_207, e177_210, e177_211, e177_212, e177_213, e177_214, e177_215, e177_216, e177_219, e177_220, e177_223, e177_224, e177_227, e177_228, e177_231, e177_232, e177_235, e177_236, e177_239, e177_240, e177_242, e177_243, e177_246, e177_248, e177_249, e177_252, e177_253, e177_254, e177_255, e177_256, e177_259, e177_261, e177_262, e177_263, e177_264, e177_267, e177_268, e177_269, e177_270, e177_271, am_bd_some, Option.toList_some, Option.toList_none, List.cons_append, List.nil_append, am_w8_0, am_w8_1, am_w8_2, am_w8_3, am_w8_4, eq_self, or_true, true_or, am_kd_sI, am_kd_sL, am_kd_sR, am_tc_sI, am_tc_sL, am_tc_sR, am_len_sI, am_len_sL, am_len_sR, am_rfs, if_true, if_false, am_rdL_sI, am_rR_sL, am_rt_cq, am_kd_cq, am_tc_cq, am_len_cq, am_rd_sL, am_rd_sR, am_rdL_sR, dk, y, not_true, c1', c2']
  have c2' := eq_false c2
  by_cases c3 : lg_cmp (lN W) 7365998 = 0
  · have c3' := eq_true c3
    simp only [e177_0, e177_1, e177_4, e177_6, e177_8, e177_9, e177_12, e177_13, e177_16, e177_17, e177_20, e177_21, e177_24, e177_25, e177_28, e177_29, e177_32, e177_33, e177_36, e177_37, e177_40, e177_41, e177_44, e177_45, e177_48, e177_51, e177_52, e177_55, e177_56, e177_58, e177_60, e177_61, e177_64, e177_65, e177_68, e177_70, e177_71, e177_74, e177_75, e177_77, e177_80, e177_81, e177_82, e177_85, e177_86, e177_89, e177_90, e177_91, e177_92, e177_94, e177_97, e177_100, e177_101, e177_102, e177_103, e177_105, e177_108, e177_111, e177_114, e177_115, e177_116, e177_119, e177_122, e177_123, e177_124, e177_125, e177_128, e177_129, e177_132, e177_133, e177_134, e177_135, e177_137, e177_140, e177_143, e177_144, e177_145, e177_146, e177_149, e177_151, e177_152, e177_155, e177_156, e177_157, e177_158, e177_159, e177_162, e177_163, e177_166, e177_167, e177_170, e177_172, e177_173, e177_176, e177_179, e177_180, e177_183, e177_184, e177_185, e177_188, e177_189, e177_190, e177_191, e177_192, e177_193, e177_196, e177_199, e177_200, e177_201, e177_204, e177_205, e177_206, e177_207, e177_210, e177_211, e177_212, e177_213, e177_214, e177_215, e177_216, e177_219, e177_220, e177_223, e177_224, e177_227, e177_228, e177_231, e177_232, e177_235, e177_236, e177_239, e177_240, e177_242, e177_243, e177_246, e177_248, e177_249, e177_252, e177_253, e177_254, e177_255, e177_256, e177_259, e177_261, e177_262, e177_263, e177_264, e177_267, e177_268, e177_269, e177_270, e177_271, am_bd_some, Option.toList_some, Option.toList_none, List.cons_append, List.nil_append, am_w8_0, am_w8_1, am_w8_2, am_w8_3, am_w8_4, eq_self, or_true, true_or, am_kd_sI, am_kd_sL, am_kd_sR, am_tc_sI, am_tc_sL, am_tc_sR, am_len_sI, am_len_sL, am_len_sR, am_rfs, if_true, if_false, am_rdL_sI, am_rR_sL, am_rt_cq, am_kd_cq, am_tc_cq, am_len_cq, am_rd_sL, am_rd_sR, am_rdL_sR, dk, y, not_true, c1', c2', c3']
  have c3' := eq_false c3
  have c4' : (lg_cmp (lN W) 6582119 = 0) = True := eq_true (by
    rcases hc with w | w | w | w
    · exact absurd w c1
    · exact absurd w c2
    · exact absurd w c3
    · exact w)
  simp only [e177_0, e177_1, e177_4, e177_6, e177_8, e177_9, e177_12, e177_13, e177_16, e177_17, e177_20, e177_21, e177_24, e177_25, e177_28, e177_29, e177_32, e177_33, e177_36, e177_37, e177_40, e177_41, e177_44, e177_45, e177_48, e177_51, e177_52, e177_55, e177_56, e177_58, e177_60, e177_61, e177_64, e177_65, e177_68, e177_70, e177_71, e177_74, e177_75, e177_77, e177_80, e177_81, e177_82, e177_85, e177_86, e177_89, e177_90, e177_91, e177_92, e177_94, e177_97, e177_100, e177_101, e177_102, e177_103, e177_105, e177_108, e177_111, e177_114, e177_115, e177_116, e177_119, e177_122, e177_123, e177_124, e177_125, e177_128, e177_129, e177_132, e177_133, e177_134, e177_135, e177_137, e177_140, e177_143, e177_144, e177_145, e177_146, e177_149, e177_151, e177_152, e177_155, e177_156, e177_157, e177_158, e177_159, e177_162, e177_163, e177_166, e177_167, e177_170, e177_172, e177_173, e177_176, e177_179, e177_180, e177_183, e177_184, e177_185, e177_188, e177_189, e177_190, e177_191, e177_192, e177_193, e177_196, e177_199, e177_200, e177_201, e177_204, e177_205, e177_206, e177_207, e177_210, e177_211, e177_212, e177_213, e177_214, e177_215, e177_216, e177_219, e177_220, e177_223, e177_224, e177_227, e177_228, e177_231, e177_232, e177_235, e177_236, e177_239, e177_240, e177_242, e177_243, e177_246, e177_248, e177_249, e177_252, e177_253, e177_254, e177_255, e177_256, e177_259, e177_261, e177_262, e177_263, e177_264, e177_267, e177_268, e177_269, e177_270, e177_271, am_bd_some, Option.toList_some, Option.toList_none, List.cons_append, List.nil_append, am_w8_0, am_w8_1, am_w8_2, am_w8_3, am_w8_4, eq_self, or_true, true_or, am_kd_sI, am_kd_sL, am_kd_sR, am_tc_sI, am_tc_sL, am_tc_sR, am_len_sI, am_len_sL, am_len_sR, am_rfs, if_true, if_false, am_rdL_sI, am_rR_sL, am_rt_cq, am_kd_cq, am_tc_cq, am_len_cq, am_rd_sL, am_rd_sR, am_rdL_sR, dk, y, not_true, c1', c2', c3', c4']
/-- no word of a fell -/
theorem m_fl_n {t : Nat → Nat} {L : Nat} {g h : am_H} {s : Nat} {q : Nat × Nat} (H : m_st t L g h s q s) (W : Nat) (hW : W < 2 ^ 64) (hn : ∀ j, j < 18 → ln_s j = 0 → W ≠ ln_k j) : ∃ h' : am_H, am_den 177 [.ref 211, .long (lN W), .int (nI s)] h = some (some (.int 0), h') ∧ m_bk g h' s := by
  have ok := H.1.1
  obtain ⟨h', d, b⟩ := m_fails H
  have n0 : W ≠ 6649701 := hn 0 (by decide) (by decide +kernel)
  have n1 : W ≠ 7496045 := hn 1 (by decide) (by decide +kernel)
  have n2 : W ≠ 108230700459378 := hn 2 (by decide) (by decide +kernel)
  have n3 : W ≠ 444251206501 := hn 3 (by decide) (by decide +kernel)
  have n4 : W ≠ 2002873452 := hn 4 (by decide) (by decide +kernel)
  have n5 : W ≠ 7365998 := hn 5 (by decide) (by decide +kernel)
  have n6 : W ≠ 1936292453 := hn 6 (by decide) (by decide +kernel)
  have n7 : W ≠ 6582119 := hn 7 (by decide) (by decide +kernel)
  have kb : m_kb W = -1 := by
    unfold m_kb
    rw [if_neg n0, if_neg n1, if_neg n2, if_neg n3]
  have dk := den_kindBy W hW h
  rw [kb] at dk
  have y : ((-1 : Int32) = -1) = True := eq_true rfl
  have c1 : (lg_cmp (lN W) 1936292453 = 0) = False := eq_false (fun w => n6 ((m_lg (c := 1936292453) hW (by decide)).mp w))
  have c2 : (lg_cmp (lN W) 2002873452 = 0) = False := eq_false (fun w => n4 ((m_lg (c := 2002873452) hW (by decide)).mp w))
  have c3 : (lg_cmp (lN W) 7365998 = 0) = False := eq_false (fun w => n5 ((m_lg (c := 7365998) hW (by decide)).mp w))
  have c4 : (lg_cmp (lN W) 6582119 = 0) = False := eq_false (fun w => n7 ((m_lg (c := 6582119) hW (by decide)).mp w))
  have o0 : (0 : Int32) = 0 ∨ (0 : Int32) = 1 := Or.inl rfl
  refine ⟨h', ?_, b⟩
  show am_ev 177 0 [some (.ref 211), some (.long (lN W)), some (.retAddr 0), some (.int (nI s)), none, none] [] h = _
  simp only [e177_0, e177_1, e177_4, e177_6, e177_8, e177_9, e177_12, e177_13, e177_16, e177_17, e177_20, e177_21, e177_24, e177_25, e177_28, e177_29, e177_32, e177_33, e177_36, e177_37, e177_40, e177_41, e177_44, e177_45, e177_48, e177_49, e177_51, e177_52, e177_55, e177_56, e177_58, e177_60, e177_61, e177_64, e177_65, e177_68, e177_70, e177_71, e177_74, e177_75, e177_77, e177_80, e177_81, e177_82, e177_85, e177_86, e177_89, e177_90, e177_91, e177_92, e177_94, e177_97, e177_100, e177_101, e177_102, e177_103, e177_105, e177_108, e177_111, e177_114, e177_115, e177_116, e177_119, e177_122, e177_123, e177_124, e177_125, e177_128, e177_129, e177_132, e177_133, e177_134, e177_135, e177_137, e177_140, e177_143, e177_144, e177_145, e177_146, e177_149, e177_151, e177_152, e177_155, e177_156, e177_157, e177_158, e177_159, e177_162, e177_163, e177_166, e177_167, e177_170, e177_172, e177_173, e177_176, e177_179, e177_180, e177_183, e177_184, e177_185, e177_188, e177_189, e177_190, e177_191, e177_192, e177_193, e177_196, e177_199, e177_200, e177_201, e177_204, e177_205, e177_206, e177_207, e177_210, e177_211, e177_212, e177_213, e177_214, e177_215, e177_216, e177_219, e177_220, e177_223, e177_224, e177_227, e177_228, e177_231, e177_232, e177_235, e177_236, e177_239, e177_240, e177_242, e177_243, e177_246, e177_248, e177_249, e177_252, e177_253, e177_254, e177_255, e177_256, e177_259, e177_261, e177_262, e177_263, e177_264, e177_267, e177_268, e177_269, e177_270, e177_271, am_bd_some, Option.toList_some, Option.toList_none, List.cons_append, List.nil_append, am_w8_0, am_w8_1, am_w8_2, am_w8_3, am_w8_4, eq_self, or_true, true_or, am_kd_sI, am_kd_sL, am_kd_sR, am_tc_sI, am_tc_sL, am_tc_sR, am_len_sI, am_len_sL, am_len_sR, am_rfs, if_true, if_false, am_rdL_sI, am_rR_sL, am_rt_cq, am_kd_cq, am_tc_cq, am_len_cq, am_rd_sL, am_rd_sR, am_rdL_sR, dk, y, not_true, c1, c2, c3, c4, okK_211 ok, d, o0]
