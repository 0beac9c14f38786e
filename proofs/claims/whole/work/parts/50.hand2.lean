/-! part 50: a fell to hand -/
set_option maxHeartbeats 1000000 in
theorem den_hand1 (h : am_H) (ok : am_okH h) (i : Nat) (hi : i < 2) (f : q_Fl) (fk : F_ok f) (fm : F_mod (fun a k => h.1 (212 + a) k) (34 * i) f) (c : Nat) (hc : c ≤ 2) (ic : i < c) (e : h.1 216 0 = nI c) : ∃ h' : am_H, q_hw h h' ∧ h'.1 211 24 = nI i ∧ q_mg h' f (G_0 f) ∧ am_den 201 [.ref 211, .int (nI i)] h = some (some (.int 1), h') := by
  have wf := fk.wf
  have n6 := wf.2.2.2.1
  have c64 := wf.c64
  obtain ⟨⟨w1, w2⟩, ⟨h1, h2⟩, -⟩ := id wf
  obtain ⟨m0, m1, ⟨m2, m3⟩, ⟨m4, m5⟩, m6, m7, mk, mc, mw⟩ := fm
  have p0 : h.1 217 (34 * i + 0) = nI (F_w f) := m0
  have p1 : h.1 217 (34 * i + 1) = nI (F_h f) := m1
  have p2 : h.1 217 (34 * i + 2) = nI (F_pen f % 8) := m2
  have p3 : h.1 217 (34 * i + 3) = nI (F_pen f / 8) := m3
  have p4 : h.1 217 (34 * i + 4) = nI (F_dog f % 8) := m4
  have p5 : h.1 217 (34 * i + 5) = nI (F_dog f / 8) := m5
  have p6 : h.1 217 (34 * i + 6) = nI (F_eye f) := m6
  have p7 : h.1 217 (34 * i + 7) = nI (F_n f) := m7
  have dis := den_is h ok 0 (by decide) c hc e (nI i)
  rw [if_pos ⟨nI_pos' (by omega), nI_lt ic (by omega)⟩, nI_0] at dis
  let g1 : am_H := am_sI h 211 24 (nI i)
  let g2 : am_H := am_sI g1 211 25 (nI (F_w f))
  let g3 : am_H := am_sI g2 211 26 (nI (F_w f * F_h f))
  let g4 : am_H := am_sI g3 211 27 (nI (q_nm f (F_pen f)))
  let g5 : am_H := am_sI g4 211 28 (nI (q_nm f (F_dog f)))
  let g6 : am_H := am_sI g5 211 29 (nI (F_eye f))
  let g7 : am_H := am_sI g6 211 30 (nI (F_n f))
  have d0 : am_den 202 [.ref 211, .int 0] g1 = some (some (.int (nI (F_w f))), g1) := by have := den_of g1 ok i 0 hi (by decide) rfl; rw [← p0]; exact this
  have d1 : am_den 202 [.ref 211, .int 1] g2 = some (some (.int (nI (F_h f))), g2) := by have := den_of g2 ok i 1 hi (by decide) rfl; rw [← p1]; exact this
  have d3 : am_den 202 [.ref 211, .int 3] g3 = some (some (.int (nI (F_pen f / 8))), g3) := by have := den_of g3 ok i 3 hi (by decide) rfl; rw [← p3]; exact this
  have d2 : am_den 202 [.ref 211, .int 2] g3 = some (some (.int (nI (F_pen f % 8))), g3) := by have := den_of g3 ok i 2 hi (by decide) rfl; rw [← p2]; exact this
  have d5 : am_den 202 [.ref 211, .int 5] g4 = some (some (.int (nI (F_dog f / 8))), g4) := by have := den_of g4 ok i 5 hi (by decide) rfl; rw [← p5]; exact this
  have d4 : am_den 202 [.ref 211, .int 4] g4 = some (some (.int (nI (F_dog f % 8))), g4) := by have := den_of g4 ok i 4 hi (by decide) rfl; rw [← p4]; exact this
  have d6 : am_den 202 [.ref 211, .int 6] g5 = some (some (.int (nI (F_eye f))), g5) := by have := den_of g5 ok i 6 hi (by decide) rfl; rw [← p6]; exact this
  have d7 : am_den 202 [.ref 211, .int 7] g6 = some (some (.int (nI (F_n f))), g6) := by have := den_of g6 ok i 7 hi (by decide) rfl; rw [← p7]; exact this
  have s0 : am_ev 201 0 [some (.ref 211), some (.int (nI i)), none] [] h = am_ev 201 16 [some (.ref 211), some (.int (nI i)), none] [] g1 := by
    have y : ¬ (1 : Int32) = 0 := by decide
    simp only [e201_0, e201_1, e201_2, e201_3, e201_6, e201_9, e201_10, e201_11, e201_12, e201_13, e201_17, e201_18, e201_19, e201_22, e201_25, e201_26, e201_27, e201_30, e201_31, e201_32, e201_35, e201_36, e201_39, e201_40, e201_41, e201_44, e201_45, e201_46, e201_49, e201_50, e201_51, e201_52, e201_55, e201_56, e201_59, e201_60, e201_61, e201_64, e201_65, e201_66, e201_69, e201_70, e201_71, e201_72, e201_75, e201_76, e201_79, e201_80, e201_81, e201_83, e201_86, e201_89, e201_90, e201_91, e201_93, e201_96, e201_99, e201_100, e201_101, e201_102, e201_103, e201_106, e201_109, e201_110, e201_113, e201_114, e201_115, e201_117, e201_118, e201_119, e201_122, e201_123, e201_124, e201_127, e201_128, e201_129, e201_132, e201_133, e201_136, e201_136z, e201_137, e201_140, e201_143, e201_144, e201_145, e201_146, e201_148, e201_151, e201_152, e201_155, e201_156, e201_157, e201_159, e201_160, e201_161, e201_164, e201_165, e201_166, e201_169, e201_170, e201_171, e201_174, e201_175, e201_177, e201_178, e201_179, e201_182, e201_183, e201_184, e201_186, e201_187, e201_188, e201_191, e201_192, e201_193, e201_194, e201_197, e201_198, e201_199, e201_200, e201_203, e201_206, e201_207, e201_208, e201_211, e201_212, e201_213, e201_216, e201_217, e201_218, e201_221, e201_222, e201_223, e201_226, e201_227, am_bd_some, Option.toList_some, Option.toList_none, List.cons_append, List.nil_append, am_w8_0, am_w8_1, am_w8_2, am_w8_3, am_w8_4, eq_self, or_true, true_or, am_kd_sI, am_kd_sL, am_kd_sR, am_tc_sI, am_tc_sL, am_tc_sR, am_len_sI, am_len_sL, am_len_sR, am_rfs, if_true, if_false, am_rdL_sI, am_rR_sL, am_rt_cq, am_kd_cq, am_tc_cq, am_len_cq, am_rd_sL, am_rd_sR, am_rdL_sR, okK_211 ok, dis, y, not_false_eq_true]
    rfl
  have k1 : ∀ a, am_kd g1 a = am_kd h a := fun _ => rfl
  have k2 : ∀ a, am_kd g2 a = am_kd h a := fun _ => rfl
  have k3 : ∀ a, am_kd g3 a = am_kd h a := fun _ => rfl
  have k4 : ∀ a, am_kd g4 a = am_kd h a := fun _ => rfl
  have k5 : ∀ a, am_kd g5 a = am_kd h a := fun _ => rfl
  have k6 : ∀ a, am_kd g6 a = am_kd h a := fun _ => rfl
  have s1 : am_ev 201 16 [some (.ref 211), some (.int (nI i)), none] [] g1 = am_ev 201 25 [some (.ref 211), some (.int (nI i)), none] [] g2 := by
    simp only [e201_0, e201_1, e201_2, e201_3, e201_6, e201_9, e201_10, e201_11, e201_12, e201_13, e201_16, e201_17, e201_18, e201_19, e201_22, e201_26, e201_27, e201_30, e201_31, e201_32, e201_35, e201_36, e201_39, e201_40, e201_41, e201_44, e201_45, e201_46, e201_49, e201_50, e201_51, e201_52, e201_55, e201_56, e201_59, e201_60, e201_61, e201_64, e201_65, e201_66, e201_69, e201_70, e201_71, e201_72, e201_75, e201_76, e201_79, e201_80, e201_81, e201_83, e201_86, e201_89, e201_90, e201_91, e201_93, e201_96, e201_99, e201_100, e201_101, e201_102, e201_103, e201_106, e201_109, e201_110, e201_113, e201_114, e201_115, e201_117, e201_118, e201_119, e201_122, e201_123, e201_124, e201_127, e201_128, e201_129, e201_132, e201_133, e201_136, e201_136z, e201_137, e201_140, e201_143, e201_144, e201_145, e201_146, e201_148, e201_151, e201_152, e201_155, e201_156, e201_157, e201_159, e201_160, e201_161, e201_164, e201_165, e201_166, e201_169, e201_170, e201_171, e201_174, e201_175, e201_177, e201_178, e201_179, e201_182, e201_183, e201_184, e201_186, e201_187, e201_188, e201_191, e201_192, e201_193, e201_194, e201_197, e201_198, e201_199, e201_200, e201_203, e201_206, e201_207, e201_208, e201_211, e201_212, e201_213, e201_216, e201_217, e201_218, e201_221, e201_222, e201_223, e201_226, e201_227, am_bd_some, Option.toList_some, Option.toList_none, List.cons_append, List.nil_append, am_w8_0, am_w8_1, am_w8_2, am_w8_3, am_w8_4, eq_self, or_true, true_or, am_kd_sI, am_kd_sL, am_kd_sR, am_tc_sI, am_tc_sL, am_tc_sR, am_len_sI, am_len_sL, am_len_sR, am_rfs, if_true, if_false, am_rdL_sI, am_rR_sL, am_rt_cq, am_kd_cq, am_tc_cq, am_len_cq, am_rd_sL, am_rd_sR, am_rdL_sR, k1, okK_211 ok, d0]
    rfl
  have r2 : g2.1 211 25 = nI (F_w f) := rfl
  have s2 : am_ev 201 25 [some (.ref 211), some (.int (nI i)), none] [] g2 = am_ev 201 39 [some (.ref 211), some (.int (nI i)), none] [] g3 := by
    simp only [e201_0, e201_1, e201_2, e201_3, e201_6, e201_9, e201_10, e201_11, e201_12, e201_13, e201_16, e201_17, e201_18, e201_19, e201_22, e201_25, e201_26, e201_27, e201_30, e201_31, e201_32, e201_35, e201_36, e201_40, e201_41, e201_44, e201_45, e201_46, e201_49, e201_50, e201_51, e201_52, e201_55, e201_56, e201_59, e201_60, e201_61, e201_64, e201_65, e201_66, e201_69, e201_70, e201_71, e201_72, e201_75, e201_76, e201_79, e201_80, e201_81, e201_83, e201_86, e201_89, e201_90, e201_91, e201_93, e201_96, e201_99, e201_100, e201_101, e201_102, e201_103, e201_106, e201_109, e201_110, e201_113, e201_114, e201_115, e201_117, e201_118, e201_119, e201_122, e201_123, e201_124, e201_127, e201_128, e201_129, e201_132, e201_133, e201_136, e201_136z, e201_137, e201_140, e201_143, e201_144, e201_145, e201_146, e201_148, e201_151, e201_152, e201_155, e201_156, e201_157, e201_159, e201_160, e201_161, e201_164, e201_165, e201_166, e201_169, e201_170, e201_171, e201_174, e201_175, e201_177, e201_178, e201_179, e201_182, e201_183, e201_184, e201_186, e201_187, e201_188, e201_191, e201_192, e201_193, e201_194, e201_197, e201_198, e201_199, e201_200, e201_203, e201_206, e201_207, e201_208, e201_211, e201_212, e201_213, e201_216, e201_217, e201_218, e201_221, e201_222, e201_223, e201_226, e201_227, am_bd_some, Option.toList_some, Option.toList_none, List.cons_append, List.nil_append, am_w8_0, am_w8_1, am_w8_2, am_w8_3, am_w8_4, eq_self, or_true, true_or, am_kd_sI, am_kd_sL, am_kd_sR, am_tc_sI, am_tc_sL, am_tc_sR, am_len_sI, am_len_sL, am_len_sR, am_rfs, if_true, if_false, am_rdL_sI, am_rR_sL, am_rt_cq, am_kd_cq, am_tc_cq, am_len_cq, am_rd_sL, am_rd_sR, am_rdL_sR, k2, okK_211 ok, r2, d1, pk_mul]
    rfl
  have r3 : g3.1 211 25 = nI (F_w f) := rfl
  have nmp : nI (F_w f) * nI (F_pen f / 8) + nI (F_pen f % 8) = nI (q_nm f (F_pen f)) := by rw [pk_mul, nI_add]; rfl
  have nmd : nI (F_w f) * nI (F_dog f / 8) + nI (F_dog f % 8) = nI (q_nm f (F_dog f)) := by rw [pk_mul, nI_add]; rfl
  have s3 : am_ev 201 39 [some (.ref 211), some (.int (nI i)), none] [] g3 = am_ev 201 59 [some (.ref 211), some (.int (nI i)), none] [] g4 := by
    simp only [e201_0, e201_1, e201_2, e201_3, e201_6, e201_9, e201_10, e201_11, e201_12, e201_13, e201_16, e201_17, e201_18, e201_19, e201_22, e201_25, e201_26, e201_27, e201_30, e201_31, e201_32, e201_35, e201_36, e201_39, e201_40, e201_41, e201_44, e201_45, e201_46, e201_49, e201_50, e201_51, e201_52, e201_55, e201_56, e201_60, e201_61, e201_64, e201_65, e201_66, e201_69, e201_70, e201_71, e201_72, e201_75, e201_76, e201_79, e201_80, e201_81, e201_83, e201_86, e201_89, e201_90, e201_91, e201_93, e201_96, e201_99, e201_100, e201_101, e201_102, e201_103, e201_106, e201_109, e201_110, e201_113, e201_114, e201_115, e201_117, e201_118, e201_119, e201_122, e201_123, e201_124, e201_127, e201_128, e201_129, e201_132, e201_133, e201_136, e201_136z, e201_137, e201_140, e201_143, e201_144, e201_145, e201_146, e201_148, e201_151, e201_152, e201_155, e201_156, e201_157, e201_159, e201_160, e201_161, e201_164, e201_165, e201_166, e201_169, e201_170, e201_171, e201_174, e201_175, e201_177, e201_178, e201_179, e201_182, e201_183, e201_184, e201_186, e201_187, e201_188, e201_191, e201_192, e201_193, e201_194, e201_197, e201_198, e201_199, e201_200, e201_203, e201_206, e201_207, e201_208, e201_211, e201_212, e201_213, e201_216, e201_217, e201_218, e201_221, e201_222, e201_223, e201_226, e201_227, am_bd_some, Option.toList_some, Option.toList_none, List.cons_append, List.nil_append, am_w8_0, am_w8_1, am_w8_2, am_w8_3, am_w8_4, eq_self, or_true, true_or, am_kd_sI, am_kd_sL, am_kd_sR, am_tc_sI, am_tc_sL, am_tc_sR, am_len_sI, am_len_sL, am_len_sR, am_rfs, if_true, if_false, am_rdL_sI, am_rR_sL, am_rt_cq, am_kd_cq, am_tc_cq, am_len_cq, am_rd_sL, am_rd_sR, am_rdL_sR, k3, okK_211 ok, r3, d3, d2, nmp]
    rfl
  have r4 : g4.1 211 25 = nI (F_w f) := rfl
  have s4 : am_ev 201 59 [some (.ref 211), some (.int (nI i)), none] [] g4 = am_ev 201 79 [some (.ref 211), some (.int (nI i)), none] [] g5 := by
    simp only [e201_0, e201_1, e201_2, e201_3, e201_6, e201_9, e201_10, e201_11, e201_12, e201_13, e201_16, e201_17, e201_18, e201_19, e201_22, e201_25, e201_26, e201_27, e201_30, e201_31, e201_32, e201_35, e201_36, e201_39, e201_40, e201_41, e201_44, e201_45, e201_46, e201_49, e201_50, e201_51, e201_52, e201_55, e201_56, e201_59, e201_60, e201_61, e201_64, e201_65, e201_66, e201_69, e201_70, e201_71, e201_72, e201_75, e201_76, e201_80, e201_81, e201_83, e201_86, e201_89, e201_90, e201_91, e201_93, e201_96, e201_99, e201_100, e201_101, e201_102, e201_103, e201_106, e201_109, e201_110, e201_113, e201_114, e201_115, e201_117, e201_118, e201_119, e201_122, e201_123, e201_124, e201_127, e201_128, e201_129, e201_132, e201_133, e201_136, e201_136z, e201_137, e201_140, e201_143, e201_144, e201_145, e201_146, e201_148, e201_151, e201_152, e201_155, e201_156, e201_157, e201_159, e201_160, e201_161, e201_164, e201_165, e201_166, e201_169, e201_170, e201_171, e201_174, e201_175, e201_177, e201_178, e201_179, e201_182, e201_183, e201_184, e201_186, e201_187, e201_188, e201_191, e201_192, e201_193, e201_194, e201_197, e201_198, e201_199, e201_200, e201_203, e201_206, e201_207, e201_208, e201_211, e201_212, e201_213, e201_216, e201_217, e201_218, e201_221, e201_222, e201_223, e201_226, e201_227, am_bd_some, Option.toList_some, Option.toList_none, List.cons_append, List.nil_append, am_w8_0, am_w8_1, am_w8_2, am_w8_3, am_w8_4, eq_self, or_true, true_or, am_kd_sI, am_kd_sL, am_kd_sR, am_tc_sI, am_tc_sL, am_tc_sR, am_len_sI, am_len_sL, am_len_sR, am_rfs, if_true, if_false, am_rdL_sI, am_rR_sL, am_rt_cq, am_kd_cq, am_tc_cq, am_len_cq, am_rd_sL, am_rd_sR, am_rdL_sR, k4, okK_211 ok, r4, d5, d4, nmd]
    rfl
  have s5 : am_ev 201 79 [some (.ref 211), some (.int (nI i)), none] [] g5 = am_ev 201 89 [some (.ref 211), some (.int (nI i)), none] [] g6 := by
    simp only [e201_0, e201_1, e201_2, e201_3, e201_6, e201_9, e201_10, e201_11, e201_12, e201_13, e201_16, e201_17, e201_18, e201_19, e201_22, e201_25, e201_26, e201_27, e201_30, e201_31, e201_32, e201_35, e201_36, e201_39, e201_40, e201_41, e201_44, e201_45, e201_46, e201_49, e201_50, e201_51, e201_52, e201_55, e201_56, e201_59, e201_60, e201_61, e201_64, e201_65, e201_66, e201_69, e201_70, e201_71, e201_72, e201_75, e201_76, e201_79, e201_80, e201_81, e201_83, e201_86, e201_90, e201_91, e201_93, e201_96, e201_99, e201_100, e201_101, e201_102, e201_103, e201_106, e201_109, e201_110, e201_113, e201_114, e201_115, e201_117, e201_118, e201_119, e201_122, e201_123, e201_124, e201_127, e201_128, e201_129, e201_132, e201_133, e201_136, e201_136z, e201_137, e201_140, e201_143, e201_144, e201_145, e201_146, e201_148, e201_151, e201_152, e201_155, e201_156, e201_157, e201_159, e201_160, e201_161, e201_164, e201_165, e201_166, e201_169, e201_170, e201_171, e201_174, e201_175, e201_177, e201_178, e201_179, e201_182, e201_183, e201_184, e201_186, e201_187, e201_188, e201_191, e201_192, e201_193, e201_194, e201_197, e201_198, e201_199, e201_200, e201_203, e201_206, e201_207, e201_208, e201_211, e201_212, e201_213, e201_216, e201_217, e201_218, e201_221, e201_222, e201_223, e201_226, e201_227, am_bd_some, Option.toList_some, Option.toList_none, List.cons_append, List.nil_append, am_w8_0, am_w8_1, am_w8_2, am_w8_3, am_w8_4, eq_self, or_true, true_or, am_kd_sI, am_kd_sL, am_kd_sR, am_tc_sI, am_tc_sL, am_tc_sR, am_len_sI, am_len_sL, am_len_sR, am_rfs, if_true, if_false, am_rdL_sI, am_rR_sL, am_rt_cq, am_kd_cq, am_tc_cq, am_len_cq, am_rd_sL, am_rd_sR, am_rdL_sR, k5, okK_211 ok, d6]
    rfl
  have s6 : am_ev 201 89 [some (.ref 211), some (.int (nI i)), none] [] g6 = am_ev 201 101 [some (.ref 211), some (.int (nI i)), some (.int (nI 0))] [] g7 := by
    simp only [e201_0, e201_1, e201_2, e201_3, e201_6, e201_9, e201_10, e201_11, e201_12, e201_13, e201_16, e201_17, e201_18, e201_19, e201_22, e201_25, e201_26, e201_27, e201_30, e201_31, e201_32, e201_35, e201_36, e201_39, e201_40, e201_41, e201_44, e201_45, e201_46, e201_49, e201_50, e201_51, e201_52, e201_55, e201_56, e201_59, e201_60, e201_61, e201_64, e201_65, e201_66, e201_69, e201_70, e201_71, e201_72, e201_75, e201_76, e201_79, e201_80, e201_81, e201_83, e201_86, e201_89, e201_90, e201_91, e201_93, e201_96, e201_99, e201_100, e201_102, e201_103, e201_106, e201_109, e201_110, e201_113, e201_114, e201_115, e201_117, e201_118, e201_119, e201_122, e201_123, e201_124, e201_127, e201_128, e201_129, e201_132, e201_133, e201_136, e201_136z, e201_137, e201_140, e201_143, e201_144, e201_145, e201_146, e201_148, e201_151, e201_152, e201_155, e201_156, e201_157, e201_159, e201_160, e201_161, e201_164, e201_165, e201_166, e201_169, e201_170, e201_171, e201_174, e201_175, e201_177, e201_178, e201_179, e201_182, e201_183, e201_184, e201_186, e201_187, e201_188, e201_191, e201_192, e201_193, e201_194, e201_197, e201_198, e201_199, e201_200, e201_203, e201_206, e201_207, e201_208, e201_211, e201_212, e201_213, e201_216, e201_217, e201_218, e201_221, e201_222, e201_223, e201_226, e201_227, am_bd_some, Option.toList_some, Option.toList_none, List.cons_append, List.nil_append, am_w8_0, am_w8_1, am_w8_2, am_w8_3, am_w8_4, eq_self, or_true, true_or, am_kd_sI, am_kd_sL, am_kd_sR, am_tc_sI, am_tc_sL, am_tc_sR, am_len_sI, am_len_sL, am_len_sR, am_rfs, if_true, if_false, am_rdL_sI, am_rR_sL, am_rt_cq, am_kd_cq, am_tc_cq, am_len_cq, am_rd_sL, am_rd_sR, am_rdL_sR, k6, okK_211 ok, d7, nI_0]
    rfl
  have lp1 := q_hl_1 g7 ok i (F_w f) (F_h f) (nI i) hi ⟨w1, w2⟩ h2 rfl rfl rfl (F_w f * F_h f) 0 (by omega)
  rw [q_fn_0] at lp1
  let g8 : am_H := q_fn 223 (F_w f * F_h f) (fun k => q_bi (q_bt (g7.1 217 (34 * i + (26 + k / F_w f))) (k % F_w f))) g7
  have lp2 := q_hl_2 g8 ok i (F_w f) (nI i) hi rfl rfl 6 0 (by omega)
  let K : Nat → Int32 := fun b => g8.1 217 (34 * i + (8 + b))
  let S : Nat → Int32 := fun b => nI (F_w f) * g8.1 217 (34 * i + (20 + b)) + g8.1 217 (34 * i + (14 + b))
  let g9 : am_H := q_h3 6 K S g8
  have z3 : q_h3 0 K S g8 = g8 := by
    unfold q_h3
    rw [q_fn_0, q_fn_0, q_fn_0]
  have lp2' : am_ev 201 145 [some (.ref 211), some (.int (nI i)), some (.int (nI 0))] [] g8 = am_ev 201 206 [some (.ref 211), some (.int (nI i)), some (.int (nI 6))] [] g9 := by
    have := lp2
    rw [show q_h3 0 (fun b => g8.1 217 (34 * i + (8 + b))) (fun b => nI (F_w f) * g8.1 217 (34 * i + (20 + b)) + g8.1 217 (34 * i + (14 + b))) g8 = g8 from z3] at this
    exact this
  have s7 : am_ev 201 143 [some (.ref 211), some (.int (nI i)), some (.int (nI (F_w f * F_h f)))] [] g8 = am_ev 201 145 [some (.ref 211), some (.int (nI i)), some (.int (nI 0))] [] g8 := by
    simp only [e201_143, e201_144, nI_0]
  let g10 : am_H := am_sI (am_sI (am_sI (am_sI g9 211 31 0) 211 32 0) 211 33 0) 211 38 0
  have k9 : ∀ a, am_kd g9 a = am_kd h a := fun _ => rfl
  have s8 : am_ev 201 206 [some (.ref 211), some (.int (nI i)), some (.int (nI 6))] [] g9 = some (some (.int 1), g10) := by
    have y01 : (0 : Int32) = 0 ∨ (0 : Int32) = 1 := Or.inl rfl
    have y11 : (1 : Int32) = 0 ∨ (1 : Int32) = 1 := Or.inr rfl
    simp only [e201_0, e201_1, e201_2, e201_3, e201_6, e201_9, e201_10, e201_11, e201_12, e201_13, e201_16, e201_17, e201_18, e201_19, e201_22, e201_25, e201_26, e201_27, e201_30, e201_31, e201_32, e201_35, e201_36, e201_39, e201_40, e201_41, e201_44, e201_45, e201_46, e201_49, e201_50, e201_51, e201_52, e201_55, e201_56, e201_59, e201_60, e201_61, e201_64, e201_65, e201_66, e201_69, e201_70, e201_71, e201_72, e201_75, e201_76, e201_79, e201_80, e201_81, e201_83, e201_86, e201_89, e201_90, e201_91, e201_93, e201_96, e201_99, e201_100, e201_101, e201_102, e201_103, e201_106, e201_109, e201_110, e201_113, e201_114, e201_115, e201_117, e201_118, e201_119, e201_122, e201_123, e201_124, e201_127, e201_128, e201_129, e201_132, e201_133, e201_136, e201_136z, e201_137, e201_140, e201_143, e201_144, e201_145, e201_146, e201_148, e201_151, e201_152, e201_155, e201_156, e201_157, e201_159, e201_160, e201_161, e201_164, e201_165, e201_166, e201_169, e201_170, e201_171, e201_174, e201_175, e201_177, e201_178, e201_179, e201_182, e201_183, e201_184, e201_186, e201_187, e201_188, e201_191, e201_192, e201_193, e201_194, e201_197, e201_198, e201_199, e201_200, e201_203, e201_206, e201_207, e201_208, e201_211, e201_212, e201_213, e201_216, e201_217, e201_218, e201_221, e201_222, e201_223, e201_226, e201_227, am_bd_some, Option.toList_some, Option.toList_none, List.cons_append, List.nil_append, am_w8_0, am_w8_1, am_w8_2, am_w8_3, am_w8_4, eq_self, or_true, true_or, am_kd_sI, am_kd_sL, am_kd_sR, am_tc_sI, am_tc_sL, am_tc_sR, am_len_sI, am_len_sL, am_len_sR, am_rfs, if_true, if_false, am_rdL_sI, am_rR_sL, am_rt_cq, am_kd_cq, am_tc_cq, am_len_cq, am_rd_sL, am_rd_sR, am_rdL_sR, k9, okK_211 ok, y01, y11]
    rfl
  refine ⟨g10, ?_, rfl, ⟨⟨ok, rfl, rfl, ?_, rfl, rfl, fun x hx => ?_, fun b hb => ?_⟩, ⟨rfl, rfl, rfl, rfl, rfl⟩, fun b hb => ?_, fun b hb => ?_⟩, ?_⟩
  · have q1 : q_hw h g7 := ((((((q_hw.sI 24 _ (by decide) h).tr (q_hw.sI 25 _ (by decide) _)).tr (q_hw.sI 26 _ (by decide) _)).tr (q_hw.sI 27 _ (by decide) _)).tr (q_hw.sI 28 _ (by decide) _)).tr (q_hw.sI 29 _ (by decide) _)).tr (q_hw.sI 30 _ (by decide) _)
    have q2 : q_hw g7 g8 := q_hw.fn 223 _ _ (by decide) g7
    have q3 : q_hw g8 g9 := ((q_hw.fn 224 6 K (by decide) g8).tr (q_hw.fn 225 6 S (by decide) _)).tr (q_hw.fn 226 6 _ (by decide) _)
    have q4 : q_hw g9 g10 := (((q_hw.sI 31 _ (by decide) g9).tr (q_hw.sI 32 _ (by decide) _)).tr (q_hw.sI 33 _ (by decide) _)).tr (q_hw.sI 38 _ (by decide) _)
    exact ((q1.tr q2).tr q3).tr q4
  · show nI (q_nm f (F_pen f)) = q_pn f
    unfold q_pn
    rw [if_pos fk.2.2.1.1]
  · show (if 223 = 223 ∧ q_nm f x < F_w f * F_h f then q_bi (q_bt (g7.1 217 (34 * i + (26 + q_nm f x / F_w f))) (q_nm f x % F_w f)) else _) = _
    rw [if_pos ⟨rfl, q_nm_lt hx⟩, (q_nm_d hx).1, (q_nm_d hx).2]
    have x1 := hx.1
    have := mw (x / 8) (x % 8) (by omega) (by omega)
    rw [show 8 * (x / 8) + x % 8 = x by omega] at this
    rw [← this, ← Nat.add_assoc]
    rfl
  · show (if 224 = 224 ∧ b < 6 then g8.1 217 (34 * i + (8 + b)) else _) = _
    rw [if_pos ⟨rfl, by omega⟩, ← Nat.add_assoc]
    exact mk b hb
  · show (if 225 = 225 ∧ b < 6 then nI (F_w f) * g8.1 217 (34 * i + (20 + b)) + g8.1 217 (34 * i + (14 + b)) else _) = _
    have e1 : g8.1 217 (34 * i + (20 + b)) = nI (F_cell f b / 8) := by rw [← Nat.add_assoc]; exact (mc b hb).2
    have e2 : g8.1 217 (34 * i + (14 + b)) = nI (F_cell f b % 8) := by rw [← Nat.add_assoc]; exact (mc b hb).1
    rw [if_pos ⟨rfl, by omega⟩, e1, e2, pk_mul, nI_add]
    rfl
  · show (if 226 = 226 ∧ b < 6 then (0 : Int32) else _) = _
    rw [if_pos ⟨rfl, by omega⟩]
    rfl
  · show am_ev 201 0 [some (.ref 211), some (.int (nI i)), none] [] h = _
    rw [s0, s1, s2, s3, s4, s5, s6, lp1, s7, lp2', s8]
theorem den_hand0 (h : am_H) (ok : am_okH h) (c : Nat) (hc : c ≤ 2) (e : h.1 216 0 = nI c) (v : Int32) (n : ¬ (0 ≤ v ∧ v < nI c)) : am_den 201 [.ref 211, .int v] h = some (some (.int 0), h) := by
  have dis := den_is h ok 0 (by decide) c hc e v
  rw [if_neg n, nI_0] at dis
  show am_ev 201 0 [some (.ref 211), some (.int v), none] [] h = _
  simp only [e201_0, e201_1, e201_2, e201_3, e201_6, e201_9, e201_10, e201_11, e201_12, e201_13, e201_16, e201_17, e201_18, e201_19, e201_22, e201_25, e201_26, e201_27, e201_30, e201_31, e201_32, e201_35, e201_36, e201_39, e201_40, e201_41, e201_44, e201_45, e201_46, e201_49, e201_50, e201_51, e201_52, e201_55, e201_56, e201_59, e201_60, e201_61, e201_64, e201_65, e201_66, e201_69, e201_70, e201_71, e201_72, e201_75, e201_76, e201_79, e201_80, e201_81, e201_83, e201_86, e201_89, e201_90, e201_91, e201_93, e201_96, e201_99, e201_100, e201_101, e201_102, e201_103, e201_106, e201_109, e201_110, e201_113, e201_114, e201_115, e201_117, e201_118, e201_119, e201_122, e201_123, e201_124, e201_127, e201_128, e201_129, e201_132, e201_133, e201_136, e201_136z, e201_137, e201_140, e201_143, e201_144, e201_145, e201_146, e201_148, e201_151, e201_152, e201_155, e201_156, e201_157, e201_159, e201_160, e201_161, e201_164, e201_165, e201_166, e201_169, e201_170, e201_171, e201_174, e201_175, e201_177, e201_178, e201_179, e201_182, e201_183, e201_184, e201_186, e201_187, e201_188, e201_191, e201_192, e201_193, e201_194, e201_197, e201_198, e201_199, e201_200, e201_203, e201_206, e201_207, e201_208, e201_211, e201_212, e201_213, e201_216, e201_217, e201_218, e201_221, e201_222, e201_223, e201_226, e201_227, am_bd_some, Option.toList_some, Option.toList_none, List.cons_append, List.nil_append, am_w8_0, am_w8_1, am_w8_2, am_w8_3, am_w8_4, eq_self, or_true, true_or, am_kd_sI, am_kd_sL, am_kd_sR, am_tc_sI, am_tc_sL, am_tc_sR, am_len_sI, am_len_sL, am_len_sR, am_rfs, if_true, if_false, am_rdL_sI, am_rR_sL, am_rt_cq, am_kd_cq, am_tc_cq, am_len_cq, am_rd_sL, am_rd_sR, am_rdL_sR, okK_211 ok, dis, not_true]
theorem den_isBeast (h : am_H) (ok : am_okH h) (n : Nat) (hn : n ≤ 6) (e : h.1 211 30 = nI n) (b : Int32) : am_den 203 [.ref 211, .int b] h = some (some (.int (if 0 ≤ b ∧ b < nI n then 1 else 0)), h) := by
  have b1 : (if 0 ≤ b ∧ b < nI n then (1 : Int32) else 0) = 0 ∨ (if 0 ≤ b ∧ b < nI n then (1 : Int32) else 0) = 1 := by split <;> simp
  show am_ev 203 0 [some (.ref 211), some (.int b)] [] h = _
  simp only [e203_0, e203_1, e203_2, e203_3, e203_6, e203_7, e203_8, e203_11, am_bd_some, Option.toList_some, Option.toList_none, List.cons_append, List.nil_append, am_w8_0, am_w8_1, am_w8_2, am_w8_3, am_w8_4, eq_self, or_true, true_or, am_kd_sI, am_kd_sL, am_kd_sR, am_tc_sI, am_tc_sL, am_tc_sR, am_len_sI, am_len_sL, am_len_sR, am_rfs, if_true, if_false, am_rdL_sI, am_rR_sL, am_rt_cq, am_kd_cq, am_tc_cq, am_len_cq, am_rd_sL, am_rd_sR, am_rdL_sR, okK_211 ok, e, den_in, q_m1 (show n < 2 ^ 30 by omega), b1]
theorem G_0_pi {f : q_Fl} (h : F_ok f) : G_pi f (G_0 f) := fun b hb => by
  have := (h.2.2.2.2.2.2.2.2.2.2.1 b hb).2.2.2.1
  show (0 : Nat).testBit b = decide (F_cell f b = F_pen f)
  rw [Nat.zero_testBit]
  exact (decide_eq_false this).symm
