/-! part 9G: the reference's tokens: numbers, and all -/
def t_nv (t : Nat → Nat) : Nat → Nat → Nat → Nat → Nat
  | 0, _, _, v => v
  | m + 1, a, n, v => t_nv t m (a + 1) (n + 1) (if n < 2 then 10 * v + (t a - 48) else v)
theorem t_tk_n (h : am_H) (t : Nat → Nat) (L : Nat) (x : t_tx h t L) (b c i1 : Int32) (w : Int64) : ∀ (r a n v : Nat), a + r = L → n ≤ a → am_ev 173 163 [some (.ref 211), some (.int i1), some (.int (nI n))] [] (t_up h (nI a) b c (nI v) w) = am_ev 173 224 [some (.ref 211), some (.int i1), some (.int (nI (n + (t_wh t_di t r a - a))))] [] (t_up h (nI (t_wh t_di t r a)) b c (nI (t_nv t (t_wh t_di t r a - a) a n v)) w) := by
  have L6 := x.2.1
  intro r
  induction r with
  | zero =>
    intro a n v ha hn
    obtain rfl : a = L := by omega
    have x1 := t_up_tx x (nI a) b c (nI v) w
    have dd := den_see _ t a a x1 (Nat.le_refl _) rfl
    have e : t_sv t a a = -1 := if_neg (Nat.lt_irrefl _)
    rw [e] at dd
    have n1 : ¬ ((48 : Int32) ≤ -1 ∧ (-1 : Int32) ≤ 57) := by decide
    have e0 : t_wh t_di t 0 a = a := rfl
    rw [e0, Nat.sub_self, Nat.add_zero, e173_163]
    simp only [e173_0, e173_1, e173_4, e173_6, e173_9, e173_10, e173_13, e173_15, e173_18, e173_19, e173_19i, e173_20, e173_23, e173_24, e173_25, e173_28, e173_31, e173_32, e173_33, e173_36, e173_39, e173_40, e173_43, e173_44, e173_45, e173_46, e173_49, e173_50, e173_51, e173_52, e173_55, e173_56, e173_57, e173_60, e173_63, e173_64, e173_66, e173_68, e173_71, e173_74, e173_75, e173_78, e173_80, e173_82, e173_85, e173_88, e173_89, e173_90, e173_93, e173_95, e173_96, e173_97, e173_100, e173_101, e173_102, e173_105, e173_106, e173_106i, e173_107, e173_110, e173_111, e173_112, e173_115, e173_118, e173_121, e173_122, e173_123, e173_125, e173_128, e173_129, e173_132, e173_133, e173_136, e173_139, e173_140, e173_141, e173_144, e173_147, e173_148, e173_150, e173_152, e173_155, e173_158, e173_159, e173_160, e173_164, e173_167, e173_169, e173_171, e173_174, e173_177, e173_178, e173_179, e173_180, e173_183, e173_185, e173_186, e173_189, e173_190, e173_191, e173_194, e173_195, e173_197, e173_198, e173_201, e173_202, e173_205, e173_208, e173_209, e173_209i, e173_210, e173_213, e173_214, e173_215, e173_218, e173_221, e173_225, e173_226, e173_227, e173_230, e173_231, e173_234, e173_235, e173_238, e173_241, e173_242, e173_242i, e173_243, e173_246, e173_247, e173_248, e173_251, e173_252, e173_253, e173_255, e173_258, e173_259, e173_262, e173_263, e173_266, am_bd_some, Option.toList_some, Option.toList_none, List.cons_append, List.nil_append, am_w8_0, am_w8_1, am_w8_2, am_w8_3, am_w8_4, eq_self, or_true, true_or, am_kd_sI, am_kd_sL, am_kd_sR, am_tc_sI, am_tc_sL, am_tc_sR, am_len_sI, am_len_sL, am_len_sR, am_rfs, if_true, if_false, am_rdL_sI, am_rR_sL, am_rt_cq, am_kd_cq, am_tc_cq, am_len_cq, am_rd_sL, am_rd_sR, am_rdL_sR, okK_211 x1.1, dd, den_in, n1]
    rfl
  | succ r ih =>
    intro a n v ha hn
    have x1 := t_up_tx x (nI a) b c (nI v) w
    have dd := den_see _ t L a x1 (by omega) rfl
    have e : t_sv t L a = nI (t a) := if_pos (by omega)
    rw [e] at dd
    have tb := x.t (k := a) (by omega)
    have j1 : (48 : Int32) ≤ nI (t a) ↔ 48 ≤ t a := nI_leI (a := 48) (by decide) (by omega)
    have j2 : nI (t a) ≤ (57 : Int32) ↔ t a ≤ 57 := nI_leI (b := 57) (by omega) (by decide)
    rw [e173_163]
    by_cases cc : 48 ≤ t a ∧ t a ≤ 57
    · have ew : t_wh t_di t (r + 1) a = t_wh t_di t r (a + 1) := if_pos (decide_eq_true cc)
      have le := (t_wh_le t_di t r (a + 1)).1
      have q1 : (48 : Int32) ≤ nI (t a) ∧ nI (t a) ≤ 57 := ⟨j1.mpr cc.1, j2.mpr cc.2⟩
      have q1' := eq_true q1
      have y : ¬ (1 : Int32) = 0 := by decide
      have s1 : t_wh t_di t r (a + 1) - a = (t_wh t_di t r (a + 1) - (a + 1)) + 1 := by omega
      have s2 : t_nv t (t_wh t_di t r (a + 1) - (a + 1) + 1) a n v = t_nv t (t_wh t_di t r (a + 1) - (a + 1)) (a + 1) (n + 1) (if n < 2 then 10 * v + (t a - 48) else v) := rfl
      have s3 : n + (t_wh t_di t r (a + 1) - (a + 1) + 1) = n + 1 + (t_wh t_di t r (a + 1) - (a + 1)) := by omega
      have r14 : (t_up h (nI a) b c (nI v) w).1 211 14 = nI v := rfl
      have r10 : ∀ v, (t_up h (nI a) b c v w).1 211 10 = nI a := fun _ => rfl
      have ok2 : ∀ v, am_okH (t_up h (nI a) b c v w) := fun _ => x.1
      have m1 : (10 : Int32) * nI v = nI (10 * v) := pk_mul 10 _
      have m2 : nI (10 * v + t a) - (48 : Int32) = nI (10 * v + (t a - 48)) := by
        have := t_sub (a := 10 * v + t a) (b := 48) (by omega)
        rw [show 10 * v + t a - 48 = 10 * v + (t a - 48) by omega] at this
        exact this
      have j3 : (2 : Int32) ≤ nI n ↔ 2 ≤ n := nI_leI (a := 2) (by decide) (by omega)
      rw [ew, s1, s2, s3, ← ih (a + 1) (n + 1) (if n < 2 then 10 * v + (t a - 48) else v) (by omega) (by omega)]
      by_cases cn : n < 2
      · have cn' : ¬ (2 : Int32) ≤ nI n := fun w => by have := j3.mp w; omega
        rw [if_pos cn]
        simp only [e173_0, e173_1, e173_4, e173_6, e173_9, e173_10, e173_13, e173_15, e173_18, e173_19, e173_19i, e173_20, e173_23, e173_24, e173_25, e173_28, e173_31, e173_32, e173_33, e173_36, e173_39, e173_40, e173_43, e173_44, e173_45, e173_46, e173_49, e173_50, e173_51, e173_52, e173_55, e173_56, e173_57, e173_60, e173_63, e173_64, e173_66, e173_68, e173_71, e173_74, e173_75, e173_78, e173_80, e173_82, e173_85, e173_88, e173_89, e173_90, e173_93, e173_95, e173_96, e173_97, e173_100, e173_101, e173_102, e173_105, e173_106, e173_106i, e173_107, e173_110, e173_111, e173_112, e173_115, e173_118, e173_121, e173_122, e173_123, e173_125, e173_128, e173_129, e173_132, e173_133, e173_136, e173_139, e173_140, e173_141, e173_144, e173_147, e173_148, e173_150, e173_152, e173_155, e173_158, e173_159, e173_160, e173_164, e173_167, e173_169, e173_171, e173_174, e173_177, e173_178, e173_179, e173_180, e173_183, e173_185, e173_186, e173_189, e173_190, e173_191, e173_194, e173_195, e173_197, e173_198, e173_201, e173_202, e173_205, e173_208, e173_209, e173_209i, e173_210, e173_213, e173_214, e173_215, e173_218, e173_221, e173_225, e173_226, e173_227, e173_230, e173_231, e173_234, e173_235, e173_238, e173_241, e173_242, e173_242i, e173_243, e173_246, e173_247, e173_248, e173_251, e173_252, e173_253, e173_255, e173_258, e173_259, e173_262, e173_263, e173_266, am_bd_some, Option.toList_some, Option.toList_none, List.cons_append, List.nil_append, am_w8_0, am_w8_1, am_w8_2, am_w8_3, am_w8_4, eq_self, or_true, true_or, am_kd_sI, am_kd_sL, am_kd_sR, am_tc_sI, am_tc_sL, am_tc_sR, am_len_sI, am_len_sL, am_len_sR, am_rfs, if_true, if_false, am_rdL_sI, am_rR_sL, am_rt_cq, am_kd_cq, am_tc_cq, am_len_cq, am_rd_sL, am_rd_sR, am_rdL_sR, okK_211 x1.1, dd, den_in, q1', y, cn', r14, m1, nI_add, m2, t_up_d, okK_211 (ok2 _), r10, nI_1, t_up_a]
      · have cn' : (2 : Int32) ≤ nI n := j3.mpr (by omega)
        rw [if_neg cn]
        simp only [e173_0, e173_1, e173_4, e173_6, e173_9, e173_10, e173_13, e173_15, e173_18, e173_19, e173_19i, e173_20, e173_23, e173_24, e173_25, e173_28, e173_31, e173_32, e173_33, e173_36, e173_39, e173_40, e173_43, e173_44, e173_45, e173_46, e173_49, e173_50, e173_51, e173_52, e173_55, e173_56, e173_57, e173_60, e173_63, e173_64, e173_66, e173_68, e173_71, e173_74, e173_75, e173_78, e173_80, e173_82, e173_85, e173_88, e173_89, e173_90, e173_93, e173_95, e173_96, e173_97, e173_100, e173_101, e173_102, e173_105, e173_106, e173_106i, e173_107, e173_110, e173_111, e173_112, e173_115, e173_118, e173_121, e173_122, e173_123, e173_125, e173_128, e173_129, e173_132, e173_133, e173_136, e173_139, e173_140, e173_141, e173_144, e173_147, e173_148, e173_150, e173_152, e173_155, e173_158, e173_159, e173_160, e173_164, e173_167, e173_169, e173_171, e173_174, e173_177, e173_178, e173_179, e173_180, e173_183, e173_185, e173_186, e173_189, e173_190, e173_191, e173_194, e173_195, e173_197, e173_198, e173_201, e173_202, e173_205, e173_208, e173_209, e173_209i, e173_210, e173_213, e173_214, e173_215, e173_218, e173_221, e173_225, e173_226, e173_227, e173_230, e173_231, e173_234, e173_235, e173_238, e173_241, e173_242, e173_242i, e173_243, e173_246, e173_247, e173_248, e173_251, e173_252, e173_253, e173_255, e173_258, e173_259, e173_262, e173_263, e173_266, am_bd_some, Option.toList_some, Option.toList_none, List.cons_append, List.nil_append, am_w8_0, am_w8_1, am_w8_2, am_w8_3, am_w8_4, eq_self, or_true, true_or, am_kd_sI, am_kd_sL, am_kd_sR, am_tc_sI, am_tc_sL, am_tc_sR, am_len_sI, am_len_sL, am_len_sR, am_rfs, if_true, if_false, am_rdL_sI, am_rR_sL, am_rt_cq, am_kd_cq, am_tc_cq, am_len_cq, am_rd_sL, am_rd_sR, am_rdL_sR, okK_211 x1.1, dd, den_in, q1', y, cn', r14, t_up_d, okK_211 (ok2 _), r10, nI_1, t_up_a]
    · have ew : t_wh t_di t (r + 1) a = a := if_neg (fun w => cc (of_decide_eq_true w))
      have q1 : ¬ ((48 : Int32) ≤ nI (t a) ∧ nI (t a) ≤ 57) := fun w => cc ⟨j1.mp w.1, j2.mp w.2⟩
      rw [ew, Nat.sub_self, Nat.add_zero]
      simp only [e173_0, e173_1, e173_4, e173_6, e173_9, e173_10, e173_13, e173_15, e173_18, e173_19, e173_19i, e173_20, e173_23, e173_24, e173_25, e173_28, e173_31, e173_32, e173_33, e173_36, e173_39, e173_40, e173_43, e173_44, e173_45, e173_46, e173_49, e173_50, e173_51, e173_52, e173_55, e173_56, e173_57, e173_60, e173_63, e173_64, e173_66, e173_68, e173_71, e173_74, e173_75, e173_78, e173_80, e173_82, e173_85, e173_88, e173_89, e173_90, e173_93, e173_95, e173_96, e173_97, e173_100, e173_101, e173_102, e173_105, e173_106, e173_106i, e173_107, e173_110, e173_111, e173_112, e173_115, e173_118, e173_121, e173_122, e173_123, e173_125, e173_128, e173_129, e173_132, e173_133, e173_136, e173_139, e173_140, e173_141, e173_144, e173_147, e173_148, e173_150, e173_152, e173_155, e173_158, e173_159, e173_160, e173_164, e173_167, e173_169, e173_171, e173_174, e173_177, e173_178, e173_179, e173_180, e173_183, e173_185, e173_186, e173_189, e173_190, e173_191, e173_194, e173_195, e173_197, e173_198, e173_201, e173_202, e173_205, e173_208, e173_209, e173_209i, e173_210, e173_213, e173_214, e173_215, e173_218, e173_221, e173_225, e173_226, e173_227, e173_230, e173_231, e173_234, e173_235, e173_238, e173_241, e173_242, e173_242i, e173_243, e173_246, e173_247, e173_248, e173_251, e173_252, e173_253, e173_255, e173_258, e173_259, e173_262, e173_263, e173_266, am_bd_some, Option.toList_some, Option.toList_none, List.cons_append, List.nil_append, am_w8_0, am_w8_1, am_w8_2, am_w8_3, am_w8_4, eq_self, or_true, true_or, am_kd_sI, am_kd_sL, am_kd_sR, am_tc_sI, am_tc_sL, am_tc_sR, am_len_sI, am_len_sL, am_len_sR, am_rfs, if_true, if_false, am_rdL_sI, am_rR_sL, am_rt_cq, am_kd_cq, am_tc_cq, am_len_cq, am_rd_sL, am_rd_sR, am_rdL_sR, okK_211 x1.1, dd, den_in, q1]
      rfl
/-! a token: where it begins, its sort (0 end, 1 none, 2 word, 3 number, 4 sign), where it ends, value, word -/
def t_S (t : Nat → Nat) (L a : Nat) : Nat := t_wh t_bl t (L - a) a
def t_E (t : Nat → Nat) (L s : Nat) : Nat := if s < L then (if t_le (t s) = true then t_wh t_le t (L - s) s else if t_di (t s) = true then t_wh t_di t (L - s) s else s + 1) else s
def t_K (t : Nat → Nat) (L s : Nat) : Nat := if s < L then (if t_le (t s) = true then 2 else if t_di (t s) = true then (if 2 < t_E t L s - s then 1 else 3) else if t s = 59 then 4 else 1) else 0
def t_V (t : Nat → Nat) (L s : Nat) (o : Int32) : Int32 := if s < L ∧ t_le (t s) = false ∧ t_di (t s) = true then nI (t_nv t (t_E t L s - s) s 0 0) else o
def t_W (t : Nat → Nat) (L s : Nat) : Nat := if s < L ∧ t_le (t s) = true then (if 8 < t_E t L s - s then 0 else t_wN t (t_E t L s - s) s 0) else 0
theorem den_token (h : am_H) (t : Nat → Nat) (L a : Nat) (x : t_tx h t L) (ha : a ≤ L) (e : h.1 211 10 = nI a) : am_den 173 [.ref 211] h = some (none, t_up h (nI (t_E t L (t_S t L a))) (nI (t_S t L a)) (nI (t_K t L (t_S t L a))) (t_V t L (t_S t L a) (h.1 211 14)) (lN (t_W t L (t_S t L a)))) := by
  have L6 := x.2.1
  have lp := t_tk_b h t L x (L - a) a (by omega)
  rw [am_sI_id e] at lp
  have sb := t_wh_le t_bl t (L - a) a
  show am_ev 173 0 [some (.ref 211), none, none] [] h = _
  rw [lp]
  change am_ev _ _ _ _ (am_sI h 211 10 (nI (t_S t L a))) = _
  have hs : t_S t L a ≤ L := by show t_wh t_bl t (L - a) a ≤ L; omega
  generalize t_S t L a = s at hs
  have hid := t_up_id h
  have h1 : am_sI h 211 10 (nI s) = t_up h (nI s) (h.1 211 12) (h.1 211 13) (h.1 211 14) (h.2.1 211 15) := by
    have := congrArg (fun g => am_sI g 211 10 (nI s)) hid
    rw [← this]
    exact t_up_a h _ _ _ _ _ _
  rw [h1]
  have ok2 : ∀ a b c d w, am_okH (t_up h a b c d w) := fun _ _ _ _ _ => x.1
  have r10 : ∀ a b c d w, (t_up h a b c d w).1 211 10 = a := fun _ _ _ _ _ => rfl
  have r15 : ∀ a b c d w, (t_up h a b c d w).2.1 211 15 = w := fun _ _ _ _ _ => rfl
  have w0 : (0 : Int64) = lN 0 := rfl
  have dd : ∀ b c d w, am_den 174 [.ref 211] (t_up h (nI s) b c d w) = some (some (.int (t_sv t L s)), t_up h (nI s) b c d w) := fun b c d w => den_see _ t L s (t_up_tx x _ _ _ _ _) hs rfl
  have s1 : am_ev 173 31 [some (.ref 211), none, none] [] (t_up h (nI s) (h.1 211 12) (h.1 211 13) (h.1 211 14) (h.2.1 211 15)) = am_ev 173 51 [some (.ref 211), some (.int (t_sv t L s)), some (.int 0)] [] (t_up h (nI s) (nI s) (h.1 211 13) (h.1 211 14) (lN 0)) := by
    rw [e173_31]
    simp only [e173_0, e173_1, e173_4, e173_6, e173_9, e173_10, e173_13, e173_15, e173_18, e173_19, e173_19i, e173_20, e173_23, e173_24, e173_25, e173_28, e173_32, e173_33, e173_36, e173_39, e173_40, e173_43, e173_44, e173_45, e173_46, e173_49, e173_50, e173_52, e173_55, e173_56, e173_57, e173_60, e173_63, e173_64, e173_66, e173_68, e173_71, e173_74, e173_75, e173_78, e173_80, e173_82, e173_85, e173_88, e173_89, e173_90, e173_93, e173_95, e173_96, e173_97, e173_100, e173_101, e173_102, e173_105, e173_106, e173_106i, e173_107, e173_110, e173_111, e173_112, e173_115, e173_118, e173_121, e173_122, e173_123, e173_125, e173_128, e173_129, e173_132, e173_133, e173_136, e173_139, e173_140, e173_141, e173_144, e173_147, e173_148, e173_150, e173_152, e173_155, e173_158, e173_159, e173_160, e173_163, e173_164, e173_167, e173_169, e173_171, e173_174, e173_177, e173_178, e173_179, e173_180, e173_183, e173_185, e173_186, e173_189, e173_190, e173_191, e173_194, e173_195, e173_197, e173_198, e173_201, e173_202, e173_205, e173_208, e173_209, e173_209i, e173_210, e173_213, e173_214, e173_215, e173_218, e173_221, e173_224, e173_225, e173_226, e173_227, e173_230, e173_231, e173_234, e173_235, e173_238, e173_241, e173_242, e173_242i, e173_243, e173_246, e173_247, e173_248, e173_251, e173_252, e173_253, e173_255, e173_258, e173_259, e173_262, e173_263, e173_266, am_bd_some, Option.toList_some, Option.toList_none, List.cons_append, List.nil_append, am_w8_0, am_w8_1, am_w8_2, am_w8_3, am_w8_4, eq_self, or_true, true_or, am_kd_sI, am_kd_sL, am_kd_sR, am_tc_sI, am_tc_sL, am_tc_sR, am_len_sI, am_len_sL, am_len_sR, am_rfs, if_true, if_false, am_rdL_sI, am_rR_sL, am_rt_cq, am_kd_cq, am_tc_cq, am_len_cq, am_rd_sL, am_rd_sR, am_rdL_sR, okK_211 (ok2 _ _ _ _ _), r10, t_up_b, dd, t_up_w]
    rfl
  rw [s1]
  by_cases c0 : s < L
  · have sv : t_sv t L s = nI (t s) := if_pos c0
    have tb := x.t (k := s) c0
    have g0 : (0 : Int32) ≤ nI (t s) := by
      rw [show (0 : Int32) = nI 0 from rfl]
      exact (nI_leI (by decide) (by omega)).mpr (Nat.zero_le _)
    have j1 : (97 : Int32) ≤ nI (t s) ↔ 97 ≤ t s := nI_leI (a := 97) (by decide) (by omega)
    have j2 : nI (t s) ≤ (122 : Int32) ↔ t s ≤ 122 := nI_leI (b := 122) (by omega) (by decide)
    have j3 : (48 : Int32) ≤ nI (t s) ↔ 48 ≤ t s := nI_leI (a := 48) (by decide) (by omega)
    have j4 : nI (t s) ≤ (57 : Int32) ↔ t s ≤ 57 := nI_leI (b := 57) (by omega) (by decide)
    have j5 : nI (t s) = (59 : Int32) ↔ t s = 59 := nI_eq (b := 59) (by omega) (by decide)
    have y : ¬ (1 : Int32) = 0 := by decide
    rw [sv]
    by_cases c1 : 97 ≤ t s ∧ t s ≤ 122
    · have cl : t_le (t s) = true := decide_eq_true c1
      have q1 := eq_true (show (97 : Int32) ≤ nI (t s) ∧ nI (t s) ≤ 122 from ⟨j1.mpr c1.1, j2.mpr c1.2⟩)
      have eE : t_E t L s = t_wh t_le t (L - s) s := by unfold t_E; rw [if_pos c0, if_pos cl]
      have eK : t_K t L s = 2 := by unfold t_K; rw [if_pos c0, if_pos cl]
      have eV : t_V t L s (h.1 211 14) = h.1 211 14 := if_neg (fun w => by rw [cl] at w; exact absurd w.2.1 (by decide))
      have eW : t_W t L s = if 8 < t_E t L s - s then 0 else t_wN t (t_E t L s - s) s 0 := if_pos ⟨c0, cl⟩
      have le := t_wh_le t_le t (L - s) s
      have lw := t_tk_w h t L x (nI s) (h.1 211 13) (h.1 211 14) (nI (t s)) (L - s) s 0 0 (by omega) (Nat.zero_le _)
      rw [nI_0, Nat.zero_add, ← eE] at lw
      rw [← eE] at le
      have s2 : am_ev 173 51 [some (.ref 211), some (.int (nI (t s))), some (.int 0)] [] (t_up h (nI s) (nI s) (h.1 211 13) (h.1 211 14) (lN 0)) = am_ev 173 74 [some (.ref 211), some (.int (nI (t s))), some (.int 0)] [] (t_up h (nI s) (nI s) (h.1 211 13) (h.1 211 14) (lN 0)) := by
        rw [e173_51]
        simp only [e173_0, e173_1, e173_4, e173_6, e173_9, e173_10, e173_13, e173_15, e173_18, e173_19, e173_19i, e173_20, e173_23, e173_24, e173_25, e173_28, e173_31, e173_32, e173_33, e173_36, e173_39, e173_40, e173_43, e173_44, e173_45, e173_46, e173_49, e173_50, e173_52, e173_55, e173_56, e173_57, e173_60, e173_63, e173_64, e173_66, e173_68, e173_71, e173_75, e173_78, e173_80, e173_82, e173_85, e173_88, e173_89, e173_90, e173_93, e173_95, e173_96, e173_97, e173_100, e173_101, e173_102, e173_105, e173_106, e173_106i, e173_107, e173_110, e173_111, e173_112, e173_115, e173_118, e173_121, e173_122, e173_123, e173_125, e173_128, e173_129, e173_132, e173_133, e173_136, e173_139, e173_140, e173_141, e173_144, e173_147, e173_148, e173_150, e173_152, e173_155, e173_158, e173_159, e173_160, e173_163, e173_164, e173_167, e173_169, e173_171, e173_174, e173_177, e173_178, e173_179, e173_180, e173_183, e173_185, e173_186, e173_189, e173_190, e173_191, e173_194, e173_195, e173_197, e173_198, e173_201, e173_202, e173_205, e173_208, e173_209, e173_209i, e173_210, e173_213, e173_214, e173_215, e173_218, e173_221, e173_224, e173_225, e173_226, e173_227, e173_230, e173_231, e173_234, e173_235, e173_238, e173_241, e173_242, e173_242i, e173_243, e173_246, e173_247, e173_248, e173_251, e173_252, e173_253, e173_255, e173_258, e173_259, e173_262, e173_263, e173_266, am_bd_some, Option.toList_some, Option.toList_none, List.cons_append, List.nil_append, am_w8_0, am_w8_1, am_w8_2, am_w8_3, am_w8_4, eq_self, or_true, true_or, am_kd_sI, am_kd_sL, am_kd_sR, am_tc_sI, am_tc_sL, am_tc_sR, am_len_sI, am_len_sL, am_len_sR, am_rfs, if_true, if_false, am_rdL_sI, am_rR_sL, am_rt_cq, am_kd_cq, am_tc_cq, am_len_cq, am_rd_sL, am_rd_sR, am_rdL_sR, g0, den_in, q1, y]
      rw [s2, lw, eK, eV, eW, e173_121]
      have j6 : nI (t_E t L s - s) ≤ (8 : Int32) ↔ t_E t L s - s ≤ 8 := nI_leI (b := 8) (by omega) (by decide)
      by_cases c8 : 8 < t_E t L s - s
      · have c8' : ¬ nI (t_E t L s - s) ≤ (8 : Int32) := fun w => by have := j6.mp w; omega
        rw [if_pos c8]
        simp only [e173_0, e173_1, e173_4, e173_6, e173_9, e173_10, e173_13, e173_15, e173_18, e173_19, e173_19i, e173_20, e173_23, e173_24, e173_25, e173_28, e173_31, e173_32, e173_33, e173_36, e173_39, e173_40, e173_43, e173_44, e173_45, e173_46, e173_49, e173_50, e173_51, e173_52, e173_55, e173_56, e173_57, e173_60, e173_63, e173_64, e173_66, e173_68, e173_71, e173_74, e173_75, e173_78, e173_80, e173_82, e173_85, e173_88, e173_89, e173_90, e173_93, e173_95, e173_96, e173_97, e173_100, e173_101, e173_102, e173_105, e173_106, e173_106i, e173_107, e173_110, e173_111, e173_112, e173_115, e173_118, e173_122, e173_123, e173_125, e173_128, e173_129, e173_132, e173_133, e173_136, e173_139, e173_140, e173_141, e173_144, e173_147, e173_148, e173_150, e173_152, e173_155, e173_158, e173_159, e173_160, e173_163, e173_164, e173_167, e173_169, e173_171, e173_174, e173_177, e173_178, e173_179, e173_180, e173_183, e173_185, e173_186, e173_189, e173_190, e173_191, e173_194, e173_195, e173_197, e173_198, e173_201, e173_202, e173_205, e173_208, e173_209, e173_209i, e173_210, e173_213, e173_214, e173_215, e173_218, e173_221, e173_224, e173_225, e173_226, e173_227, e173_230, e173_231, e173_234, e173_235, e173_238, e173_241, e173_242, e173_242i, e173_243, e173_246, e173_247, e173_248, e173_251, e173_252, e173_253, e173_255, e173_258, e173_259, e173_262, e173_263, e173_266, am_bd_some, Option.toList_some, Option.toList_none, List.cons_append, List.nil_append, am_w8_0, am_w8_1, am_w8_2, am_w8_3, am_w8_4, eq_self, or_true, true_or, am_kd_sI, am_kd_sL, am_kd_sR, am_tc_sI, am_tc_sL, am_tc_sR, am_len_sI, am_len_sL, am_len_sR, am_rfs, if_true, if_false, am_rdL_sI, am_rR_sL, am_rt_cq, am_kd_cq, am_tc_cq, am_len_cq, am_rd_sL, am_rd_sR, am_rdL_sR, c8', okK_211 (ok2 _ _ _ _ _), t_up_w, t_up_c]
        rfl
      · have c8' : nI (t_E t L s - s) ≤ (8 : Int32) := j6.mpr (by omega)
        rw [if_neg c8]
        simp only [e173_0, e173_1, e173_4, e173_6, e173_9, e173_10, e173_13, e173_15, e173_18, e173_19, e173_19i, e173_20, e173_23, e173_24, e173_25, e173_28, e173_31, e173_32, e173_33, e173_36, e173_39, e173_40, e173_43, e173_44, e173_45, e173_46, e173_49, e173_50, e173_51, e173_52, e173_55, e173_56, e173_57, e173_60, e173_63, e173_64, e173_66, e173_68, e173_71, e173_74, e173_75, e173_78, e173_80, e173_82, e173_85, e173_88, e173_89, e173_90, e173_93, e173_95, e173_96, e173_97, e173_100, e173_101, e173_102, e173_105, e173_106, e173_106i, e173_107, e173_110, e173_111, e173_112, e173_115, e173_118, e173_122, e173_123, e173_125, e173_128, e173_129, e173_132, e173_133, e173_136, e173_139, e173_140, e173_141, e173_144, e173_147, e173_148, e173_150, e173_152, e173_155, e173_158, e173_159, e173_160, e173_163, e173_164, e173_167, e173_169, e173_171, e173_174, e173_177, e173_178, e173_179, e173_180, e173_183, e173_185, e173_186, e173_189, e173_190, e173_191, e173_194, e173_195, e173_197, e173_198, e173_201, e173_202, e173_205, e173_208, e173_209, e173_209i, e173_210, e173_213, e173_214, e173_215, e173_218, e173_221, e173_224, e173_225, e173_226, e173_227, e173_230, e173_231, e173_234, e173_235, e173_238, e173_241, e173_242, e173_242i, e173_243, e173_246, e173_247, e173_248, e173_251, e173_252, e173_253, e173_255, e173_258, e173_259, e173_262, e173_263, e173_266, am_bd_some, Option.toList_some, Option.toList_none, List.cons_append, List.nil_append, am_w8_0, am_w8_1, am_w8_2, am_w8_3, am_w8_4, eq_self, or_true, true_or, am_kd_sI, am_kd_sL, am_kd_sR, am_tc_sI, am_tc_sL, am_tc_sR, am_len_sI, am_len_sL, am_len_sR, am_rfs, if_true, if_false, am_rdL_sI, am_rR_sL, am_rt_cq, am_kd_cq, am_tc_cq, am_len_cq, am_rd_sL, am_rd_sR, am_rdL_sR, c8', okK_211 (ok2 _ _ _ _ _), r15, t_up_w, t_up_c]
        rfl
    · have cl : t_le (t s) = false := decide_eq_false c1
      have cl' : ¬ t_le (t s) = true := by rw [cl]; decide
      have q1 : ¬ ((97 : Int32) ≤ nI (t s) ∧ nI (t s) ≤ 122) := fun w => c1 ⟨j1.mp w.1, j2.mp w.2⟩
      have eW : t_W t L s = 0 := if_neg (fun w => cl' w.2)
      rw [eW]
      by_cases c2 : 48 ≤ t s ∧ t s ≤ 57
      · have cd : t_di (t s) = true := decide_eq_true c2
        have q2 := eq_true (show (48 : Int32) ≤ nI (t s) ∧ nI (t s) ≤ 57 from ⟨j3.mpr c2.1, j4.mpr c2.2⟩)
        have eE : t_E t L s = t_wh t_di t (L - s) s := by unfold t_E; rw [if_pos c0, if_neg cl', if_pos cd]
        have eK : t_K t L s = if 2 < t_E t L s - s then 1 else 3 := by unfold t_K; rw [if_pos c0, if_neg cl', if_pos cd]
        have eV : t_V t L s (h.1 211 14) = nI (t_nv t (t_E t L s - s) s 0 0) := if_pos ⟨c0, cl, cd⟩
        have le := t_wh_le t_di t (L - s) s
        have lw := t_tk_n h t L x (nI s) (h.1 211 13) (nI (t s)) (lN 0) (L - s) s 0 0 (by omega) (Nat.zero_le _)
        rw [nI_0, Nat.zero_add, ← eE] at lw
        rw [← eE] at le
        have s2 : am_ev 173 51 [some (.ref 211), some (.int (nI (t s))), some (.int 0)] [] (t_up h (nI s) (nI s) (h.1 211 13) (h.1 211 14) (lN 0)) = am_ev 173 163 [some (.ref 211), some (.int (nI (t s))), some (.int 0)] [] (t_up h (nI s) (nI s) (h.1 211 13) 0 (lN 0)) := by
          rw [e173_51]
          simp only [e173_0, e173_1, e173_4, e173_6, e173_9, e173_10, e173_13, e173_15, e173_18, e173_19, e173_19i, e173_20, e173_23, e173_24, e173_25, e173_28, e173_31, e173_32, e173_33, e173_36, e173_39, e173_40, e173_43, e173_44, e173_45, e173_46, e173_49, e173_50, e173_52, e173_55, e173_56, e173_57, e173_60, e173_63, e173_64, e173_66, e173_68, e173_71, e173_74, e173_75, e173_78, e173_80, e173_82, e173_85, e173_88, e173_89, e173_90, e173_93, e173_95, e173_96, e173_97, e173_100, e173_101, e173_102, e173_105, e173_106, e173_106i, e173_107, e173_110, e173_111, e173_112, e173_115, e173_118, e173_121, e173_122, e173_123, e173_125, e173_128, e173_129, e173_132, e173_133, e173_136, e173_139, e173_140, e173_141, e173_144, e173_147, e173_148, e173_150, e173_152, e173_155, e173_158, e173_159, e173_160, e173_164, e173_167, e173_169, e173_171, e173_174, e173_177, e173_178, e173_179, e173_180, e173_183, e173_185, e173_186, e173_189, e173_190, e173_191, e173_194, e173_195, e173_197, e173_198, e173_201, e173_202, e173_205, e173_208, e173_209, e173_209i, e173_210, e173_213, e173_214, e173_215, e173_218, e173_221, e173_224, e173_225, e173_226, e173_227, e173_230, e173_231, e173_234, e173_235, e173_238, e173_241, e173_242, e173_242i, e173_243, e173_246, e173_247, e173_248, e173_251, e173_252, e173_253, e173_255, e173_258, e173_259, e173_262, e173_263, e173_266, am_bd_some, Option.toList_some, Option.toList_none, List.cons_append, List.nil_append, am_w8_0, am_w8_1, am_w8_2, am_w8_3, am_w8_4, eq_self, or_true, true_or, am_kd_sI, am_kd_sL, am_kd_sR, am_tc_sI, am_tc_sL, am_tc_sR, am_len_sI, am_len_sL, am_len_sR, am_rfs, if_true, if_false, am_rdL_sI, am_rR_sL, am_rt_cq, am_kd_cq, am_tc_cq, am_len_cq, am_rd_sL, am_rd_sR, am_rdL_sR, g0, den_in, q1, q2, y, okK_211 (ok2 _ _ _ _ _), t_up_d]
        rw [s2, lw, eK, eV, e173_224]
        have j6 : nI (t_E t L s - s) ≤ (2 : Int32) ↔ t_E t L s - s ≤ 2 := nI_leI (b := 2) (by omega) (by decide)
        by_cases c8 : 2 < t_E t L s - s
        · have c8' : ¬ nI (t_E t L s - s) ≤ (2 : Int32) := fun w => by have := j6.mp w; omega
          rw [if_pos c8]
          simp only [e173_0, e173_1, e173_4, e173_6, e173_9, e173_10, e173_13, e173_15, e173_18, e173_19, e173_19i, e173_20, e173_23, e173_24, e173_25, e173_28, e173_31, e173_32, e173_33, e173_36, e173_39, e173_40, e173_43, e173_44, e173_45, e173_46, e173_49, e173_50, e173_51, e173_52, e173_55, e173_56, e173_57, e173_60, e173_63, e173_64, e173_66, e173_68, e173_71, e173_74, e173_75, e173_78, e173_80, e173_82, e173_85, e173_88, e173_89, e173_90, e173_93, e173_95, e173_96, e173_97, e173_100, e173_101, e173_102, e173_105, e173_106, e173_106i, e173_107, e173_110, e173_111, e173_112, e173_115, e173_118, e173_121, e173_122, e173_123, e173_125, e173_128, e173_129, e173_132, e173_133, e173_136, e173_139, e173_140, e173_141, e173_144, e173_147, e173_148, e173_150, e173_152, e173_155, e173_158, e173_159, e173_160, e173_163, e173_164, e173_167, e173_169, e173_171, e173_174, e173_177, e173_178, e173_179, e173_180, e173_183, e173_185, e173_186, e173_189, e173_190, e173_191, e173_194, e173_195, e173_197, e173_198, e173_201, e173_202, e173_205, e173_208, e173_209, e173_209i, e173_210, e173_213, e173_214, e173_215, e173_218, e173_221, e173_225, e173_226, e173_227, e173_230, e173_231, e173_234, e173_235, e173_238, e173_241, e173_242, e173_242i, e173_243, e173_246, e173_247, e173_248, e173_251, e173_252, e173_253, e173_255, e173_258, e173_259, e173_262, e173_263, e173_266, am_bd_some, Option.toList_some, Option.toList_none, List.cons_append, List.nil_append, am_w8_0, am_w8_1, am_w8_2, am_w8_3, am_w8_4, eq_self, or_true, true_or, am_kd_sI, am_kd_sL, am_kd_sR, am_tc_sI, am_tc_sL, am_tc_sR, am_len_sI, am_len_sL, am_len_sR, am_rfs, if_true, if_false, am_rdL_sI, am_rR_sL, am_rt_cq, am_kd_cq, am_tc_cq, am_len_cq, am_rd_sL, am_rd_sR, am_rdL_sR, c8', okK_211 (ok2 _ _ _ _ _), t_up_c]
          rfl
        · have c8' : nI (t_E t L s - s) ≤ (2 : Int32) := j6.mpr (by omega)
          rw [if_neg c8]
          simp only [e173_0, e173_1, e173_4, e173_6, e173_9, e173_10, e173_13, e173_15, e173_18, e173_19, e173_19i, e173_20, e173_23, e173_24, e173_25, e173_28, e173_31, e173_32, e173_33, e173_36, e173_39, e173_40, e173_43, e173_44, e173_45, e173_46, e173_49, e173_50, e173_51, e173_52, e173_55, e173_56, e173_57, e173_60, e173_63, e173_64, e173_66, e173_68, e173_71, e173_74, e173_75, e173_78, e173_80, e173_82, e173_85, e173_88, e173_89, e173_90, e173_93, e173_95, e173_96, e173_97, e173_100, e173_101, e173_102, e173_105, e173_106, e173_106i, e173_107, e173_110, e173_111, e173_112, e173_115, e173_118, e173_121, e173_122, e173_123, e173_125, e173_128, e173_129, e173_132, e173_133, e173_136, e173_139, e173_140, e173_141, e173_144, e173_147, e173_148, e173_150, e173_152, e173_155, e173_158, e173_159, e173_160, e173_163, e173_164, e173_167, e173_169, e173_171, e173_174, e173_177, e173_178, e173_179, e173_180, e173_183, e173_185, e173_186, e173_189, e173_190, e173_191, e173_194, e173_195, e173_197, e173_198, e173_201, e173_202, e173_205, e173_208, e173_209, e173_209i, e173_210, e173_213, e173_214, e173_215, e173_218, e173_221, e173_225, e173_226, e173_227, e173_230, e173_231, e173_234, e173_235, e173_238, e173_241, e173_242, e173_242i, e173_243, e173_246, e173_247, e173_248, e173_251, e173_252, e173_253, e173_255, e173_258, e173_259, e173_262, e173_263, e173_266, am_bd_some, Option.toList_some, Option.toList_none, List.cons_append, List.nil_append, am_w8_0, am_w8_1, am_w8_2, am_w8_3, am_w8_4, eq_self, or_true, true_or, am_kd_sI, am_kd_sL, am_kd_sR, am_tc_sI, am_tc_sL, am_tc_sR, am_len_sI, am_len_sL, am_len_sR, am_rfs, if_true, if_false, am_rdL_sI, am_rR_sL, am_rt_cq, am_kd_cq, am_tc_cq, am_len_cq, am_rd_sL, am_rd_sR, am_rdL_sR, c8', okK_211 (ok2 _ _ _ _ _), t_up_c]
          rfl
      · have cd' : ¬ t_di (t s) = true := by rw [show t_di (t s) = false from decide_eq_false c2]; decide
        have q2 : ¬ ((48 : Int32) ≤ nI (t s) ∧ nI (t s) ≤ 57) := fun w => c2 ⟨j3.mp w.1, j4.mp w.2⟩
        have eE : t_E t L s = s + 1 := by unfold t_E; rw [if_pos c0, if_neg cl', if_neg cd']
        have eK : t_K t L s = if t s = 59 then 4 else 1 := by unfold t_K; rw [if_pos c0, if_neg cl', if_neg cd']
        have eV : t_V t L s (h.1 211 14) = h.1 211 14 := if_neg (fun w => cd' w.2.2)
        rw [eE, eK, eV, e173_51]
        by_cases c3 : t s = 59
        · have c3' := eq_true (j5.mpr c3)
          rw [if_pos c3]
          simp only [e173_0, e173_1, e173_4, e173_6, e173_9, e173_10, e173_13, e173_15, e173_18, e173_19, e173_19i, e173_20, e173_23, e173_24, e173_25, e173_28, e173_31, e173_32, e173_33, e173_36, e173_39, e173_40, e173_43, e173_44, e173_45, e173_46, e173_49, e173_50, e173_52, e173_55, e173_56, e173_57, e173_60, e173_63, e173_64, e173_66, e173_68, e173_71, e173_74, e173_75, e173_78, e173_80, e173_82, e173_85, e173_88, e173_89, e173_90, e173_93, e173_95, e173_96, e173_97, e173_100, e173_101, e173_102, e173_105, e173_106, e173_106i, e173_107, e173_110, e173_111, e173_112, e173_115, e173_118, e173_121, e173_122, e173_123, e173_125, e173_128, e173_129, e173_132, e173_133, e173_136, e173_139, e173_140, e173_141, e173_144, e173_147, e173_148, e173_150, e173_152, e173_155, e173_158, e173_159, e173_160, e173_163, e173_164, e173_167, e173_169, e173_171, e173_174, e173_177, e173_178, e173_179, e173_180, e173_183, e173_185, e173_186, e173_189, e173_190, e173_191, e173_194, e173_195, e173_197, e173_198, e173_201, e173_202, e173_205, e173_208, e173_209, e173_209i, e173_210, e173_213, e173_214, e173_215, e173_218, e173_221, e173_224, e173_225, e173_226, e173_227, e173_230, e173_231, e173_234, e173_235, e173_238, e173_241, e173_242, e173_242i, e173_243, e173_246, e173_247, e173_248, e173_251, e173_252, e173_253, e173_255, e173_258, e173_259, e173_262, e173_263, e173_266, am_bd_some, Option.toList_some, Option.toList_none, List.cons_append, List.nil_append, am_w8_0, am_w8_1, am_w8_2, am_w8_3, am_w8_4, eq_self, or_true, true_or, am_kd_sI, am_kd_sL, am_kd_sR, am_tc_sI, am_tc_sL, am_tc_sR, am_len_sI, am_len_sL, am_len_sR, am_rfs, if_true, if_false, am_rdL_sI, am_rR_sL, am_rt_cq, am_kd_cq, am_tc_cq, am_len_cq, am_rd_sL, am_rd_sR, am_rdL_sR, g0, den_in, q1, q2, okK_211 (ok2 _ _ _ _ _), r10, nI_1, t_up_a, c3', not_true, t_up_c]
          rfl
        · have c3' : ¬ nI (t s) = 59 := fun w => c3 (j5.mp w)
          rw [if_neg c3]
          simp only [e173_0, e173_1, e173_4, e173_6, e173_9, e173_10, e173_13, e173_15, e173_18, e173_19, e173_19i, e173_20, e173_23, e173_24, e173_25, e173_28, e173_31, e173_32, e173_33, e173_36, e173_39, e173_40, e173_43, e173_44, e173_45, e173_46, e173_49, e173_50, e173_52, e173_55, e173_56, e173_57, e173_60, e173_63, e173_64, e173_66, e173_68, e173_71, e173_74, e173_75, e173_78, e173_80, e173_82, e173_85, e173_88, e173_89, e173_90, e173_93, e173_95, e173_96, e173_97, e173_100, e173_101, e173_102, e173_105, e173_106, e173_106i, e173_107, e173_110, e173_111, e173_112, e173_115, e173_118, e173_121, e173_122, e173_123, e173_125, e173_128, e173_129, e173_132, e173_133, e173_136, e173_139, e173_140, e173_141, e173_144, e173_147, e173_148, e173_150, e173_152, e173_155, e173_158, e173_159, e173_160, e173_163, e173_164, e173_167, e173_169, e173_171, e173_174, e173_177, e173_178, e173_179, e173_180, e173_183, e173_185, e173_186, e173_189, e173_190, e173_191, e173_194, e173_195, e173_197, e173_198, e173_201, e173_202, e173_205, e173_208, e173_209, e173_209i, e173_210, e173_213, e173_214, e173_215, e173_218, e173_221, e173_224, e173_225, e173_226, e173_227, e173_230, e173_231, e173_234, e173_235, e173_238, e173_241, e173_242, e173_242i, e173_243, e173_246, e173_247, e173_248, e173_251, e173_252, e173_253, e173_255, e173_258, e173_259, e173_262, e173_263, e173_266, am_bd_some, Option.toList_some, Option.toList_none, List.cons_append, List.nil_append, am_w8_0, am_w8_1, am_w8_2, am_w8_3, am_w8_4, eq_self, or_true, true_or, am_kd_sI, am_kd_sL, am_kd_sR, am_tc_sI, am_tc_sL, am_tc_sR, am_len_sI, am_len_sL, am_len_sR, am_rfs, if_true, if_false, am_rdL_sI, am_rR_sL, am_rt_cq, am_kd_cq, am_tc_cq, am_len_cq, am_rd_sL, am_rd_sR, am_rdL_sR, g0, den_in, q1, q2, okK_211 (ok2 _ _ _ _ _), r10, nI_1, t_up_a, c3', not_false_eq_true, t_up_c]
          rfl
  · have sv : t_sv t L s = -1 := if_neg c0
    have g0 : ¬ (0 : Int32) ≤ -1 := by decide
    have eE : t_E t L s = s := if_neg c0
    have eK : t_K t L s = 0 := if_neg c0
    have eV : t_V t L s (h.1 211 14) = h.1 211 14 := if_neg (fun w => c0 w.1)
    have eW : t_W t L s = 0 := if_neg (fun w => c0 w.1)
    rw [sv, eE, eK, eV, eW, e173_51]
    simp only [e173_0, e173_1, e173_4, e173_6, e173_9, e173_10, e173_13, e173_15, e173_18, e173_19, e173_19i, e173_20, e173_23, e173_24, e173_25, e173_28, e173_31, e173_32, e173_33, e173_36, e173_39, e173_40, e173_43, e173_44, e173_45, e173_46, e173_49, e173_50, e173_52, e173_55, e173_56, e173_57, e173_60, e173_63, e173_64, e173_66, e173_68, e173_71, e173_74, e173_75, e173_78, e173_80, e173_82, e173_85, e173_88, e173_89, e173_90, e173_93, e173_95, e173_96, e173_97, e173_100, e173_101, e173_102, e173_105, e173_106, e173_106i, e173_107, e173_110, e173_111, e173_112, e173_115, e173_118, e173_121, e173_122, e173_123, e173_125, e173_128, e173_129, e173_132, e173_133, e173_136, e173_139, e173_140, e173_141, e173_144, e173_147, e173_148, e173_150, e173_152, e173_155, e173_158, e173_159, e173_160, e173_163, e173_164, e173_167, e173_169, e173_171, e173_174, e173_177, e173_178, e173_179, e173_180, e173_183, e173_185, e173_186, e173_189, e173_190, e173_191, e173_194, e173_195, e173_197, e173_198, e173_201, e173_202, e173_205, e173_208, e173_209, e173_209i, e173_210, e173_213, e173_214, e173_215, e173_218, e173_221, e173_224, e173_225, e173_226, e173_227, e173_230, e173_231, e173_234, e173_235, e173_238, e173_241, e173_242, e173_242i, e173_243, e173_246, e173_247, e173_248, e173_251, e173_252, e173_253, e173_255, e173_258, e173_259, e173_262, e173_263, e173_266, am_bd_some, Option.toList_some, Option.toList_none, List.cons_append, List.nil_append, am_w8_0, am_w8_1, am_w8_2, am_w8_3, am_w8_4, eq_self, or_true, true_or, am_kd_sI, am_kd_sL, am_kd_sR, am_tc_sI, am_tc_sL, am_tc_sR, am_len_sI, am_len_sL, am_len_sR, am_rfs, if_true, if_false, am_rdL_sI, am_rR_sL, am_rt_cq, am_kd_cq, am_tc_cq, am_len_cq, am_rd_sL, am_rd_sR, am_rdL_sR, g0, okK_211 (ok2 _ _ _ _ _), t_up_c]
    rfl
