/-! part 9F: the reference's tokens, whole -/
theorem t_sub {a b : Nat} (h : b ≤ a) : nI a - nI b = nI (a - b) := by
  have e := nI_add (a - b) b
  rw [Nat.sub_add_cancel h] at e
  rw [← e]
  exact Int32.add_sub_cancel _ _
theorem t_shl (W c : Nat) (hc : c < 256) : (lN W <<< ((8 : Int32).toInt64 &&& 63)) ||| lN c = lN (256 * W + c) := by
  have e1 : (lN W <<< ((8 : Int32).toInt64 &&& 63)) = lN (2 ^ 8 * W) := by
    apply Int64.toBitVec_inj.1
    show BitVec.ofNat 64 W <<< 8 = BitVec.ofNat 64 (2 ^ 8 * W)
    apply BitVec.eq_of_toNat_eq
    rw [BitVec.toNat_shiftLeft, BitVec.toNat_ofNat, BitVec.toNat_ofNat, Nat.shiftLeft_eq]
    omega
  rw [e1, q_orL, ← Nat.two_pow_add_eq_or_of_lt (i := 8) hc]
/-- the reference's place of reading: reached, begins, sort, value, word -/
def t_up (h : am_H) (a b c d : Int32) (w : Int64) : am_H := (fun x y => if x = 211 ∧ y = 10 then a else if x = 211 ∧ y = 12 then b else if x = 211 ∧ y = 13 then c else if x = 211 ∧ y = 14 then d else h.1 x y, fun x y => if x = 211 ∧ y = 15 then w else h.2.1 x y, h.2.2)
theorem t_up_a (h : am_H) (a b c d v : Int32) (w : Int64) : am_sI (t_up h a b c d w) 211 10 v = t_up h v b c d w := by
  apply Prod.ext
  · funext x y
    show (if x = 211 ∧ y = 10 then v else if x = 211 ∧ y = 10 then a else _) = if x = 211 ∧ y = 10 then v else _
    split <;> rfl
  · rfl
theorem t_up_b (h : am_H) (a b c d v : Int32) (w : Int64) : am_sI (t_up h a b c d w) 211 12 v = t_up h a v c d w := by
  apply Prod.ext
  · funext x y
    show (if x = 211 ∧ y = 12 then v else if x = 211 ∧ y = 10 then a else if x = 211 ∧ y = 12 then b else _) = if x = 211 ∧ y = 10 then a else if x = 211 ∧ y = 12 then v else _
    by_cases p : x = 211 ∧ y = 12
    · rw [if_pos p, if_neg (by omega), if_pos p]
    · rw [if_neg p, if_neg p, if_neg p]
  · rfl
theorem t_up_c (h : am_H) (a b c d v : Int32) (w : Int64) : am_sI (t_up h a b c d w) 211 13 v = t_up h a b v d w := by
  apply Prod.ext
  · funext x y
    show (if x = 211 ∧ y = 13 then v else if x = 211 ∧ y = 10 then a else if x = 211 ∧ y = 12 then b else if x = 211 ∧ y = 13 then c else _) = if x = 211 ∧ y = 10 then a else if x = 211 ∧ y = 12 then b else if x = 211 ∧ y = 13 then v else _
    by_cases p : x = 211 ∧ y = 13
    · rw [if_pos p, if_neg (by omega), if_neg (by omega), if_pos p]
    · rw [if_neg p, if_neg p, if_neg p]
  · rfl
theorem t_up_d (h : am_H) (a b c d v : Int32) (w : Int64) : am_sI (t_up h a b c d w) 211 14 v = t_up h a b c v w := by
  apply Prod.ext
  · funext x y
    show (if x = 211 ∧ y = 14 then v else if x = 211 ∧ y = 10 then a else if x = 211 ∧ y = 12 then b else if x = 211 ∧ y = 13 then c else if x = 211 ∧ y = 14 then d else _) = if x = 211 ∧ y = 10 then a else if x = 211 ∧ y = 12 then b else if x = 211 ∧ y = 13 then c else if x = 211 ∧ y = 14 then v else _
    by_cases p : x = 211 ∧ y = 14
    · rw [if_pos p, if_neg (by omega), if_neg (by omega), if_neg (by omega), if_pos p]
    · rw [if_neg p, if_neg p, if_neg p]
  · rfl
theorem t_up_w (h : am_H) (a b c d : Int32) (w v : Int64) : am_sL (t_up h a b c d w) 211 15 v = t_up h a b c d v := by
  apply Prod.ext
  · rfl
  · apply Prod.ext
    · funext x y
      show (if x = 211 ∧ y = 15 then v else if x = 211 ∧ y = 15 then w else _) = if x = 211 ∧ y = 15 then v else _
      split <;> rfl
    · rfl
theorem t_up_tx {h : am_H} {t : Nat → Nat} {L : Nat} (x : t_tx h t L) (a b c d : Int32) (w : Int64) : t_tx (t_up h a b c d w) t L := ⟨x.1, x.2.1, x.2.2.1, x.2.2.2⟩
theorem t_up_id (h : am_H) : t_up h (h.1 211 10) (h.1 211 12) (h.1 211 13) (h.1 211 14) (h.2.1 211 15) = h := by
  apply Prod.ext
  · funext x y
    show (if x = 211 ∧ y = 10 then h.1 211 10 else if x = 211 ∧ y = 12 then h.1 211 12 else if x = 211 ∧ y = 13 then h.1 211 13 else if x = 211 ∧ y = 14 then h.1 211 14 else h.1 x y) = h.1 x y
    split
    · rename_i p; rw [p.1, p.2]
    · split
      · rename_i p; rw [p.1, p.2]
      · split
        · rename_i p; rw [p.1, p.2]
        · split
          · rename_i p; rw [p.1, p.2]
          · rfl
  · apply Prod.ext
    · funext x y
      show (if x = 211 ∧ y = 15 then h.2.1 211 15 else h.2.1 x y) = h.2.1 x y
      split
      · rename_i p; rw [p.1, p.2]
      · rfl
    · rfl
/-- a word as a number -/
def t_wN (t : Nat → Nat) : Nat → Nat → Nat → Nat
  | 0, _, W => W
  | r + 1, a, W => t_wN t r (a + 1) (256 * W + t a)
theorem t_tk_w (h : am_H) (t : Nat → Nat) (L : Nat) (x : t_tx h t L) (b c d i1 : Int32) : ∀ (r a n W : Nat), a + r = L → n ≤ a → am_ev 173 74 [some (.ref 211), some (.int i1), some (.int (nI n))] [] (t_up h (nI a) b c d (lN W)) = am_ev 173 121 [some (.ref 211), some (.int i1), some (.int (nI (n + (t_wh t_le t r a - a))))] [] (t_up h (nI (t_wh t_le t r a)) b c d (lN (t_wN t (t_wh t_le t r a - a) a W))) := by
  have L6 := x.2.1
  intro r
  induction r with
  | zero =>
    intro a n W ha hn
    obtain rfl : a = L := by omega
    have x1 := t_up_tx x (nI a) b c d (lN W)
    have dd := den_see _ t a a x1 (Nat.le_refl _) rfl
    have e : t_sv t a a = -1 := if_neg (Nat.lt_irrefl _)
    rw [e] at dd
    have n1 : ¬ ((97 : Int32) ≤ -1 ∧ (-1 : Int32) ≤ 122) := by decide
    have e0 : t_wh t_le t 0 a = a := rfl
    rw [e0, Nat.sub_self, Nat.add_zero, e173_74]
    simp only [e173_0, e173_1, e173_4, e173_6, e173_9, e173_10, e173_13, e173_15, e173_18, e173_19, e173_19i, e173_20, e173_23, e173_24, e173_25, e173_28, e173_31, e173_32, e173_33, e173_36, e173_39, e173_40, e173_43, e173_44, e173_45, e173_46, e173_49, e173_50, e173_51, e173_52, e173_55, e173_56, e173_57, e173_60, e173_63, e173_64, e173_66, e173_68, e173_71, e173_75, e173_78, e173_80, e173_82, e173_85, e173_88, e173_89, e173_90, e173_93, e173_95, e173_96, e173_97, e173_100, e173_101, e173_102, e173_105, e173_106, e173_106i, e173_107, e173_110, e173_111, e173_112, e173_115, e173_118, e173_122, e173_123, e173_125, e173_128, e173_129, e173_132, e173_133, e173_136, e173_139, e173_140, e173_141, e173_144, e173_147, e173_148, e173_150, e173_152, e173_155, e173_158, e173_159, e173_160, e173_163, e173_164, e173_167, e173_169, e173_171, e173_174, e173_177, e173_178, e173_179, e173_180, e173_183, e173_185, e173_186, e173_189, e173_190, e173_191, e173_194, e173_195, e173_197, e173_198, e173_201, e173_202, e173_205, e173_208, e173_209, e173_209i, e173_210, e173_213, e173_214, e173_215, e173_218, e173_221, e173_224, e173_225, e173_226, e173_227, e173_230, e173_231, e173_234, e173_235, e173_238, e173_241, e173_242, e173_242i, e173_243, e173_246, e173_247, e173_248, e173_251, e173_252, e173_253, e173_255, e173_258, e173_259, e173_262, e173_263, e173_266, am_bd_some, Option.toList_some, Option.toList_none, List.cons_append, List.nil_append, am_w8_0, am_w8_1, am_w8_2, am_w8_3, am_w8_4, eq_self, or_true, true_or, am_kd_sI, am_kd_sL, am_kd_sR, am_tc_sI, am_tc_sL, am_tc_sR, am_len_sI, am_len_sL, am_len_sR, am_rfs, if_true, if_false, am_rdL_sI, am_rR_sL, am_rt_cq, am_kd_cq, am_tc_cq, am_len_cq, am_rd_sL, am_rd_sR, am_rdL_sR, okK_211 x1.1, dd, den_in, n1]
    rfl
  | succ r ih =>
    intro a n W ha hn
    have x1 := t_up_tx x (nI a) b c d (lN W)
    have dd := den_see _ t L a x1 (by omega) rfl
    have e : t_sv t L a = nI (t a) := if_pos (by omega)
    rw [e] at dd
    have tb := x.t (k := a) (by omega)
    have j1 : (97 : Int32) ≤ nI (t a) ↔ 97 ≤ t a := nI_leI (a := 97) (by decide) (by omega)
    have j2 : nI (t a) ≤ (122 : Int32) ↔ t a ≤ 122 := nI_leI (b := 122) (by omega) (by decide)
    rw [e173_74]
    by_cases cc : 97 ≤ t a ∧ t a ≤ 122
    · have ew : t_wh t_le t (r + 1) a = t_wh t_le t r (a + 1) := if_pos (decide_eq_true cc)
      have le := (t_wh_le t_le t r (a + 1)).1
      have q1 : (97 : Int32) ≤ nI (t a) ∧ nI (t a) ≤ 122 := ⟨j1.mpr cc.1, j2.mpr cc.2⟩
      have q1' := eq_true q1
      have y : ¬ (1 : Int32) = 0 := by decide
      have s1 : t_wh t_le t r (a + 1) - a = (t_wh t_le t r (a + 1) - (a + 1)) + 1 := by omega
      have s2 : t_wN t (t_wh t_le t r (a + 1) - (a + 1) + 1) a W = t_wN t (t_wh t_le t r (a + 1) - (a + 1)) (a + 1) (256 * W + t a) := rfl
      have s3 : n + (t_wh t_le t r (a + 1) - (a + 1) + 1) = n + 1 + (t_wh t_le t r (a + 1) - (a + 1)) := by omega
      have l1 : (nI (t a)).toInt64 = lN (t a) := nI_l (by omega)
      have rw15 : (t_up h (nI a) b c d (lN W)).2.1 211 15 = lN W := rfl
      have r10 : ∀ v, (t_up h (nI a) b c d v).1 211 10 = nI a := fun _ => rfl
      have ok2 : ∀ v, am_okH (t_up h (nI a) b c d v) := fun _ => x.1
      have ls := t_shl W (t a) tb
      rw [ew, s1, s2, s3, ← ih (a + 1) (n + 1) (256 * W + t a) (by omega) (by omega)]
      simp only [e173_0, e173_1, e173_4, e173_6, e173_9, e173_10, e173_13, e173_15, e173_18, e173_19, e173_19i, e173_20, e173_23, e173_24, e173_25, e173_28, e173_31, e173_32, e173_33, e173_36, e173_39, e173_40, e173_43, e173_44, e173_45, e173_46, e173_49, e173_50, e173_51, e173_52, e173_55, e173_56, e173_57, e173_60, e173_63, e173_64, e173_66, e173_68, e173_71, e173_75, e173_78, e173_80, e173_82, e173_85, e173_88, e173_89, e173_90, e173_93, e173_95, e173_96, e173_97, e173_100, e173_101, e173_102, e173_105, e173_106, e173_106i, e173_107, e173_110, e173_111, e173_112, e173_115, e173_118, e173_122, e173_123, e173_125, e173_128, e173_129, e173_132, e173_133, e173_136, e173_139, e173_140, e173_141, e173_144, e173_147, e173_148, e173_150, e173_152, e173_155, e173_158, e173_159, e173_160, e173_163, e173_164, e173_167, e173_169, e173_171, e173_174, e173_177, e173_178, e173_179, e173_180, e173_183, e173_185, e173_186, e173_189, e173_190, e173_191, e173_194, e173_195, e173_197, e173_198, e173_201, e173_202, e173_205, e173_208, e173_209, e173_209i, e173_210, e173_213, e173_214, e173_215, e173_218, e173_221, e173_224, e173_225, e173_226, e173_227, e173_230, e173_231, e173_234, e173_235, e173_238, e173_241, e173_242, e173_242i, e173_243, e173_246, e173_247, e173_248, e173_251, e173_252, e173_253, e173_255, e173_258, e173_259, e173_262, e173_263, e173_266, am_bd_some, Option.toList_some, Option.toList_none, List.cons_append, List.nil_append, am_w8_0, am_w8_1, am_w8_2, am_w8_3, am_w8_4, eq_self, or_true, true_or, am_kd_sI, am_kd_sL, am_kd_sR, am_tc_sI, am_tc_sL, am_tc_sR, am_len_sI, am_len_sL, am_len_sR, am_rfs, if_true, if_false, am_rdL_sI, am_rR_sL, am_rt_cq, am_kd_cq, am_tc_cq, am_len_cq, am_rd_sL, am_rd_sR, am_rdL_sR, okK_211 x1.1, dd, den_in, q1', y, rw15, l1, ls, t_up_w, okK_211 (ok2 _), r10, nI_1, t_up_a]
    · have ew : t_wh t_le t (r + 1) a = a := if_neg (fun w => cc (of_decide_eq_true w))
      have q1 : ¬ ((97 : Int32) ≤ nI (t a) ∧ nI (t a) ≤ 122) := fun w => cc ⟨j1.mp w.1, j2.mp w.2⟩
      rw [ew, Nat.sub_self, Nat.add_zero]
      simp only [e173_0, e173_1, e173_4, e173_6, e173_9, e173_10, e173_13, e173_15, e173_18, e173_19, e173_19i, e173_20, e173_23, e173_24, e173_25, e173_28, e173_31, e173_32, e173_33, e173_36, e173_39, e173_40, e173_43, e173_44, e173_45, e173_46, e173_49, e173_50, e173_51, e173_52, e173_55, e173_56, e173_57, e173_60, e173_63, e173_64, e173_66, e173_68, e173_71, e173_75, e173_78, e173_80, e173_82, e173_85, e173_88, e173_89, e173_90, e173_93, e173_95, e173_96, e173_97, e173_100, e173_101, e173_102, e173_105, e173_106, e173_106i, e173_107, e173_110, e173_111, e173_112, e173_115, e173_118, e173_122, e173_123, e173_125, e173_128, e173_129, e173_132, e173_133, e173_136, e173_139, e173_140, e173_141, e173_144, e173_147, e173_148, e173_150, e173_152, e173_155, e173_158, e173_159, e173_160, e173_163, e173_164, e173_167, e173_169, e173_171, e173_174, e173_177, e173_178, e173_179, e173_180, e173_183, e173_185, e173_186, e173_189, e173_190, e173_191, e173_194, e173_195, e173_197, e173_198, e173_201, e173_202, e173_205, e173_208, e173_209, e173_209i, e173_210, e173_213, e173_214, e173_215, e173_218, e173_221, e173_224, e173_225, e173_226, e173_227, e173_230, e173_231, e173_234, e173_235, e173_238, e173_241, e173_242, e173_242i, e173_243, e173_246, e173_247, e173_248, e173_251, e173_252, e173_253, e173_255, e173_258, e173_259, e173_262, e173_263, e173_266, am_bd_some, Option.toList_some, Option.toList_none, List.cons_append, List.nil_append, am_w8_0, am_w8_1, am_w8_2, am_w8_3, am_w8_4, eq_self, or_true, true_or, am_kd_sI, am_kd_sL, am_kd_sR, am_tc_sI, am_tc_sL, am_tc_sR, am_len_sI, am_len_sL, am_len_sR, am_rfs, if_true, if_false, am_rdL_sI, am_rR_sL, am_rt_cq, am_kd_cq, am_tc_cq, am_len_cq, am_rd_sL, am_rd_sR, am_rdL_sR, okK_211 x1.1, dd, den_in, q1]
      rfl
