/-! part 35: book of the reference, the pair -/
theorem den_ofBook (h : am_H) (ok : am_okH h) (i j : Nat) (hi : i < 2) (hj : j < 39) (e : h.1 211 45 = nI i) : am_den 245 [.ref 211, .int (nI j)] h = some (some (.int (h.1 219 (39 * i + j))), h) := by
  have m1 : (39 : Int32) * nI i = nI (39 * i) := pk_mul 39 i
  have x1 : am_ix (nI (39 * i + j)) 312 = true := am_ix_nI (by omega) (by decide)
  have z1 : (nI (39 * i + j)).toNatClampNeg = 39 * i + j := nI_clamp (by omega)
  show am_ev 245 0 [some (.ref 211), some (.int (nI j))] [] h = _
  simp only [e245_0, e245_1, e245_4, e245_6, e245_7, e245_10, e245_11, e245_12, e245_13, e245_14, am_bd_some, Option.toList_some, Option.toList_none, List.cons_append, List.nil_append, am_w8_0, am_w8_1, am_w8_2, am_w8_3, am_w8_4, eq_self, or_true, true_or, am_kd_sI, am_kd_sL, am_kd_sR, am_tc_sI, am_tc_sL, am_tc_sR, am_len_sI, am_len_sL, am_len_sR, am_rfs, if_true, if_false, am_rdL_sI, am_rR_sL, am_rt_cq, am_kd_cq, am_tc_cq, am_len_cq, am_rd_sL, am_rd_sR, am_rdL_sR, okK_211 ok, okR_211_8 ok, okT_219 ok, okL_219 ok, e, m1, nI_add, x1, z1]
theorem den_hasBook (h : am_H) (ok : am_okH h) (c : Nat) (hc : c ≤ 2) (e : h.1 216 2 = nI c) (v : Int32) : am_den 244 [.ref 211, .int v] h = some (some (.int (if 0 ≤ v ∧ v < nI c then 1 else 0)), am_sI h 211 45 v) := by
  have okd : am_okH (am_sI h 211 45 v) := ok
  have dis := den_is (am_sI h 211 45 v) okd 2 (by decide) c hc e v
  rw [show nI 2 = 2 from rfl] at dis
  have b1 : (if 0 ≤ v ∧ v < nI c then (1 : Int32) else 0) = 0 ∨ (if 0 ≤ v ∧ v < nI c then (1 : Int32) else 0) = 1 := by split <;> simp
  show am_ev 244 0 [some (.ref 211), some (.int v)] [] h = _
  simp only [e244_0, e244_1, e244_2, e244_5, e244_6, e244_7, e244_8, e244_11, am_bd_some, Option.toList_some, Option.toList_none, List.cons_append, List.nil_append, am_w8_0, am_w8_1, am_w8_2, am_w8_3, am_w8_4, eq_self, or_true, true_or, am_kd_sI, am_kd_sL, am_kd_sR, am_tc_sI, am_tc_sL, am_tc_sR, am_len_sI, am_len_sL, am_len_sR, am_rfs, if_true, if_false, am_rdL_sI, am_rR_sL, am_rt_cq, am_kd_cq, am_tc_cq, am_len_cq, am_rd_sL, am_rd_sR, am_rdL_sR, okK_211 ok, dis, b1]
theorem q_ndiv {w : Int32} (h : w < 0) : (w / 10).toInt ≤ 0 := by
  rw [Int32.toInt_div_of_ne_right w 10 (by decide)]
  have h1 : w.toInt < 0 := Int32.lt_iff_toInt_lt.mp h
  have e : (10 : Int32).toInt = 10 := by decide
  rw [e]
  have h2 : (-w.toInt).tdiv 10 = -(w.toInt.tdiv 10) := Int.neg_tdiv _ _
  have h3 : 0 ≤ (-w.toInt).tdiv 10 := Int.tdiv_nonneg (by omega) (by decide)
  omega
def q_bkQ (A : q_All) (d w : Int32) : Int32 := if 0 ≤ d ∧ d < nI (A.2.1 2) then q_bkA (A.2.2.2.2.1 d.toNatClampNeg) w else -1
theorem den_mbk (h : am_H) (ok : am_okH h) (i : Nat) (hi : i < 2) (b : q_Bk) (bk : B_ok b) (e : h.1 211 45 = nI i) (mb : B_mod (fun a k => h.1 (212 + a) k) (39 * i) b) (w : Int32) : am_ev 243 15 [some (.ref 211), some (.int (nI i)), some (.int w), none] [] h = some (some (.int (q_bkA b w)), h) := by
  obtain ⟨n1, n2, n3, -⟩ := bk
  obtain ⟨e0, e1, e2, e3, e4, e5⟩ := mb
  have t10 : ¬ (10 : Int32) = 0 := by decide
  have y1 : (1 : Int32) = 0 ↔ False := by decide
  unfold q_bkA
  by_cases c : w < 0
  · have c0 : ¬ (0 ≤ w ∧ w ≤ 2) := fun q => absurd c (Int32.not_lt.mpr q.1)
    have nd := q_ndiv c
    have m1 : ¬ w / 10 = 1 := fun q => by rw [q] at nd; exact absurd nd (by decide)
    have m2 : ¬ w / 10 = 2 := fun q => by rw [q] at nd; exact absurd nd (by decide)
    have m3 : ¬ w / 10 = 3 := fun q => by rw [q] at nd; exact absurd nd (by decide)
    have m4 : ¬ w / 10 = 4 := fun q => by rw [q] at nd; exact absurd nd (by decide)
    have m5 : ¬ w / 10 = 5 := fun q => by rw [q] at nd; exact absurd nd (by decide)
    by_cases m0 : w / 10 = 0
    · simp only [e243_0, e243_1, e243_2, e243_5, e243_6, e243_7, e243_10, e243_13, e243_14, e243_15, e243_16, e243_18, e243_19, e243_20, e243_21, e243_23, e243_24, e243_64, e243_65, e243_66, e243_67, e243_70, e243_73, e243_74, e243_75, e243_78, e243_81, e243_82, e243_83, e243_84, e243_85, e243_86, e243_89, e243_92, e243_93, e243_94, e243_96, e243_99, e243_100, e243_103, e243_105, e243_106, e243_107, e243_110, e243_113, e243_114, e243_115, e243_116, e243_117, e243_118, e243_121, e243_124, e243_125, e243_126, e243_128, e243_131, e243_133, e243_136, e243_138, e243_139, e243_140, e243_143, e243_146, e243_147, e243_148, e243_149, e243_150, e243_151, e243_154, e243_157, e243_158, e243_160, e243_161, e243_162, e243_165, e243_168, e243_169, e243_170, e243_171, am_bd_some, Option.toList_some, Option.toList_none, List.cons_append, List.nil_append, am_w8_0, am_w8_1, am_w8_2, am_w8_3, am_w8_4, eq_self, or_true, true_or, am_kd_sI, am_kd_sL, am_kd_sR, am_tc_sI, am_tc_sL, am_tc_sR, am_len_sI, am_len_sL, am_len_sR, am_rfs, if_true, if_false, am_rdL_sI, am_rR_sL, am_rt_cq, am_kd_cq, am_tc_cq, am_len_cq, am_rd_sL, am_rd_sR, am_rdL_sR, t10, m0, den_in, c0, c]
    · simp only [e243_0, e243_1, e243_2, e243_5, e243_6, e243_7, e243_10, e243_13, e243_14, e243_15, e243_16, e243_18, e243_19, e243_20, e243_21, e243_23, e243_24, e243_64, e243_65, e243_66, e243_67, e243_70, e243_73, e243_74, e243_75, e243_78, e243_81, e243_82, e243_83, e243_84, e243_85, e243_86, e243_89, e243_92, e243_93, e243_94, e243_96, e243_99, e243_100, e243_103, e243_105, e243_106, e243_107, e243_110, e243_113, e243_114, e243_115, e243_116, e243_117, e243_118, e243_121, e243_124, e243_125, e243_126, e243_128, e243_131, e243_133, e243_136, e243_138, e243_139, e243_140, e243_143, e243_146, e243_147, e243_148, e243_149, e243_150, e243_151, e243_154, e243_157, e243_158, e243_160, e243_161, e243_162, e243_165, e243_168, e243_169, e243_170, e243_171, am_bd_some, Option.toList_some, Option.toList_none, List.cons_append, List.nil_append, am_w8_0, am_w8_1, am_w8_2, am_w8_3, am_w8_4, eq_self, or_true, true_or, am_kd_sI, am_kd_sL, am_kd_sR, am_tc_sI, am_tc_sL, am_tc_sR, am_len_sI, am_len_sL, am_len_sR, am_rfs, if_true, if_false, am_rdL_sI, am_rR_sL, am_rt_cq, am_kd_cq, am_tc_cq, am_len_cq, am_rd_sL, am_rd_sR, am_rdL_sR, t10, m0, m1, m2, m3, m4, m5, c]
  · rw [if_neg c]
    obtain ⟨w, hw, rfl⟩ := nI_of c
    have z : (nI w).toNatClampNeg = w := nI_clamp hw
    rw [z]
    have dv : nI w / 10 = nI (w / 10) := pk_div (d := 10) hw (by decide) (by decide)
    have rm : nI w - nI (w / 10) * 10 = nI (w % 10) := by
      have := pk_rem (a := w) (d := 10) hw (by decide) (by decide)
      rw [show (nI 10 : Int32) = 10 from rfl, dv] at this
      exact this
    have q0 : nI (w / 10) = 0 ↔ w / 10 = 0 := nI_eq (b := 0) (by omega) (by decide)
    have q1 : nI (w / 10) = 1 ↔ w / 10 = 1 := nI_eq (b := 1) (by omega) (by decide)
    have q2 : nI (w / 10) = 2 ↔ w / 10 = 2 := nI_eq (b := 2) (by omega) (by decide)
    have q3 : nI (w / 10) = 3 ↔ w / 10 = 3 := nI_eq (b := 3) (by omega) (by decide)
    have q4 : nI (w / 10) = 4 ↔ w / 10 = 4 := nI_eq (b := 4) (by omega) (by decide)
    have q5 : nI (w / 10) = 5 ↔ w / 10 = 5 := nI_eq (b := 5) (by omega) (by decide)
    have l20 : (20 : Int32) ≤ nI w ↔ 20 ≤ w := nI_leI (a := 20) (by decide) hw
    have l40 : (40 : Int32) ≤ nI w ↔ 40 ≤ w := nI_leI (a := 40) (by decide) hw
    have f0 := den_ofBook h ok i 0 hi (by decide) e
    have f1 := den_ofBook h ok i 1 hi (by decide) e
    have f2 := den_ofBook h ok i 2 hi (by decide) e
    have g0 : h.1 219 (39 * i + 0) = nI (B_d b) := e0
    have g1 : h.1 219 (39 * i + 1) = nI (B_b b) := e1
    have g2 : h.1 219 (39 * i + 2) = nI (B_f b) := e2
    rw [g0, nI_0] at f0
    rw [g1, show nI 1 = 1 from rfl] at f1
    rw [g2, show nI 2 = 2 from rfl] at f2
    have p0 : (0 : Int32) ≤ nI w := nI_pos' hw
    have p2 : nI w ≤ 2 ↔ w ≤ 2 := nI_leI (b := 2) hw (by decide)
    by_cases w10 : w < 10
    · have d0 : w / 10 = 0 := by omega
      have u10 : ¬ (10 ≤ w ∧ w < 10 + B_d b) := by omega
      have u20 : ¬ (20 ≤ w ∧ w < 20 + B_d b) := by omega
      have u30 : ¬ (30 ≤ w ∧ w < 30 + B_b b) := by omega
      have u40 : ¬ (40 ≤ w ∧ w < 40 + B_b b) := by omega
      have u50 : ¬ (50 ≤ w ∧ w < 50 + B_f b) := by omega
      by_cases w2 : w ≤ 2
      · have w3 : w = 0 ∨ w = 1 ∨ w = 2 := by omega
        rcases w3 with rfl | rfl | rfl
        · rw [nI_0]
          have x : (0 : Int32) / 10 = 0 := by decide
          have x2 : (0 : Int32) ≤ 0 ∧ (0 : Int32) ≤ 2 := by decide
          simp only [e243_0, e243_1, e243_2, e243_5, e243_6, e243_7, e243_10, e243_13, e243_14, e243_15, e243_16, e243_18, e243_19, e243_20, e243_21, e243_23, e243_24, e243_64, e243_65, e243_66, e243_67, e243_70, e243_73, e243_74, e243_75, e243_78, e243_81, e243_82, e243_83, e243_84, e243_85, e243_86, e243_89, e243_92, e243_93, e243_94, e243_96, e243_99, e243_100, e243_103, e243_105, e243_106, e243_107, e243_110, e243_113, e243_114, e243_115, e243_116, e243_117, e243_118, e243_121, e243_124, e243_125, e243_126, e243_128, e243_131, e243_133, e243_136, e243_138, e243_139, e243_140, e243_143, e243_146, e243_147, e243_148, e243_149, e243_150, e243_151, e243_154, e243_157, e243_158, e243_160, e243_161, e243_162, e243_165, e243_168, e243_169, e243_170, e243_171, am_bd_some, Option.toList_some, Option.toList_none, List.cons_append, List.nil_append, am_w8_0, am_w8_1, am_w8_2, am_w8_3, am_w8_4, eq_self, or_true, true_or, am_kd_sI, am_kd_sL, am_kd_sR, am_tc_sI, am_tc_sL, am_tc_sR, am_len_sI, am_len_sL, am_len_sR, am_rfs, if_true, if_false, am_rdL_sI, am_rR_sL, am_rt_cq, am_kd_cq, am_tc_cq, am_len_cq, am_rd_sL, am_rd_sR, am_rdL_sR, okK_211 ok, t10, x, den_in, x2, y1, and_self, f0, q_bkN]
        · rw [show nI 1 = 1 from rfl]
          have x : (1 : Int32) / 10 = 0 := by decide
          have x2 : (0 : Int32) ≤ 1 ∧ (1 : Int32) ≤ 2 := by decide
          simp only [e243_0, e243_1, e243_2, e243_5, e243_6, e243_7, e243_10, e243_13, e243_14, e243_15, e243_16, e243_18, e243_19, e243_20, e243_21, e243_23, e243_24, e243_64, e243_65, e243_66, e243_67, e243_70, e243_73, e243_74, e243_75, e243_78, e243_81, e243_82, e243_83, e243_84, e243_85, e243_86, e243_89, e243_92, e243_93, e243_94, e243_96, e243_99, e243_100, e243_103, e243_105, e243_106, e243_107, e243_110, e243_113, e243_114, e243_115, e243_116, e243_117, e243_118, e243_121, e243_124, e243_125, e243_126, e243_128, e243_131, e243_133, e243_136, e243_138, e243_139, e243_140, e243_143, e243_146, e243_147, e243_148, e243_149, e243_150, e243_151, e243_154, e243_157, e243_158, e243_160, e243_161, e243_162, e243_165, e243_168, e243_169, e243_170, e243_171, am_bd_some, Option.toList_some, Option.toList_none, List.cons_append, List.nil_append, am_w8_0, am_w8_1, am_w8_2, am_w8_3, am_w8_4, eq_self, or_true, true_or, am_kd_sI, am_kd_sL, am_kd_sR, am_tc_sI, am_tc_sL, am_tc_sR, am_len_sI, am_len_sL, am_len_sR, am_rfs, if_true, if_false, am_rdL_sI, am_rR_sL, am_rt_cq, am_kd_cq, am_tc_cq, am_len_cq, am_rd_sL, am_rd_sR, am_rdL_sR, okK_211 ok, t10, x, den_in, x2, y1, and_self, f1, q_bkN]
          simp
        · rw [show nI 2 = 2 from rfl]
          have x : (2 : Int32) / 10 = 0 := by decide
          have x2 : (0 : Int32) ≤ 2 ∧ (2 : Int32) ≤ 2 := by decide
          simp only [e243_0, e243_1, e243_2, e243_5, e243_6, e243_7, e243_10, e243_13, e243_14, e243_15, e243_16, e243_18, e243_19, e243_20, e243_21, e243_23, e243_24, e243_64, e243_65, e243_66, e243_67, e243_70, e243_73, e243_74, e243_75, e243_78, e243_81, e243_82, e243_83, e243_84, e243_85, e243_86, e243_89, e243_92, e243_93, e243_94, e243_96, e243_99, e243_100, e243_103, e243_105, e243_106, e243_107, e243_110, e243_113, e243_114, e243_115, e243_116, e243_117, e243_118, e243_121, e243_124, e243_125, e243_126, e243_128, e243_131, e243_133, e243_136, e243_138, e243_139, e243_140, e243_143, e243_146, e243_147, e243_148, e243_149, e243_150, e243_151, e243_154, e243_157, e243_158, e243_160, e243_161, e243_162, e243_165, e243_168, e243_169, e243_170, e243_171, am_bd_some, Option.toList_some, Option.toList_none, List.cons_append, List.nil_append, am_w8_0, am_w8_1, am_w8_2, am_w8_3, am_w8_4, eq_self, or_true, true_or, am_kd_sI, am_kd_sL, am_kd_sR, am_tc_sI, am_tc_sL, am_tc_sR, am_len_sI, am_len_sL, am_len_sR, am_rfs, if_true, if_false, am_rdL_sI, am_rR_sL, am_rt_cq, am_kd_cq, am_tc_cq, am_len_cq, am_rd_sL, am_rd_sR, am_rdL_sR, okK_211 ok, t10, x, den_in, x2, y1, and_self, f2, q_bkN]
          simp
      · have v0 : ¬ w = 0 := by omega
        have v1 : ¬ w = 1 := by omega
        have v2 : ¬ w = 2 := by omega
        simp only [e243_0, e243_1, e243_2, e243_5, e243_6, e243_7, e243_10, e243_13, e243_14, e243_15, e243_16, e243_18, e243_19, e243_20, e243_21, e243_23, e243_24, e243_64, e243_65, e243_66, e243_67, e243_70, e243_73, e243_74, e243_75, e243_78, e243_81, e243_82, e243_83, e243_84, e243_85, e243_86, e243_89, e243_92, e243_93, e243_94, e243_96, e243_99, e243_100, e243_103, e243_105, e243_106, e243_107, e243_110, e243_113, e243_114, e243_115, e243_116, e243_117, e243_118, e243_121, e243_124, e243_125, e243_126, e243_128, e243_131, e243_133, e243_136, e243_138, e243_139, e243_140, e243_143, e243_146, e243_147, e243_148, e243_149, e243_150, e243_151, e243_154, e243_157, e243_158, e243_160, e243_161, e243_162, e243_165, e243_168, e243_169, e243_170, e243_171, am_bd_some, Option.toList_some, Option.toList_none, List.cons_append, List.nil_append, am_w8_0, am_w8_1, am_w8_2, am_w8_3, am_w8_4, eq_self, or_true, true_or, am_kd_sI, am_kd_sL, am_kd_sR, am_tc_sI, am_tc_sL, am_tc_sR, am_len_sI, am_len_sL, am_len_sR, am_rfs, if_true, if_false, am_rdL_sI, am_rR_sL, am_rt_cq, am_kd_cq, am_tc_cq, am_len_cq, am_rd_sL, am_rd_sR, am_rdL_sR, okK_211 ok, t10, dv, rm, q0, q1, q2, q3, q4, q5, den_in, p0, p2, f0, f1, f2, true_and, and_false, eq_true d0, w2, u10, u20, u30, u40, u50, v0, v1, v2, q_bkN]
    have v0 : ¬ w = 0 := by omega
    have v1 : ¬ w = 1 := by omega
    have v2 : ¬ w = 2 := by omega
    by_cases w20 : w < 20
    · have d0 : ¬ w / 10 = 0 := by omega
      have d1 : w / 10 = 1 := by omega
      have s20 : ¬ 20 ≤ w := by omega
      have s40 : ¬ 40 ≤ w := by omega
      have k1 : nI (B_d b) ≤ nI (w % 10) ↔ B_d b ≤ w - 10 := by
        rw [show w % 10 = w - 10 by omega]
        exact nI_leI (by omega) (by omega)
      have u20 : ¬ (20 ≤ w ∧ w < 20 + B_d b) := by omega
      have u30 : ¬ (30 ≤ w ∧ w < 30 + B_b b) := by omega
      have u40 : ¬ (40 ≤ w ∧ w < 40 + B_b b) := by omega
      have u50 : ¬ (50 ≤ w ∧ w < 50 + B_f b) := by omega
      by_cases u10 : w < 10 + B_d b
      · have k2 : ¬ B_d b ≤ w - 10 := by omega
        have o1 : (3 : Int32) + nI (w % 10) = nI (3 + (w - 10)) := by rw [show w % 10 = w - 10 by omega]; exact nI_add 3 _
        have f3 := den_ofBook h ok i (3 + (w - 10)) hi (by omega) e
        have g3 : h.1 219 (39 * i + (3 + (w - 10))) = nI (B_eye b (w - 10)) := by
          rw [← Nat.add_assoc]
          exact (e3 (w - 10) (by omega)).1
        rw [g3] at f3
        have u10' : 10 ≤ w ∧ w < 10 + B_d b := by omega
        simp only [e243_0, e243_1, e243_2, e243_5, e243_6, e243_7, e243_10, e243_13, e243_14, e243_15, e243_16, e243_18, e243_19, e243_20, e243_21, e243_23, e243_24, e243_64, e243_65, e243_66, e243_67, e243_70, e243_73, e243_74, e243_75, e243_78, e243_81, e243_82, e243_83, e243_84, e243_85, e243_86, e243_89, e243_92, e243_93, e243_94, e243_96, e243_99, e243_100, e243_103, e243_105, e243_106, e243_107, e243_110, e243_113, e243_114, e243_115, e243_116, e243_117, e243_118, e243_121, e243_124, e243_125, e243_126, e243_128, e243_131, e243_133, e243_136, e243_138, e243_139, e243_140, e243_143, e243_146, e243_147, e243_148, e243_149, e243_150, e243_151, e243_154, e243_157, e243_158, e243_160, e243_161, e243_162, e243_165, e243_168, e243_169, e243_170, e243_171, am_bd_some, Option.toList_some, Option.toList_none, List.cons_append, List.nil_append, am_w8_0, am_w8_1, am_w8_2, am_w8_3, am_w8_4, eq_self, or_true, true_or, am_kd_sI, am_kd_sL, am_kd_sR, am_tc_sI, am_tc_sL, am_tc_sR, am_len_sI, am_len_sL, am_len_sR, am_rfs, if_true, if_false, am_rdL_sI, am_rR_sL, am_rt_cq, am_kd_cq, am_tc_cq, am_len_cq, am_rd_sL, am_rd_sR, am_rdL_sR, okK_211 ok, t10, dv, rm, q0, q1, q2, q3, q4, q5, den_in, p0, p2, f0, f1, f2, true_and, and_false, d0, eq_true d1, l20, l40, s20, s40, k1, k2, o1, f3, u10', and_self, u20, u30, u40, u50, v0, v1, v2, q_bkN]
      · have k2 : B_d b ≤ w - 10 := by omega
        have u10' : ¬ (10 ≤ w ∧ w < 10 + B_d b) := by omega
        simp only [e243_0, e243_1, e243_2, e243_5, e243_6, e243_7, e243_10, e243_13, e243_14, e243_15, e243_16, e243_18, e243_19, e243_20, e243_21, e243_23, e243_24, e243_64, e243_65, e243_66, e243_67, e243_70, e243_73, e243_74, e243_75, e243_78, e243_81, e243_82, e243_83, e243_84, e243_85, e243_86, e243_89, e243_92, e243_93, e243_94, e243_96, e243_99, e243_100, e243_103, e243_105, e243_106, e243_107, e243_110, e243_113, e243_114, e243_115, e243_116, e243_117, e243_118, e243_121, e243_124, e243_125, e243_126, e243_128, e243_131, e243_133, e243_136, e243_138, e243_139, e243_140, e243_143, e243_146, e243_147, e243_148, e243_149, e243_150, e243_151, e243_154, e243_157, e243_158, e243_160, e243_161, e243_162, e243_165, e243_168, e243_169, e243_170, e243_171, am_bd_some, Option.toList_some, Option.toList_none, List.cons_append, List.nil_append, am_w8_0, am_w8_1, am_w8_2, am_w8_3, am_w8_4, eq_self, or_true, true_or, am_kd_sI, am_kd_sL, am_kd_sR, am_tc_sI, am_tc_sL, am_tc_sR, am_len_sI, am_len_sL, am_len_sR, am_rfs, if_true, if_false, am_rdL_sI, am_rR_sL, am_rt_cq, am_kd_cq, am_tc_cq, am_len_cq, am_rd_sL, am_rd_sR, am_rdL_sR, okK_211 ok, t10, dv, rm, q0, q1, q2, q3, q4, q5, den_in, p0, p2, f0, f1, f2, true_and, and_false, d0, eq_true d1, k1, k2, u10', u20, u30, u40, u50, v0, v1, v2, q_bkN]
    by_cases w30 : w < 30
    · have d0 : ¬ w / 10 = 0 := by omega
      have d1 : ¬ w / 10 = 1 := by omega
      have d2 : w / 10 = 2 := by omega
      have s20 : 20 ≤ w := by omega
      have s40 : ¬ 40 ≤ w := by omega
      have k1 : nI (B_d b) ≤ nI (w % 10) ↔ B_d b ≤ w - 20 := by
        rw [show w % 10 = w - 20 by omega]
        exact nI_leI (by omega) (by omega)
      have u10 : ¬ (10 ≤ w ∧ w < 10 + B_d b) := by omega
      have u30 : ¬ (30 ≤ w ∧ w < 30 + B_b b) := by omega
      have u40 : ¬ (40 ≤ w ∧ w < 40 + B_b b) := by omega
      have u50 : ¬ (50 ≤ w ∧ w < 50 + B_f b) := by omega
      have xx10 : ¬ w < 10 + B_d b := by omega
      by_cases u20 : w < 20 + B_d b
      · have k2 : ¬ B_d b ≤ w - 20 := by omega
        have o1 : (8 : Int32) + nI (w % 10) = nI (8 + (w - 20)) := by rw [show w % 10 = w - 20 by omega]; exact nI_add 8 _
        have f3 := den_ofBook h ok i (8 + (w - 20)) hi (by omega) e
        have g3 : h.1 219 (39 * i + (8 + (w - 20))) = nI (B_turns b (w - 20)) := by
          rw [← Nat.add_assoc]
          exact (e3 (w - 20) (by omega)).2
        rw [g3] at f3
        have u20' : 20 ≤ w ∧ w < 20 + B_d b := by omega
        simp only [e243_0, e243_1, e243_2, e243_5, e243_6, e243_7, e243_10, e243_13, e243_14, e243_15, e243_16, e243_18, e243_19, e243_20, e243_21, e243_23, e243_24, e243_64, e243_65, e243_66, e243_67, e243_70, e243_73, e243_74, e243_75, e243_78, e243_81, e243_82, e243_83, e243_84, e243_85, e243_86, e243_89, e243_92, e243_93, e243_94, e243_96, e243_99, e243_100, e243_103, e243_105, e243_106, e243_107, e243_110, e243_113, e243_114, e243_115, e243_116, e243_117, e243_118, e243_121, e243_124, e243_125, e243_126, e243_128, e243_131, e243_133, e243_136, e243_138, e243_139, e243_140, e243_143, e243_146, e243_147, e243_148, e243_149, e243_150, e243_151, e243_154, e243_157, e243_158, e243_160, e243_161, e243_162, e243_165, e243_168, e243_169, e243_170, e243_171, am_bd_some, Option.toList_some, Option.toList_none, List.cons_append, List.nil_append, am_w8_0, am_w8_1, am_w8_2, am_w8_3, am_w8_4, eq_self, or_true, true_or, am_kd_sI, am_kd_sL, am_kd_sR, am_tc_sI, am_tc_sL, am_tc_sR, am_len_sI, am_len_sL, am_len_sR, am_rfs, if_true, if_false, am_rdL_sI, am_rR_sL, am_rt_cq, am_kd_cq, am_tc_cq, am_len_cq, am_rd_sL, am_rd_sR, am_rdL_sR, okK_211 ok, t10, dv, rm, q0, q1, q2, q3, q4, q5, den_in, p0, p2, f0, f1, f2, true_and, and_false, d0, d1, eq_true d2, l20, l40, s20, s40, k1, k2, o1, f3, u10, u20', and_self, u30, u40, u50, xx10, v0, v1, v2, q_bkN]
      · have k2 : B_d b ≤ w - 20 := by omega
        have u20' : ¬ (20 ≤ w ∧ w < 20 + B_d b) := by omega
        simp only [e243_0, e243_1, e243_2, e243_5, e243_6, e243_7, e243_10, e243_13, e243_14, e243_15, e243_16, e243_18, e243_19, e243_20, e243_21, e243_23, e243_24, e243_64, e243_65, e243_66, e243_67, e243_70, e243_73, e243_74, e243_75, e243_78, e243_81, e243_82, e243_83, e243_84, e243_85, e243_86, e243_89, e243_92, e243_93, e243_94, e243_96, e243_99, e243_100, e243_103, e243_105, e243_106, e243_107, e243_110, e243_113, e243_114, e243_115, e243_116, e243_117, e243_118, e243_121, e243_124, e243_125, e243_126, e243_128, e243_131, e243_133, e243_136, e243_138, e243_139, e243_140, e243_143, e243_146, e243_147, e243_148, e243_149, e243_150, e243_151, e243_154, e243_157, e243_158, e243_160, e243_161, e243_162, e243_165, e243_168, e243_169, e243_170, e243_171, am_bd_some, Option.toList_some, Option.toList_none, List.cons_append, List.nil_append, am_w8_0, am_w8_1, am_w8_2, am_w8_3, am_w8_4, eq_self, or_true, true_or, am_kd_sI, am_kd_sL, am_kd_sR, am_tc_sI, am_tc_sL, am_tc_sR, am_len_sI, am_len_sL, am_len_sR, am_rfs, if_true, if_false, am_rdL_sI, am_rR_sL, am_rt_cq, am_kd_cq, am_tc_cq, am_len_cq, am_rd_sL, am_rd_sR, am_rdL_sR, okK_211 ok, t10, dv, rm, q0, q1, q2, q3, q4, q5, den_in, p0, p2, f0, f1, f2, true_and, and_false, d0, d1, eq_true d2, k1, k2, u10, u20', u30, u40, u50, v0, v1, v2, q_bkN]
    by_cases w40 : w < 40
    · have d0 : ¬ w / 10 = 0 := by omega
      have d1 : ¬ w / 10 = 1 := by omega
      have d2 : ¬ w / 10 = 2 := by omega
      have d3 : w / 10 = 3 := by omega
      have s20 : 20 ≤ w := by omega
      have s40 : ¬ 40 ≤ w := by omega
      have k1 : nI (B_b b) ≤ nI (w % 10) ↔ B_b b ≤ w - 30 := by
        rw [show w % 10 = w - 30 by omega]
        exact nI_leI (by omega) (by omega)
      have u10 : ¬ (10 ≤ w ∧ w < 10 + B_d b) := by omega
      have u20 : ¬ (20 ≤ w ∧ w < 20 + B_d b) := by omega
      have u40 : ¬ (40 ≤ w ∧ w < 40 + B_b b) := by omega
      have u50 : ¬ (50 ≤ w ∧ w < 50 + B_f b) := by omega
      have xx10 : ¬ w < 10 + B_d b := by omega
      have xx20 : ¬ w < 20 + B_d b := by omega
      by_cases u30 : w < 30 + B_b b
      · have k2 : ¬ B_b b ≤ w - 30 := by omega
        have o1 : (13 : Int32) + nI (w % 10) = nI (13 + (w - 30)) := by rw [show w % 10 = w - 30 by omega]; exact nI_add 13 _
        have f3 := den_ofBook h ok i (13 + (w - 30)) hi (by omega) e
        have g3 : h.1 219 (39 * i + (13 + (w - 30))) = nI (B_need b (w - 30)) := by
          rw [← Nat.add_assoc]
          exact (e4 (w - 30) (by omega)).1
        rw [g3] at f3
        have u30' : 30 ≤ w ∧ w < 30 + B_b b := by omega
        simp only [e243_0, e243_1, e243_2, e243_5, e243_6, e243_7, e243_10, e243_13, e243_14, e243_15, e243_16, e243_18, e243_19, e243_20, e243_21, e243_23, e243_24, e243_64, e243_65, e243_66, e243_67, e243_70, e243_73, e243_74, e243_75, e243_78, e243_81, e243_82, e243_83, e243_84, e243_85, e243_86, e243_89, e243_92, e243_93, e243_94, e243_96, e243_99, e243_100, e243_103, e243_105, e243_106, e243_107, e243_110, e243_113, e243_114, e243_115, e243_116, e243_117, e243_118, e243_121, e243_124, e243_125, e243_126, e243_128, e243_131, e243_133, e243_136, e243_138, e243_139, e243_140, e243_143, e243_146, e243_147, e243_148, e243_149, e243_150, e243_151, e243_154, e243_157, e243_158, e243_160, e243_161, e243_162, e243_165, e243_168, e243_169, e243_170, e243_171, am_bd_some, Option.toList_some, Option.toList_none, List.cons_append, List.nil_append, am_w8_0, am_w8_1, am_w8_2, am_w8_3, am_w8_4, eq_self, or_true, true_or, am_kd_sI, am_kd_sL, am_kd_sR, am_tc_sI, am_tc_sL, am_tc_sR, am_len_sI, am_len_sL, am_len_sR, am_rfs, if_true, if_false, am_rdL_sI, am_rR_sL, am_rt_cq, am_kd_cq, am_tc_cq, am_len_cq, am_rd_sL, am_rd_sR, am_rdL_sR, okK_211 ok, t10, dv, rm, q0, q1, q2, q3, q4, q5, den_in, p0, p2, f0, f1, f2, true_and, and_false, d0, d1, d2, eq_true d3, l20, l40, s20, s40, k1, k2, o1, f3, u10, u20, u30', and_self, u40, u50, xx10, xx20, v0, v1, v2, q_bkN]
      · have k2 : B_b b ≤ w - 30 := by omega
        have u30' : ¬ (30 ≤ w ∧ w < 30 + B_b b) := by omega
        simp only [e243_0, e243_1, e243_2, e243_5, e243_6, e243_7, e243_10, e243_13, e243_14, e243_15, e243_16, e243_18, e243_19, e243_20, e243_21, e243_23, e243_24, e243_64, e243_65, e243_66, e243_67, e243_70, e243_73, e243_74, e243_75, e243_78, e243_81, e243_82, e243_83, e243_84, e243_85, e243_86, e243_89, e243_92, e243_93, e243_94, e243_96, e243_99, e243_100, e243_103, e243_105, e243_106, e243_107, e243_110, e243_113, e243_114, e243_115, e243_116, e243_117, e243_118, e243_121, e243_124, e243_125, e243_126, e243_128, e243_131, e243_133, e243_136, e243_138, e243_139, e243_140, e243_143, e243_146, e243_147, e243_148, e243_149, e243_150, e243_151, e243_154, e243_157, e243_158, e243_160, e243_161, e243_162, e243_165, e243_168, e243_169, e243_170, e243_171, am_bd_some, Option.toList_some, Option.toList_none, List.cons_append, List.nil_append, am_w8_0, am_w8_1, am_w8_2, am_w8_3, am_w8_4, eq_self, or_true, true_or, am_kd_sI, am_kd_sL, am_kd_sR, am_tc_sI, am_tc_sL, am_tc_sR, am_len_sI, am_len_sL, am_len_sR, am_rfs, if_true, if_false, am_rdL_sI, am_rR_sL, am_rt_cq, am_kd_cq, am_tc_cq, am_len_cq, am_rd_sL, am_rd_sR, am_rdL_sR, okK_211 ok, t10, dv, rm, q0, q1, q2, q3, q4, q5, den_in, p0, p2, f0, f1, f2, true_and, and_false, d0, d1, d2, eq_true d3, k1, k2, u10, u20, u30', u40, u50, v0, v1, v2, q_bkN]
    by_cases w50 : w < 50
    · have d0 : ¬ w / 10 = 0 := by omega
      have d1 : ¬ w / 10 = 1 := by omega
      have d2 : ¬ w / 10 = 2 := by omega
      have d3 : ¬ w / 10 = 3 := by omega
      have d4 : w / 10 = 4 := by omega
      have s20 : 20 ≤ w := by omega
      have s40 : 40 ≤ w := by omega
      have k1 : nI (B_b b) ≤ nI (w % 10) ↔ B_b b ≤ w - 40 := by
        rw [show w % 10 = w - 40 by omega]
        exact nI_leI (by omega) (by omega)
      have u10 : ¬ (10 ≤ w ∧ w < 10 + B_d b) := by omega
      have u20 : ¬ (20 ≤ w ∧ w < 20 + B_d b) := by omega
      have u30 : ¬ (30 ≤ w ∧ w < 30 + B_b b) := by omega
      have u50 : ¬ (50 ≤ w ∧ w < 50 + B_f b) := by omega
      have xx10 : ¬ w < 10 + B_d b := by omega
      have xx20 : ¬ w < 20 + B_d b := by omega
      have xx30 : ¬ w < 30 + B_b b := by omega
      by_cases u40 : w < 40 + B_b b
      · have k2 : ¬ B_b b ≤ w - 40 := by omega
        have o1 : (21 : Int32) + nI (w % 10) = nI (21 + (w - 40)) := by rw [show w % 10 = w - 40 by omega]; exact nI_add 21 _
        have f3 := den_ofBook h ok i (21 + (w - 40)) hi (by omega) e
        have g3 : h.1 219 (39 * i + (21 + (w - 40))) = nI (B_worth b (w - 40)) := by
          rw [← Nat.add_assoc]
          exact (e4 (w - 40) (by omega)).2
        rw [g3] at f3
        have u40' : 40 ≤ w ∧ w < 40 + B_b b := by omega
        simp only [e243_0, e243_1, e243_2, e243_5, e243_6, e243_7, e243_10, e243_13, e243_14, e243_15, e243_16, e243_18, e243_19, e243_20, e243_21, e243_23, e243_24, e243_64, e243_65, e243_66, e243_67, e243_70, e243_73, e243_74, e243_75, e243_78, e243_81, e243_82, e243_83, e243_84, e243_85, e243_86, e243_89, e243_92, e243_93, e243_94, e243_96, e243_99, e243_100, e243_103, e243_105, e243_106, e243_107, e243_110, e243_113, e243_114, e243_115, e243_116, e243_117, e243_118, e243_121, e243_124, e243_125, e243_126, e243_128, e243_131, e243_133, e243_136, e243_138, e243_139, e243_140, e243_143, e243_146, e243_147, e243_148, e243_149, e243_150, e243_151, e243_154, e243_157, e243_158, e243_160, e243_161, e243_162, e243_165, e243_168, e243_169, e243_170, e243_171, am_bd_some, Option.toList_some, Option.toList_none, List.cons_append, List.nil_append, am_w8_0, am_w8_1, am_w8_2, am_w8_3, am_w8_4, eq_self, or_true, true_or, am_kd_sI, am_kd_sL, am_kd_sR, am_tc_sI, am_tc_sL, am_tc_sR, am_len_sI, am_len_sL, am_len_sR, am_rfs, if_true, if_false, am_rdL_sI, am_rR_sL, am_rt_cq, am_kd_cq, am_tc_cq, am_len_cq, am_rd_sL, am_rd_sR, am_rdL_sR, okK_211 ok, t10, dv, rm, q0, q1, q2, q3, q4, q5, den_in, p0, p2, f0, f1, f2, true_and, and_false, d0, d1, d2, d3, eq_true d4, l20, l40, s20, s40, k1, k2, o1, f3, u10, u20, u30, u40', and_self, u50, xx10, xx20, xx30, v0, v1, v2, q_bkN]
      · have k2 : B_b b ≤ w - 40 := by omega
        have u40' : ¬ (40 ≤ w ∧ w < 40 + B_b b) := by omega
        simp only [e243_0, e243_1, e243_2, e243_5, e243_6, e243_7, e243_10, e243_13, e243_14, e243_15, e243_16, e243_18, e243_19, e243_20, e243_21, e243_23, e243_24, e243_64, e243_65, e243_66, e243_67, e243_70, e243_73, e243_74, e243_75, e243_78, e243_81, e243_82, e243_83, e243_84, e243_85, e243_86, e243_89, e243_92, e243_93, e243_94, e243_96, e243_99, e243_100, e243_103, e243_105, e243_106, e243_107, e243_110, e243_113, e243_114, e243_115, e243_116, e243_117, e243_118, e243_121, e243_124, e243_125, e243_126, e243_128, e243_131, e243_133, e243_136, e243_138, e243_139, e243_140, e243_143, e243_146, e243_147, e243_148, e243_149, e243_150, e243_151, e243_154, e243_157, e243_158, e243_160, e243_161, e243_162, e243_165, e243_168, e243_169, e243_170, e243_171, am_bd_some, Option.toList_some, Option.toList_none, List.cons_append, List.nil_append, am_w8_0, am_w8_1, am_w8_2, am_w8_3, am_w8_4, eq_self, or_true, true_or, am_kd_sI, am_kd_sL, am_kd_sR, am_tc_sI, am_tc_sL, am_tc_sR, am_len_sI, am_len_sL, am_len_sR, am_rfs, if_true, if_false, am_rdL_sI, am_rR_sL, am_rt_cq, am_kd_cq, am_tc_cq, am_len_cq, am_rd_sL, am_rd_sR, am_rdL_sR, okK_211 ok, t10, dv, rm, q0, q1, q2, q3, q4, q5, den_in, p0, p2, f0, f1, f2, true_and, and_false, d0, d1, d2, d3, eq_true d4, k1, k2, u10, u20, u30, u40', u50, v0, v1, v2, q_bkN]
    by_cases w60 : w < 60
    · have d0 : ¬ w / 10 = 0 := by omega
      have d1 : ¬ w / 10 = 1 := by omega
      have d2 : ¬ w / 10 = 2 := by omega
      have d3 : ¬ w / 10 = 3 := by omega
      have d4 : ¬ w / 10 = 4 := by omega
      have d5 : w / 10 = 5 := by omega
      have s20 : 20 ≤ w := by omega
      have s40 : 40 ≤ w := by omega
      have k1 : nI (B_f b) ≤ nI (w % 10) ↔ B_f b ≤ w - 50 := by
        rw [show w % 10 = w - 50 by omega]
        exact nI_leI (by omega) (by omega)
      have u10 : ¬ (10 ≤ w ∧ w < 10 + B_d b) := by omega
      have u20 : ¬ (20 ≤ w ∧ w < 20 + B_d b) := by omega
      have u30 : ¬ (30 ≤ w ∧ w < 30 + B_b b) := by omega
      have u40 : ¬ (40 ≤ w ∧ w < 40 + B_b b) := by omega
      have xx10 : ¬ w < 10 + B_d b := by omega
      have xx20 : ¬ w < 20 + B_d b := by omega
      have xx30 : ¬ w < 30 + B_b b := by omega
      have xx40 : ¬ w < 40 + B_b b := by omega
      by_cases u50 : w < 50 + B_f b
      · have k2 : ¬ B_f b ≤ w - 50 := by omega
        have o1 : (29 : Int32) + nI (w % 10) = nI (29 + (w - 50)) := by rw [show w % 10 = w - 50 by omega]; exact nI_add 29 _
        have f3 := den_ofBook h ok i (29 + (w - 50)) hi (by omega) e
        have g3 : h.1 219 (39 * i + (29 + (w - 50))) = nI (B_field b (w - 50)) := by
          rw [← Nat.add_assoc]
          exact (e5 (w - 50) (by omega))
        rw [g3] at f3
        have u50' : 50 ≤ w ∧ w < 50 + B_f b := by omega
        simp only [e243_0, e243_1, e243_2, e243_5, e243_6, e243_7, e243_10, e243_13, e243_14, e243_15, e243_16, e243_18, e243_19, e243_20, e243_21, e243_23, e243_24, e243_64, e243_65, e243_66, e243_67, e243_70, e243_73, e243_74, e243_75, e243_78, e243_81, e243_82, e243_83, e243_84, e243_85, e243_86, e243_89, e243_92, e243_93, e243_94, e243_96, e243_99, e243_100, e243_103, e243_105, e243_106, e243_107, e243_110, e243_113, e243_114, e243_115, e243_116, e243_117, e243_118, e243_121, e243_124, e243_125, e243_126, e243_128, e243_131, e243_133, e243_136, e243_138, e243_139, e243_140, e243_143, e243_146, e243_147, e243_148, e243_149, e243_150, e243_151, e243_154, e243_157, e243_158, e243_160, e243_161, e243_162, e243_165, e243_168, e243_169, e243_170, e243_171, am_bd_some, Option.toList_some, Option.toList_none, List.cons_append, List.nil_append, am_w8_0, am_w8_1, am_w8_2, am_w8_3, am_w8_4, eq_self, or_true, true_or, am_kd_sI, am_kd_sL, am_kd_sR, am_tc_sI, am_tc_sL, am_tc_sR, am_len_sI, am_len_sL, am_len_sR, am_rfs, if_true, if_false, am_rdL_sI, am_rR_sL, am_rt_cq, am_kd_cq, am_tc_cq, am_len_cq, am_rd_sL, am_rd_sR, am_rdL_sR, okK_211 ok, t10, dv, rm, q0, q1, q2, q3, q4, q5, den_in, p0, p2, f0, f1, f2, true_and, and_false, d0, d1, d2, d3, d4, eq_true d5, l20, l40, s20, s40, k1, k2, o1, f3, u10, u20, u30, u40, u50', and_self, xx10, xx20, xx30, xx40, v0, v1, v2, q_bkN]
      · have k2 : B_f b ≤ w - 50 := by omega
        have u50' : ¬ (50 ≤ w ∧ w < 50 + B_f b) := by omega
        simp only [e243_0, e243_1, e243_2, e243_5, e243_6, e243_7, e243_10, e243_13, e243_14, e243_15, e243_16, e243_18, e243_19, e243_20, e243_21, e243_23, e243_24, e243_64, e243_65, e243_66, e243_67, e243_70, e243_73, e243_74, e243_75, e243_78, e243_81, e243_82, e243_83, e243_84, e243_85, e243_86, e243_89, e243_92, e243_93, e243_94, e243_96, e243_99, e243_100, e243_103, e243_105, e243_106, e243_107, e243_110, e243_113, e243_114, e243_115, e243_116, e243_117, e243_118, e243_121, e243_124, e243_125, e243_126, e243_128, e243_131, e243_133, e243_136, e243_138, e243_139, e243_140, e243_143, e243_146, e243_147, e243_148, e243_149, e243_150, e243_151, e243_154, e243_157, e243_158, e243_160, e243_161, e243_162, e243_165, e243_168, e243_169, e243_170, e243_171, am_bd_some, Option.toList_some, Option.toList_none, List.cons_append, List.nil_append, am_w8_0, am_w8_1, am_w8_2, am_w8_3, am_w8_4, eq_self, or_true, true_or, am_kd_sI, am_kd_sL, am_kd_sR, am_tc_sI, am_tc_sL, am_tc_sR, am_len_sI, am_len_sL, am_len_sR, am_rfs, if_true, if_false, am_rdL_sI, am_rR_sL, am_rt_cq, am_kd_cq, am_tc_cq, am_len_cq, am_rd_sL, am_rd_sR, am_rdL_sR, okK_211 ok, t10, dv, rm, q0, q1, q2, q3, q4, q5, den_in, p0, p2, f0, f1, f2, true_and, and_false, d0, d1, d2, d3, d4, eq_true d5, k1, k2, u10, u20, u30, u40, u50', v0, v1, v2, q_bkN]
    have d0 : ¬ w / 10 = 0 := by omega
    have d1 : ¬ w / 10 = 1 := by omega
    have d2 : ¬ w / 10 = 2 := by omega
    have d3 : ¬ w / 10 = 3 := by omega
    have d4 : ¬ w / 10 = 4 := by omega
    have d5 : ¬ w / 10 = 5 := by omega
    have u10 : ¬ (10 ≤ w ∧ w < 10 + B_d b) := by omega
    have u20 : ¬ (20 ≤ w ∧ w < 20 + B_d b) := by omega
    have u30 : ¬ (30 ≤ w ∧ w < 30 + B_b b) := by omega
    have u40 : ¬ (40 ≤ w ∧ w < 40 + B_b b) := by omega
    have u50 : ¬ (50 ≤ w ∧ w < 50 + B_f b) := by omega
    simp only [e243_0, e243_1, e243_2, e243_5, e243_6, e243_7, e243_10, e243_13, e243_14, e243_15, e243_16, e243_18, e243_19, e243_20, e243_21, e243_23, e243_24, e243_64, e243_65, e243_66, e243_67, e243_70, e243_73, e243_74, e243_75, e243_78, e243_81, e243_82, e243_83, e243_84, e243_85, e243_86, e243_89, e243_92, e243_93, e243_94, e243_96, e243_99, e243_100, e243_103, e243_105, e243_106, e243_107, e243_110, e243_113, e243_114, e243_115, e243_116, e243_117, e243_118, e243_121, e243_124, e243_125, e243_126, e243_128, e243_131, e243_133, e243_136, e243_138, e243_139, e243_140, e243_143, e243_146, e243_147, e243_148, e243_149, e243_150, e243_151, e243_154, e243_157, e243_158, e243_160, e243_161, e243_162, e243_165, e243_168, e243_169, e243_170, e243_171, am_bd_some, Option.toList_some, Option.toList_none, List.cons_append, List.nil_append, am_w8_0, am_w8_1, am_w8_2, am_w8_3, am_w8_4, eq_self, or_true, true_or, am_kd_sI, am_kd_sL, am_kd_sR, am_tc_sI, am_tc_sL, am_tc_sR, am_len_sI, am_len_sL, am_len_sR, am_rfs, if_true, if_false, am_rdL_sI, am_rR_sL, am_rt_cq, am_kd_cq, am_tc_cq, am_len_cq, am_rd_sL, am_rd_sR, am_rdL_sR, okK_211 ok, t10, dv, rm, q0, q1, q2, q3, q4, q5, den_in, p0, p2, f0, f1, f2, true_and, and_false, d0, d1, d2, d3, d4, d5, u10, u20, u30, u40, u50, v0, v1, v2, q_bkN]
theorem den_mbook {A : q_All} {h : am_H} (ok : am_okH h) (h0 : h.1 211 0 = 0) (c1 : A.2.1 2 ≤ 2) (c3 : h.1 216 2 = nI (A.2.1 2)) (bk : ∀ i, i < A.2.1 2 → B_ok (A.2.2.2.2.1 i) ∧ B_mod (fun a k => h.1 (212 + a) k) (39 * i) (A.2.2.2.2.1 i)) (d w : Int32) : am_den 243 [.ref 211, .int d, .int w] h = some (some (.int (q_bkQ A d w)), am_sI h 211 45 d) := by
  have dh := den_hasBook h ok (A.2.1 2) c1 c3 d
  show am_ev 243 0 [some (.ref 211), some (.int d), some (.int w), none] [] h = _
  unfold q_bkQ
  by_cases c : 0 ≤ d ∧ d < nI (A.2.1 2)
  · obtain ⟨i, hi, rfl⟩ := q_in2 c1 c
    obtain ⟨b1, b2⟩ := bk i hi
    have z : (nI i).toNatClampNeg = i := nI_clamp (by omega)
    have y1 : (1 : Int32) = 0 ↔ False := by decide
    rw [if_pos c] at dh ⊢
    simp only [e243_0, e243_1, e243_2, e243_5, e243_6, e243_7, e243_10, e243_13, e243_14, e243_16, e243_18, e243_19, e243_20, e243_21, e243_23, e243_24, e243_64, e243_65, e243_66, e243_67, e243_70, e243_73, e243_74, e243_75, e243_78, e243_81, e243_82, e243_83, e243_84, e243_85, e243_86, e243_89, e243_92, e243_93, e243_94, e243_96, e243_99, e243_100, e243_103, e243_105, e243_106, e243_107, e243_110, e243_113, e243_114, e243_115, e243_116, e243_117, e243_118, e243_121, e243_124, e243_125, e243_126, e243_128, e243_131, e243_133, e243_136, e243_138, e243_139, e243_140, e243_143, e243_146, e243_147, e243_148, e243_149, e243_150, e243_151, e243_154, e243_157, e243_158, e243_160, e243_161, e243_162, e243_165, e243_168, e243_169, e243_170, e243_171, am_bd_some, Option.toList_some, Option.toList_none, List.cons_append, List.nil_append, am_w8_0, am_w8_1, am_w8_2, am_w8_3, am_w8_4, eq_self, or_true, true_or, am_kd_sI, am_kd_sL, am_kd_sR, am_tc_sI, am_tc_sL, am_tc_sR, am_len_sI, am_len_sL, am_len_sR, am_rfs, if_true, if_false, am_rdL_sI, am_rR_sL, am_rt_cq, am_kd_cq, am_tc_cq, am_len_cq, am_rd_sL, am_rd_sR, am_rdL_sR, okK_211 ok, am_sI_id h0, dh, y1, not_false_eq_true, z]
    exact den_mbk (am_sI h 211 45 (nI i)) ok i (by omega) _ b1 rfl b2 w
  · rw [if_neg c] at dh ⊢
    simp only [e243_0, e243_1, e243_2, e243_5, e243_6, e243_7, e243_10, e243_13, e243_14, e243_16, e243_18, e243_19, e243_20, e243_21, e243_23, e243_24, e243_64, e243_65, e243_66, e243_67, e243_70, e243_73, e243_74, e243_75, e243_78, e243_81, e243_82, e243_83, e243_84, e243_85, e243_86, e243_89, e243_92, e243_93, e243_94, e243_96, e243_99, e243_100, e243_103, e243_105, e243_106, e243_107, e243_110, e243_113, e243_114, e243_115, e243_116, e243_117, e243_118, e243_121, e243_124, e243_125, e243_126, e243_128, e243_131, e243_133, e243_136, e243_138, e243_139, e243_140, e243_143, e243_146, e243_147, e243_148, e243_149, e243_150, e243_151, e243_154, e243_157, e243_158, e243_160, e243_161, e243_162, e243_165, e243_168, e243_169, e243_170, e243_171, am_bd_some, Option.toList_some, Option.toList_none, List.cons_append, List.nil_append, am_w8_0, am_w8_1, am_w8_2, am_w8_3, am_w8_4, eq_self, or_true, true_or, am_kd_sI, am_kd_sL, am_kd_sR, am_tc_sI, am_tc_sL, am_tc_sR, am_len_sI, am_len_sL, am_len_sR, am_rfs, if_true, if_false, am_rdL_sI, am_rR_sL, am_rt_cq, am_kd_cq, am_tc_cq, am_len_cq, am_rd_sL, am_rd_sR, am_rdL_sR, okK_211 ok, am_sI_id h0, dh, not_true]
theorem den_cbook {A : q_All} {h : am_H} (H : q_Rel A h) (d w : Int32) : am_den 126 [.ref 0, .int d, .int w] h = some (some (.int (q_bkQ A d w)), h) := by
  have ok := H.1
  obtain ⟨c1, c2, c3⟩ := H.cnt 2 (by decide)
  have dh := den_has h ok 2 (by decide) (A.2.1 2) c1 c2 d
  rw [show nI 2 = 2 from rfl] at dh
  show am_ev 126 0 [some (.ref 0), some (.int d), some (.int w)] [] h = _
  unfold q_bkQ
  by_cases c : 0 ≤ d ∧ d < nI (A.2.1 2)
  · obtain ⟨i, hi, rfl⟩ := q_in2 c1 c
    obtain ⟨f, r⟩ := q_bo_now ok i (by omega)
    obtain ⟨d1, d2, -⟩ := H.bk i hi
    have z : (nI i).toNatClampNeg = i := nI_clamp (by omega)
    have x : am_ix (nI i) 2 = true := am_ix_nI (by omega) (by decide)
    have y1 : (1 : Int32) = 0 ↔ False := by decide
    rw [if_pos c] at dh ⊢
    simp only [e126_0, e126_1, e126_4, e126_5, e126_6, e126_9, e126_12, e126_13, e126_16, e126_19, e126_20f, e126_20d, e126_20b, e126_20l, e126_20t, e126_21, e126_22, e126_25, e126_28, e126_29, am_bd_some, Option.toList_some, Option.toList_none, List.cons_append, List.nil_append, am_w8_0, am_w8_1, am_w8_2, am_w8_3, am_w8_4, eq_self, or_true, true_or, am_kd_sI, am_kd_sL, am_kd_sR, am_tc_sI, am_tc_sL, am_tc_sR, am_len_sI, am_len_sL, am_len_sR, am_rfs, if_true, if_false, am_rdL_sI, am_rR_sL, am_rt_cq, am_kd_cq, am_tc_cq, am_len_cq, am_rd_sL, am_rd_sR, am_rdL_sR, okK_0 ok, okR_0_0 ok, okK_1 ok, okR_1_7 ok, okT_6 ok, okL_6 ok, dh, y1, z, x, r, f.1, den_bans h (13 + 16 * i) _ f d1 d2]
  · rw [if_neg c] at dh ⊢
    simp only [e126_0, e126_1, e126_4, e126_5, e126_6, e126_9, e126_12, e126_13, e126_16, e126_19, e126_20f, e126_20d, e126_20b, e126_20l, e126_20t, e126_21, e126_22, e126_25, e126_28, e126_29, am_bd_some, Option.toList_some, Option.toList_none, List.cons_append, List.nil_append, am_w8_0, am_w8_1, am_w8_2, am_w8_3, am_w8_4, eq_self, or_true, true_or, am_kd_sI, am_kd_sL, am_kd_sR, am_tc_sI, am_tc_sL, am_tc_sR, am_len_sI, am_len_sL, am_len_sR, am_rfs, if_true, if_false, am_rdL_sI, am_rR_sL, am_rt_cq, am_kd_cq, am_tc_cq, am_len_cq, am_rd_sL, am_rd_sR, am_rdL_sR, okK_0 ok, okR_0_0 ok, okK_1 ok, okR_1_7 ok, okT_6 ok, okL_6 ok, dh]
theorem q_wk1 {h : am_H} (ok : am_okH h) (k : Nat) (hk : k ≠ 0) (v : Int32) : q_wk h (am_sI h 211 k v) := ⟨ok, rfl, fun a j q => ⟨by
  rw [am_rd_sI, if_neg (fun e => ?_)]
  unfold q_told at q
  omega, rfl⟩⟩
theorem ly_13 : ly_p13 := by
  intro d w h R
  obtain ⟨A, H⟩ := R
  have ok := H.1
  obtain ⟨c1, c2, c3⟩ := H.cnt 2 (by decide)
  exact ⟨q_bkQ A d w, h, am_sI h 211 45 d, ok, rfl, den_cbook H d w, den_mbook ok H.2.1 c1 c3 (fun i hi => ⟨(H.bk i hi).1, (H.bk i hi).2.2⟩) d w, ⟨A, H.wk (q_wk1 ok 45 (by decide) d)⟩, rfl⟩
