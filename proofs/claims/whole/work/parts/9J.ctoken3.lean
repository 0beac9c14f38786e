/-! part 9J: the class's tokens: readToken -/
theorem den_readWord (h : am_H) (t : Nat → Nat) (L : Nat) (x : t_cx h t L) (a : Nat) (ha : a ≤ L) (k s v : Int32) : am_den 23 [.ref 159] (t_cu h (nI a) k s v) = some (none, t_cu h (nI (t_wh t_le t (L - a) a)) 1 s v) := by
  have lp := t_ck_w (t_cu h (nI a) k s v) t L (t_cu_cx x _ _ _ _) (L - a) a (by omega)
  rw [t_cu_a, t_cu_a, t_cu_k] at lp
  exact lp
theorem den_readNumber (h : am_H) (t : Nat → Nat) (L : Nat) (x : t_cx h t L) (a : Nat) (ha : a ≤ L) (k v : Int32) : am_den 25 [.ref 159] (t_cu h (nI a) k (nI a) v) = some (none, t_cu h (nI (t_wh t_di t (L - a) a)) (if t_wh t_di t (L - a) a - a ≤ 2 then 2 else 4) (nI a) (nI (t_nc t (t_wh t_di t (L - a) a - a) a 0))) := by
  have lp := t_ck_n h t L x k a (L - a) a 0 (by omega) (Nat.le_refl _)
  have ok : am_okH (t_cu h (nI a) k (nI a) v) := x.1
  have s0 : am_ev 25 0 [some (.ref 159)] [] (t_cu h (nI a) k (nI a) v) = am_ev 25 5 [some (.ref 159)] [] (t_cu h (nI a) k (nI a) 0) := by
    simp only [e25_0, e25_1, e25_2, e25_6, e25_9, e25_10, e25_13, e25_16, e25_17, e25_20, e25_21, e25_24, e25_24z, e25_25, e25_28, e25_31, e25_32, e25_33, e25_36, e25_38, e25_39, e25_40, e25_43, e25_44, e25_47, e25_47z, e25_48, e25_49, e25_51, e25_52, e25_55, e25_56, e25_56i, e25_57, e25_60, e25_61, e25_62, e25_65, e25_68, e25_69, e25_70, e25_73, e25_74, e25_77, e25_78, e25_79, e25_82, e25_83, e25_86, e25_87, e25_90, am_bd_some, Option.toList_some, Option.toList_none, List.cons_append, List.nil_append, am_w8_0, am_w8_1, am_w8_2, am_w8_3, am_w8_4, eq_self, or_true, true_or, am_kd_sI, am_kd_sL, am_kd_sR, am_tc_sI, am_tc_sL, am_tc_sR, am_len_sI, am_len_sL, am_len_sR, am_rfs, if_true, if_false, am_rdL_sI, am_rR_sL, am_rt_cq, am_kd_cq, am_tc_cq, am_len_cq, am_rd_sL, am_rd_sR, am_rdL_sR, okK_159 ok, t_cu_v]
  show am_ev 25 0 [some (.ref 159)] [] (t_cu h (nI a) k (nI a) v) = _
  rw [s0]
  exact lp
theorem t_ck_b (h : am_H) (t : Nat → Nat) (L : Nat) (x : t_cx h t L) (k s v : Int32) : ∀ (r a : Nat), a + r = L → am_ev 21 0 [some (.ref 159)] [] (t_cu h (nI a) k s v) = am_ev 21 52 [some (.ref 159)] [] (t_cu h (nI (t_wh t_bl t r a)) k s v) := by
  have L6 := x.2.1
  have ok : ∀ a b c d, am_okH (t_cu h a b c d) := fun _ _ _ _ => x.1
  have r9 : ∀ a b c d, (t_cu h a b c d).1 159 9 = a := fun _ _ _ _ => rfl
  have r8 : ∀ a b c d, (t_cu h a b c d).1 159 8 = nI L := fun _ _ _ _ => x.2.2.2.1
  have r7 : ∀ a b c d, (t_cu h a b c d).2.2.1 159 7 = some 2 := fun _ _ _ _ => x.2.2.1
  intro r
  induction r with
  | zero =>
    intro a ha
    obtain rfl : a = L := by omega
    have h1 : nI a ≤ nI a := Int32.le_refl _
    rw [e21_0]
    simp only [e21_1, e21_4, e21_5, e21_8, e21_11, e21_12, e21_15, e21_16, e21_19, e21_19z, e21_20, e21_22, e21_25, e21_26, e21_29, e21_30, e21_33, e21_33z, e21_34, e21_36, e21_39, e21_40, e21_40i, e21_41, e21_44, e21_45, e21_46, e21_49, e21_53, e21_54, e21_57, e21_60, e21_61, e21_64, e21_65, e21_68, e21_71, e21_72, e21_73, e21_76, e21_79, e21_80, e21_83, e21_84, e21_87, e21_87z, e21_88, e21_90, e21_93, e21_94, e21_94i, e21_95, e21_98, e21_99, e21_100, e21_103, e21_104, e21_105, e21_108, e21_111, e21_112, e21_115, e21_116, e21_119, e21_119z, e21_120, e21_123, e21_126, e21_127, e21_130, e21_133, e21_134, e21_137, e21_138, e21_141, e21_141z, e21_142, e21_145, e21_148, e21_149, e21_152, e21_155, e21_156, e21_157, e21_160, am_bd_some, Option.toList_some, Option.toList_none, List.cons_append, List.nil_append, am_w8_0, am_w8_1, am_w8_2, am_w8_3, am_w8_4, eq_self, or_true, true_or, am_kd_sI, am_kd_sL, am_kd_sR, am_tc_sI, am_tc_sL, am_tc_sR, am_len_sI, am_len_sL, am_len_sR, am_rfs, if_true, if_false, am_rdL_sI, am_rR_sL, am_rt_cq, am_kd_cq, am_tc_cq, am_len_cq, am_rd_sL, am_rd_sR, am_rdL_sR, okK_159 (ok _ _ _ _), r9, r8, h1]
    rfl
  | succ r ih =>
    intro a ha
    have h1 : ¬ nI L ≤ nI a := nI_ge (by omega) (by omega)
    have xi : am_ix (nI a) 600 = true := am_ix_nI (by omega) (by decide)
    have z : (nI a).toNatClampNeg = a := nI_clamp (by omega)
    have i1 : ∀ p q u w, am_byte ((t_cu h p q u w).1 2 a) = 10 ↔ t a = 10 := fun p q u w => by
      have e := t_by_eq ((t_cu h p q u w).1 2 a) (c := 10) (by decide)
      rw [show t_by ((t_cu h p q u w).1 2 a) = t a from x.2.2.2.2 a (by omega)] at e
      exact e
    have i2 : ∀ p q u w, am_byte ((t_cu h p q u w).1 2 a) = 32 ↔ t a = 32 := fun p q u w => by
      have e := t_by_eq ((t_cu h p q u w).1 2 a) (c := 32) (by decide)
      rw [show t_by ((t_cu h p q u w).1 2 a) = t a from x.2.2.2.2 a (by omega)] at e
      exact e
    rw [e21_0]
    by_cases c : t a = 10 ∨ t a = 32
    · have ew : t_wh t_bl t (r + 1) a = t_wh t_bl t r (a + 1) := if_pos (decide_eq_true c)
      rw [ew, ← ih (a + 1) (by omega)]
      by_cases c1 : t a = 10
      · have c1' := eq_true c1
        simp only [e21_1, e21_4, e21_5, e21_8, e21_11, e21_12, e21_15, e21_16, e21_19, e21_19z, e21_20, e21_22, e21_25, e21_26, e21_29, e21_30, e21_33, e21_33z, e21_34, e21_36, e21_39, e21_40, e21_40i, e21_41, e21_44, e21_45, e21_46, e21_49, e21_53, e21_54, e21_57, e21_60, e21_61, e21_64, e21_65, e21_68, e21_71, e21_72, e21_73, e21_76, e21_79, e21_80, e21_83, e21_84, e21_87, e21_87z, e21_88, e21_90, e21_93, e21_94, e21_94i, e21_95, e21_98, e21_99, e21_100, e21_103, e21_104, e21_105, e21_108, e21_111, e21_112, e21_115, e21_116, e21_119, e21_119z, e21_120, e21_123, e21_126, e21_127, e21_130, e21_133, e21_134, e21_137, e21_138, e21_141, e21_141z, e21_142, e21_145, e21_148, e21_149, e21_152, e21_155, e21_156, e21_157, e21_160, am_bd_some, Option.toList_some, Option.toList_none, List.cons_append, List.nil_append, am_w8_0, am_w8_1, am_w8_2, am_w8_3, am_w8_4, eq_self, or_true, true_or, am_kd_sI, am_kd_sL, am_kd_sR, am_tc_sI, am_tc_sL, am_tc_sR, am_len_sI, am_len_sL, am_len_sR, am_rfs, if_true, if_false, am_rdL_sI, am_rR_sL, am_rt_cq, am_kd_cq, am_tc_cq, am_len_cq, am_rd_sL, am_rd_sR, am_rdL_sR, okK_159 (ok _ _ _ _), r9, r8, r7, h1, okT_2 (ok _ _ _ _), okL_2 (ok _ _ _ _), xi, z, i1, c1', nI_1, t_cu_a]
      · have c2' := eq_true (show t a = 32 by omega)
        simp only [e21_1, e21_4, e21_5, e21_8, e21_11, e21_12, e21_15, e21_16, e21_19, e21_19z, e21_20, e21_22, e21_25, e21_26, e21_29, e21_30, e21_33, e21_33z, e21_34, e21_36, e21_39, e21_40, e21_40i, e21_41, e21_44, e21_45, e21_46, e21_49, e21_53, e21_54, e21_57, e21_60, e21_61, e21_64, e21_65, e21_68, e21_71, e21_72, e21_73, e21_76, e21_79, e21_80, e21_83, e21_84, e21_87, e21_87z, e21_88, e21_90, e21_93, e21_94, e21_94i, e21_95, e21_98, e21_99, e21_100, e21_103, e21_104, e21_105, e21_108, e21_111, e21_112, e21_115, e21_116, e21_119, e21_119z, e21_120, e21_123, e21_126, e21_127, e21_130, e21_133, e21_134, e21_137, e21_138, e21_141, e21_141z, e21_142, e21_145, e21_148, e21_149, e21_152, e21_155, e21_156, e21_157, e21_160, am_bd_some, Option.toList_some, Option.toList_none, List.cons_append, List.nil_append, am_w8_0, am_w8_1, am_w8_2, am_w8_3, am_w8_4, eq_self, or_true, true_or, am_kd_sI, am_kd_sL, am_kd_sR, am_tc_sI, am_tc_sL, am_tc_sR, am_len_sI, am_len_sL, am_len_sR, am_rfs, if_true, if_false, am_rdL_sI, am_rR_sL, am_rt_cq, am_kd_cq, am_tc_cq, am_len_cq, am_rd_sL, am_rd_sR, am_rdL_sR, okK_159 (ok _ _ _ _), r9, r8, r7, h1, okT_2 (ok _ _ _ _), okL_2 (ok _ _ _ _), xi, z, i1, i2, c1, c2', not_true, nI_1, t_cu_a]
    · have ew : t_wh t_bl t (r + 1) a = a := if_neg (fun w => c (of_decide_eq_true w))
      have c1 : ¬ t a = 10 := fun w => c (Or.inl w)
      have c2 : ¬ t a = 32 := fun w => c (Or.inr w)
      rw [ew]
      simp only [e21_1, e21_4, e21_5, e21_8, e21_11, e21_12, e21_15, e21_16, e21_19, e21_19z, e21_20, e21_22, e21_25, e21_26, e21_29, e21_30, e21_33, e21_33z, e21_34, e21_36, e21_39, e21_40, e21_40i, e21_41, e21_44, e21_45, e21_46, e21_49, e21_53, e21_54, e21_57, e21_60, e21_61, e21_64, e21_65, e21_68, e21_71, e21_72, e21_73, e21_76, e21_79, e21_80, e21_83, e21_84, e21_87, e21_87z, e21_88, e21_90, e21_93, e21_94, e21_94i, e21_95, e21_98, e21_99, e21_100, e21_103, e21_104, e21_105, e21_108, e21_111, e21_112, e21_115, e21_116, e21_119, e21_119z, e21_120, e21_123, e21_126, e21_127, e21_130, e21_133, e21_134, e21_137, e21_138, e21_141, e21_141z, e21_142, e21_145, e21_148, e21_149, e21_152, e21_155, e21_156, e21_157, e21_160, am_bd_some, Option.toList_some, Option.toList_none, List.cons_append, List.nil_append, am_w8_0, am_w8_1, am_w8_2, am_w8_3, am_w8_4, eq_self, or_true, true_or, am_kd_sI, am_kd_sL, am_kd_sR, am_tc_sI, am_tc_sL, am_tc_sR, am_len_sI, am_len_sL, am_len_sR, am_rfs, if_true, if_false, am_rdL_sI, am_rR_sL, am_rt_cq, am_kd_cq, am_tc_cq, am_len_cq, am_rd_sL, am_rd_sR, am_rdL_sR, okK_159 (ok _ _ _ _), r9, r8, r7, h1, okT_2 (ok _ _ _ _), okL_2 (ok _ _ _ _), xi, z, i1, i2, c1, c2, not_false_eq_true]
/-! where the class stands behind a token, its code, its value -/
def t_C (t : Nat → Nat) (L s : Nat) : Int32 := if s < L then (if t s = 59 then 3 else if t_le (t s) = true then 1 else if t_di (t s) = true then (if t_E t L s - s ≤ 2 then 2 else 4) else 4) else 0
def t_cV (t : Nat → Nat) (L s : Nat) (o : Int32) : Int32 := if s < L ∧ t_le (t s) = false ∧ t_di (t s) = true then nI (t_nc t (t_E t L s - s) s 0) else o
def t_at (t : Nat → Nat) (L s : Nat) : Nat := if s < L then (if t s = 59 then s + 1 else if t_le (t s) = true then t_E t L s else if t_di (t s) = true then t_E t L s else s) else s
theorem den_readToken (h : am_H) (t : Nat → Nat) (L a : Nat) (x : t_cx h t L) (ha : a ≤ L) (e : h.1 159 9 = nI a) : am_den 21 [.ref 159] h = some (none, t_cu h (nI (t_at t L (t_S t L a))) (t_C t L (t_S t L a)) (nI (t_S t L a)) (t_cV t L (t_S t L a) (h.1 159 12))) := by
  have L6 := x.2.1
  have hid := t_cu_id h
  rw [e] at hid
  have lp := t_ck_b h t L x (h.1 159 10) (h.1 159 11) (h.1 159 12) (L - a) a (by omega)
  rw [hid] at lp
  have sb := t_wh_le t_bl t (L - a) a
  show am_ev 21 0 [some (.ref 159)] [] h = _
  rw [lp]
  change am_ev _ _ _ _ (t_cu h (nI (t_S t L a)) _ _ _) = _
  have hs : t_S t L a ≤ L := by show t_wh t_bl t (L - a) a ≤ L; omega
  generalize t_S t L a = s at hs
  have ok : ∀ a b c d, am_okH (t_cu h a b c d) := fun _ _ _ _ => x.1
  have r9 : ∀ a b c d, (t_cu h a b c d).1 159 9 = a := fun _ _ _ _ => rfl
  have r8 : ∀ a b c d, (t_cu h a b c d).1 159 8 = nI L := fun _ _ _ _ => x.2.2.2.1
  have r7 : ∀ a b c d, (t_cu h a b c d).2.2.1 159 7 = some 2 := fun _ _ _ _ => x.2.2.1
  by_cases c0 : s < L
  · have h1 : nI s < nI L := nI_lt c0 (by omega)
    have xi : am_ix (nI s) 600 = true := am_ix_nI (by omega) (by decide)
    have z : (nI s).toNatClampNeg = s := nI_clamp (by omega)
    have eb : ∀ p q u w, t_by ((t_cu h p q u w).1 2 s) = t s := fun _ _ _ _ => x.2.2.2.2 s c0
    have i3 : ∀ p q u w, am_byte ((t_cu h p q u w).1 2 s) = 59 ↔ t s = 59 := fun p q u w => by
      have e := t_by_eq ((t_cu h p q u w).1 2 s) (c := 59) (by decide)
      rw [eb p q u w] at e
      exact e
    have y : ¬ (1 : Int32) = 0 := by decide
    have b1 : q_bi true = 1 := rfl
    have b0 : q_bi false = 0 := rfl
    rw [e21_52]
    by_cases c1 : t s = 59
    · have e1 : t_at t L s = s + 1 := by unfold t_at; rw [if_pos c0, if_pos c1]
      have e2 : t_C t L s = 3 := by unfold t_C; rw [if_pos c0, if_pos c1]
      have e3 : t_cV t L s (h.1 159 12) = h.1 159 12 := if_neg (fun w => by rw [c1] at w; exact absurd w.2.2 (by decide))
      have c1' := eq_true c1
      rw [e1, e2, e3]
      simp only [e21_0, e21_1, e21_4, e21_5, e21_8, e21_11, e21_12, e21_15, e21_16, e21_19, e21_19z, e21_20, e21_22, e21_25, e21_26, e21_29, e21_30, e21_33, e21_33z, e21_34, e21_36, e21_39, e21_40, e21_40i, e21_41, e21_44, e21_45, e21_46, e21_49, e21_53, e21_54, e21_57, e21_60, e21_61, e21_64, e21_65, e21_68, e21_71, e21_72, e21_73, e21_76, e21_79, e21_80, e21_83, e21_84, e21_87, e21_87z, e21_88, e21_90, e21_93, e21_94, e21_94i, e21_95, e21_98, e21_99, e21_100, e21_103, e21_104, e21_105, e21_108, e21_111, e21_112, e21_115, e21_116, e21_119, e21_119z, e21_120, e21_123, e21_126, e21_127, e21_130, e21_133, e21_134, e21_137, e21_138, e21_141, e21_141z, e21_142, e21_145, e21_148, e21_149, e21_152, e21_155, e21_156, e21_157, e21_160, am_bd_some, Option.toList_some, Option.toList_none, List.cons_append, List.nil_append, am_w8_0, am_w8_1, am_w8_2, am_w8_3, am_w8_4, eq_self, or_true, true_or, am_kd_sI, am_kd_sL, am_kd_sR, am_tc_sI, am_tc_sL, am_tc_sR, am_len_sI, am_len_sL, am_len_sR, am_rfs, if_true, if_false, am_rdL_sI, am_rR_sL, am_rt_cq, am_kd_cq, am_tc_cq, am_len_cq, am_rd_sL, am_rd_sR, am_rdL_sR, okK_159 (ok _ _ _ _), r9, r8, r7, t_cu_s, h1, okT_2 (ok _ _ _ _), okL_2 (ok _ _ _ _), xi, z, i3, c1', not_true, nI_1, t_cu_a, t_cu_k]
    · cases cl : t_le (t s) with
      | true =>
        have eE : t_E t L s = t_wh t_le t (L - s) s := by unfold t_E; rw [if_pos c0, if_pos cl]
        have e1 : t_at t L s = t_wh t_le t (L - s) s := by unfold t_at; rw [if_pos c0, if_neg c1, if_pos cl, eE]
        have e2 : t_C t L s = 1 := by unfold t_C; rw [if_pos c0, if_neg c1, if_pos cl]
        have e3 : t_cV t L s (h.1 159 12) = h.1 159 12 := if_neg (fun w => by rw [cl] at w; exact absurd w.2.1 (by decide))
        rw [e1, e2, e3]
        simp only [e21_0, e21_1, e21_4, e21_5, e21_8, e21_11, e21_12, e21_15, e21_16, e21_19, e21_19z, e21_20, e21_22, e21_25, e21_26, e21_29, e21_30, e21_33, e21_33z, e21_34, e21_36, e21_39, e21_40, e21_40i, e21_41, e21_44, e21_45, e21_46, e21_49, e21_53, e21_54, e21_57, e21_60, e21_61, e21_64, e21_65, e21_68, e21_71, e21_72, e21_73, e21_76, e21_79, e21_80, e21_83, e21_84, e21_87, e21_87z, e21_88, e21_90, e21_93, e21_94, e21_94i, e21_95, e21_98, e21_99, e21_100, e21_103, e21_104, e21_105, e21_108, e21_111, e21_112, e21_115, e21_116, e21_119, e21_119z, e21_120, e21_123, e21_126, e21_127, e21_130, e21_133, e21_134, e21_137, e21_138, e21_141, e21_141z, e21_142, e21_145, e21_148, e21_149, e21_152, e21_155, e21_156, e21_157, e21_160, am_bd_some, Option.toList_some, Option.toList_none, List.cons_append, List.nil_append, am_w8_0, am_w8_1, am_w8_2, am_w8_3, am_w8_4, eq_self, or_true, true_or, am_kd_sI, am_kd_sL, am_kd_sR, am_tc_sI, am_tc_sL, am_tc_sR, am_len_sI, am_len_sL, am_len_sR, am_rfs, if_true, if_false, am_rdL_sI, am_rR_sL, am_rt_cq, am_kd_cq, am_tc_cq, am_len_cq, am_rd_sL, am_rd_sR, am_rdL_sR, okK_159 (ok _ _ _ _), r9, r8, r7, t_cu_s, h1, okT_2 (ok _ _ _ _), okL_2 (ok _ _ _ _), xi, z, i3, c1, not_false_eq_true, den_isLetter, eb, cl, b1, y, den_readWord h t L x s hs]
      | false =>
        have cl' : ¬ t_le (t s) = true := by rw [cl]; decide
        cases cd : t_di (t s) with
        | true =>
          have eE : t_E t L s = t_wh t_di t (L - s) s := by unfold t_E; rw [if_pos c0, if_neg cl', if_pos cd]
          have e1 : t_at t L s = t_wh t_di t (L - s) s := by unfold t_at; rw [if_pos c0, if_neg c1, if_neg cl', if_pos cd, eE]
          have e2 : t_C t L s = if t_wh t_di t (L - s) s - s ≤ 2 then 2 else 4 := by unfold t_C; rw [if_pos c0, if_neg c1, if_neg cl', if_pos cd, eE]
          have e3 : t_cV t L s (h.1 159 12) = nI (t_nc t (t_wh t_di t (L - s) s - s) s 0) := by rw [← eE]; exact if_pos ⟨c0, cl, cd⟩
          rw [e1, e2, e3]
          simp only [e21_0, e21_1, e21_4, e21_5, e21_8, e21_11, e21_12, e21_15, e21_16, e21_19, e21_19z, e21_20, e21_22, e21_25, e21_26, e21_29, e21_30, e21_33, e21_33z, e21_34, e21_36, e21_39, e21_40, e21_40i, e21_41, e21_44, e21_45, e21_46, e21_49, e21_53, e21_54, e21_57, e21_60, e21_61, e21_64, e21_65, e21_68, e21_71, e21_72, e21_73, e21_76, e21_79, e21_80, e21_83, e21_84, e21_87, e21_87z, e21_88, e21_90, e21_93, e21_94, e21_94i, e21_95, e21_98, e21_99, e21_100, e21_103, e21_104, e21_105, e21_108, e21_111, e21_112, e21_115, e21_116, e21_119, e21_119z, e21_120, e21_123, e21_126, e21_127, e21_130, e21_133, e21_134, e21_137, e21_138, e21_141, e21_141z, e21_142, e21_145, e21_148, e21_149, e21_152, e21_155, e21_156, e21_157, e21_160, am_bd_some, Option.toList_some, Option.toList_none, List.cons_append, List.nil_append, am_w8_0, am_w8_1, am_w8_2, am_w8_3, am_w8_4, eq_self, or_true, true_or, am_kd_sI, am_kd_sL, am_kd_sR, am_tc_sI, am_tc_sL, am_tc_sR, am_len_sI, am_len_sL, am_len_sR, am_rfs, if_true, if_false, am_rdL_sI, am_rR_sL, am_rt_cq, am_kd_cq, am_tc_cq, am_len_cq, am_rd_sL, am_rd_sR, am_rdL_sR, okK_159 (ok _ _ _ _), r9, r8, r7, t_cu_s, h1, okT_2 (ok _ _ _ _), okL_2 (ok _ _ _ _), xi, z, i3, c1, not_false_eq_true, den_isLetter, den_isDigit, eb, cl, cd, b1, b0, y, den_readNumber h t L x s hs]
        | false =>
          have cd' : ¬ t_di (t s) = true := by rw [cd]; decide
          have e1 : t_at t L s = s := by unfold t_at; rw [if_pos c0, if_neg c1, if_neg cl', if_neg cd']
          have e2 : t_C t L s = 4 := by unfold t_C; rw [if_pos c0, if_neg c1, if_neg cl', if_neg cd']
          have e3 : t_cV t L s (h.1 159 12) = h.1 159 12 := if_neg (fun w => cd' w.2.2)
          rw [e1, e2, e3]
          simp only [e21_0, e21_1, e21_4, e21_5, e21_8, e21_11, e21_12, e21_15, e21_16, e21_19, e21_19z, e21_20, e21_22, e21_25, e21_26, e21_29, e21_30, e21_33, e21_33z, e21_34, e21_36, e21_39, e21_40, e21_40i, e21_41, e21_44, e21_45, e21_46, e21_49, e21_53, e21_54, e21_57, e21_60, e21_61, e21_64, e21_65, e21_68, e21_71, e21_72, e21_73, e21_76, e21_79, e21_80, e21_83, e21_84, e21_87, e21_87z, e21_88, e21_90, e21_93, e21_94, e21_94i, e21_95, e21_98, e21_99, e21_100, e21_103, e21_104, e21_105, e21_108, e21_111, e21_112, e21_115, e21_116, e21_119, e21_119z, e21_120, e21_123, e21_126, e21_127, e21_130, e21_133, e21_134, e21_137, e21_138, e21_141, e21_141z, e21_142, e21_145, e21_148, e21_149, e21_152, e21_155, e21_156, e21_157, e21_160, am_bd_some, Option.toList_some, Option.toList_none, List.cons_append, List.nil_append, am_w8_0, am_w8_1, am_w8_2, am_w8_3, am_w8_4, eq_self, or_true, true_or, am_kd_sI, am_kd_sL, am_kd_sR, am_tc_sI, am_tc_sL, am_tc_sR, am_len_sI, am_len_sL, am_len_sR, am_rfs, if_true, if_false, am_rdL_sI, am_rR_sL, am_rt_cq, am_kd_cq, am_tc_cq, am_len_cq, am_rd_sL, am_rd_sR, am_rdL_sR, okK_159 (ok _ _ _ _), r9, r8, r7, t_cu_s, h1, okT_2 (ok _ _ _ _), okL_2 (ok _ _ _ _), xi, z, i3, c1, not_false_eq_true, den_isLetter, den_isDigit, eb, cl, cd, b0, t_cu_k]
  · obtain rfl : s = L := by omega
    have h1 : ¬ nI s < nI s := Int32.not_lt.mpr (Int32.le_refl _)
    have e1 : t_at t s s = s := if_neg c0
    have e2 : t_C t s s = 0 := if_neg c0
    have e3 : t_cV t s s (h.1 159 12) = h.1 159 12 := if_neg (fun w => c0 w.1)
    rw [e1, e2, e3, e21_52]
    simp only [e21_0, e21_1, e21_4, e21_5, e21_8, e21_11, e21_12, e21_15, e21_16, e21_19, e21_19z, e21_20, e21_22, e21_25, e21_26, e21_29, e21_30, e21_33, e21_33z, e21_34, e21_36, e21_39, e21_40, e21_40i, e21_41, e21_44, e21_45, e21_46, e21_49, e21_53, e21_54, e21_57, e21_60, e21_61, e21_64, e21_65, e21_68, e21_71, e21_72, e21_73, e21_76, e21_79, e21_80, e21_83, e21_84, e21_87, e21_87z, e21_88, e21_90, e21_93, e21_94, e21_94i, e21_95, e21_98, e21_99, e21_100, e21_103, e21_104, e21_105, e21_108, e21_111, e21_112, e21_115, e21_116, e21_119, e21_119z, e21_120, e21_123, e21_126, e21_127, e21_130, e21_133, e21_134, e21_137, e21_138, e21_141, e21_141z, e21_142, e21_145, e21_148, e21_149, e21_152, e21_155, e21_156, e21_157, e21_160, am_bd_some, Option.toList_some, Option.toList_none, List.cons_append, List.nil_append, am_w8_0, am_w8_1, am_w8_2, am_w8_3, am_w8_4, eq_self, or_true, true_or, am_kd_sI, am_kd_sL, am_kd_sR, am_tc_sI, am_tc_sL, am_tc_sR, am_len_sI, am_len_sL, am_len_sR, am_rfs, if_true, if_false, am_rdL_sI, am_rR_sL, am_rt_cq, am_kd_cq, am_tc_cq, am_len_cq, am_rd_sL, am_rd_sR, am_rdL_sR, okK_159 (ok _ _ _ _), r9, r8, t_cu_s, h1, t_cu_k]
