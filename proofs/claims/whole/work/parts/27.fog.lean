/-! part 27: fog -/
theorem q_l10 (a : Nat) : lN a * 10 = lN (a * 10) := lN_mul a 10
theorem q_10l (a : Nat) : 10 * lN a = lN (10 * a) := lN_mul 10 a
theorem q_mxa {w i : Nat} (hw : w < 2 ^ 30) (hi : i < 2 ^ 30) : (if (0 : Int32) < nI w - nI i then nI w - nI i else 0) = nI (w - i) := by
  have e := pk_sub_toInt hw hi
  by_cases c : i < w
  · rw [if_pos (Int32.lt_iff_toInt_lt.mpr (by rw [e]; show (0 : Int) < _; omega)), pk_sub (by omega)]
  · rw [if_neg (fun q => by have := Int32.lt_iff_toInt_lt.mp q; rw [e] at this; have : (0 : Int) < _ := this; omega), show w - i = 0 by omega, nI_0]
theorem q_mxb {w i : Nat} (hw : w < 2 ^ 30) (hi : i < 2 ^ 30) : (if (0 : Int32) ≤ nI w - nI i then nI w - nI i else 0) = nI (w - i) := by
  have e := pk_sub_toInt hw hi
  by_cases c : i ≤ w
  · rw [if_pos (Int32.le_iff_toInt_le.mpr (by rw [e]; show (0 : Int) ≤ _; omega)), pk_sub (by omega)]
  · rw [if_neg (fun q => by have := Int32.le_iff_toInt_le.mp q; rw [e] at this; have : (0 : Int) ≤ _ := this; omega), show w - i = 0 by omega, nI_0]
theorem q_pw (x n : Nat) (h : am_H) (hn : n < 100) : ∀ r k : Nat, k + r = n → am_ev 272 5 [some (.long (lN x)), some (.retAddr 0), some (.int (nI n)), some (.long (lN (x ^ k))), some (.retAddr 0), some (.int (nI k))] [] h = some (some (.long (lN (x ^ n))), h) := by
  intro r
  induction r with
  | zero =>
    intro k hk
    obtain rfl : k = n := by omega
    have h1 : nI k ≤ nI k := Int32.le_refl _
    rw [e272_5]
    simp only [e272_0, e272_1, e272_2, e272_3, e272_7, e272_8, e272_11, e272_12, e272_13, e272_14, e272_15, e272_18, e272_21, e272_22, h1, if_true]
  | succ r ih =>
    intro k hk
    have h1 : ¬ nI n ≤ nI k := nI_ge (by omega) (by omega)
    have e2 : lN (x ^ k) * lN x = lN (x ^ (k + 1)) := by rw [lN_mul, Nat.pow_succ]
    rw [e272_5]
    simp only [e272_0, e272_1, e272_2, e272_3, e272_7, e272_8, e272_11, e272_12, e272_13, e272_14, e272_15, e272_18, e272_21, e272_22, h1, if_false, e2, nI_1]
    exact ih (k + 1) (by omega)
theorem den_power (x n : Nat) (h : am_H) (hn : n < 100) : am_den 272 [.long (lN x), .int (nI n)] h = some (some (.long (lN (x ^ n))), h) := by
  show am_ev 272 0 [some (.long (lN x)), some (.retAddr 0), some (.int (nI n)), none, none, none] [] h = _
  simp only [e272_0, e272_1, e272_2, e272_3, e272_7, e272_8, e272_11, e272_12, e272_13, e272_14, e272_15, e272_18, e272_21, e272_22]
  have := q_pw x n h hn n 0 (by omega)
  rw [Nat.pow_zero] at this
  exact this
def q_W (w p : Nat) : Nat → Nat
  | 0 => 0
  | k + 1 => q_W w p k * 10 + p ^ k * (10 - p) * (w - k)
theorem q_W_le (w p : Nat) (hw : w ≤ 20) (hp : p ≤ 10) : ∀ k, q_W w p k ≤ k * 20 * 10 ^ k := by
  intro k
  induction k with
  | zero => exact Nat.zero_le _
  | succ k ih =>
    have h1 : p ^ k ≤ 10 ^ k := Nat.pow_le_pow_left hp k
    have h2 : p ^ k * (10 - p) ≤ 10 ^ k * 10 := Nat.mul_le_mul h1 (by omega)
    have h3 : p ^ k * (10 - p) * (w - k) ≤ 10 ^ k * 10 * 20 := Nat.mul_le_mul h2 (by omega)
    have h4 : q_W w p k * 10 ≤ k * 20 * 10 ^ k * 10 := Nat.mul_le_mul_right _ ih
    show q_W w p k * 10 + p ^ k * (10 - p) * (w - k) ≤ _
    have e1 : (k + 1) * 20 * 10 ^ (k + 1) = k * 20 * 10 ^ k * 10 + 10 ^ k * 10 * 20 := by
      rw [Nat.pow_succ, Nat.add_mul, Nat.add_mul, Nat.one_mul, ← Nat.mul_assoc, ← Nat.mul_assoc]
      congr 1
      rw [Nat.mul_assoc, Nat.mul_comm]
    omega
theorem q_W_b (w p k : Nat) (hw : w ≤ 20) (hp : p ≤ 10) (hk : k ≤ 9) : q_W w p k < 2 ^ 45 := by
  have h1 := q_W_le w p hw hp k
  have h2 : 10 ^ k ≤ 10 ^ 9 := Nat.pow_le_pow_right (by decide) hk
  have h3 : k * 20 * 10 ^ k ≤ 9 * 20 * 10 ^ 9 := Nat.mul_le_mul (by omega) h2
  have h4 : 9 * 20 * 10 ^ 9 < 2 ^ 45 := by decide
  omega
theorem q_W_c (w p n : Nat) (wh : Int32) (o : Nat) (h : am_H) (hw : w ≤ 20) (hp : p ≤ 10) (hn : n ≤ 9) : ∀ r k : Nat, k + r = n → am_ev 162 70 [some (.ref o), some (.int (nI w)), some (.int (nI p)), some (.int (nI n)), some (.int wh), some (.long (lN (q_W w p k))), some (.retAddr 0), some (.long (lN (p ^ k))), some (.retAddr 0), some (.long (lN (10 ^ k))), some (.retAddr 0), some (.int (nI k))] [] h = am_ev 162 124 [some (.ref o), some (.int (nI w)), some (.int (nI p)), some (.int (nI n)), some (.int wh), some (.long (lN (q_W w p n))), some (.retAddr 0), some (.long (lN (p ^ n))), some (.retAddr 0), some (.long (lN (10 ^ n))), some (.retAddr 0), some (.int (nI n))] [] h := by
  intro r
  induction r with
  | zero =>
    intro k hk
    obtain rfl : k = n := by omega
    have h1 : nI k ≤ nI k := Int32.le_refl _
    rw [e162_70]
    simp only [e162_0, e162_1, e162_4, e162_5, e162_7, e162_10, e162_11, e162_14, e162_15, e162_17, e162_20, e162_21, e162_22, e162_25, e162_26, e162_28, e162_31, e162_33, e162_36, e162_38, e162_39, e162_42, e162_45, e162_46, e162_48, e162_49, e162_52, e162_53, e162_56, e162_57, e162_58, e162_59, e162_61, e162_62, e162_64, e162_65, e162_67, e162_68, e162_72, e162_73, e162_76, e162_78, e162_81, e162_82, e162_84, e162_86, e162_87, e162_88, e162_89, e162_90, e162_91, e162_92, e162_94, e162_95, e162_98, e162_99, e162_100, e162_101, e162_103, e162_105, e162_106, e162_107, e162_108, e162_110, e162_112, e162_115, e162_116, e162_118, e162_121, e162_126, e162_128, e162_130, e162_131, e162_134, e162_135, e162_138, e162_139, e162_142, h1, if_true]
  | succ r ih =>
    intro k hk
    have h1 : ¬ nI n ≤ nI k := nI_ge (by omega) (by omega)
    have e1 : (10 : Int32) - nI p = nI (10 - p) := pk_sub (a := 10) (by omega)
    have e2 := q_mxa (w := w) (i := k) (by omega) (by omega)
    have e3 : (nI (10 - p)).toInt64 = lN (10 - p) := nI_l (by omega)
    have e4 : (nI (w - k)).toInt64 = lN (w - k) := nI_l (by omega)
    have e5 : (nI p).toInt64 = lN p := nI_l (by omega)
    have e6 : lN (p ^ k * p) = lN (p ^ (k + 1)) := by rw [Nat.pow_succ]
    have e7 : lN (10 ^ k * 10) = lN (10 ^ (k + 1)) := by rw [Nat.pow_succ]
    rw [e162_70]
    simp only [e162_0, e162_1, e162_4, e162_5, e162_7, e162_10, e162_11, e162_14, e162_15, e162_17, e162_20, e162_21, e162_22, e162_25, e162_26, e162_28, e162_31, e162_33, e162_36, e162_38, e162_39, e162_42, e162_45, e162_46, e162_48, e162_49, e162_52, e162_53, e162_56, e162_57, e162_58, e162_59, e162_61, e162_62, e162_64, e162_65, e162_67, e162_68, e162_72, e162_73, e162_76, e162_78, e162_81, e162_82, e162_84, e162_86, e162_87, e162_88, e162_89, e162_90, e162_91, e162_92, e162_94, e162_95, e162_98, e162_99, e162_100, e162_101, e162_103, e162_105, e162_106, e162_107, e162_108, e162_110, e162_112, e162_115, e162_116, e162_118, e162_121, e162_126, e162_128, e162_130, e162_131, e162_134, e162_135, e162_138, e162_139, e162_142, h1, if_false, am_bd_some, Option.toList_some, Option.toList_none, List.cons_append, List.nil_append, am_w8_0, am_w8_1, am_w8_2, am_w8_3, am_w8_4, eq_self, or_true, true_or, am_kd_sI, am_kd_sL, am_kd_sR, am_tc_sI, am_tc_sL, am_tc_sR, am_len_sI, am_len_sL, am_len_sR, am_rfs, if_true, if_false, e1, e2, e3, e4, e5, q_l10, lN_mul, lN_add, nI_1, e6, e7]
    exact ih (k + 1) (by omega)
theorem q_W_m (w p n : Nat) (wh : Int32) (o : Nat) (h : am_H) (hw : w ≤ 20) (hp : p ≤ 10) (hn : n ≤ 9) : ∀ r k : Nat, k + r = n → am_ev 271 108 [some (.ref o), some (.int (nI w)), some (.int (nI p)), some (.int (nI n)), some (.int wh), some (.long (lN (q_W w p k * 10 ^ (n - k)))), some (.retAddr 0), some (.int (nI k))] [] h = am_ev 271 161 [some (.ref o), some (.int (nI w)), some (.int (nI p)), some (.int (nI n)), some (.int wh), some (.long (lN (q_W w p n))), some (.retAddr 0), some (.int (nI n))] [] h := by
  intro r
  induction r with
  | zero =>
    intro k hk
    obtain rfl : k = n := by omega
    have h1 : nI k ≤ nI k := Int32.le_refl _
    rw [e271_108]
    simp only [e271_0, e271_1, e271_2, e271_5, e271_6, e271_7, e271_9, e271_12, e271_15, e271_16, e271_17, e271_19, e271_22, e271_25, e271_26, e271_27, e271_29, e271_32, e271_35, e271_37, e271_38, e271_39, e271_42, e271_45, e271_48, e271_49, e271_51, e271_52, e271_55, e271_56, e271_58, e271_60, e271_62, e271_65, e271_68, e271_69, e271_70, e271_72, e271_75, e271_76, e271_79, e271_81, e271_84, e271_85, e271_88, e271_90, e271_91, e271_92, e271_95, e271_98, e271_101, e271_102, e271_103, e271_105, e271_106, e271_110, e271_111, e271_114, e271_116, e271_117, e271_118, e271_120, e271_123, e271_125, e271_126, e271_127, e271_128, e271_129, e271_130, e271_131, e271_133, e271_134, e271_137, e271_138, e271_139, e271_142, e271_143, e271_144, e271_145, e271_147, e271_148, e271_151, e271_152, e271_153, e271_155, e271_158, e271_163, e271_166, e271_167, e271_170, e271_172, e271_173, e271_176, e271_177, e271_180, e271_181, e271_184, h1, if_true, Nat.sub_self, Nat.pow_zero, Nat.mul_one]
  | succ r ih =>
    intro k hk
    have h1 : ¬ nI n ≤ nI k := nI_ge (by omega) (by omega)
    have e1 : (10 : Int32) - nI p = nI (10 - p) := pk_sub (a := 10) (by omega)
    have e2 := q_mxb (w := w) (i := k) (by omega) (by omega)
    have e3 : (nI (10 - p)).toInt64 = lN (10 - p) := nI_l (by omega)
    have e4 : (nI (w - k)).toInt64 = lN (w - k) := nI_l (by omega)
    have e5 : (nI p).toInt64 = lN p := nI_l (by omega)
    have e6 : nI n - 1 = nI (n - 1) := pk_sub (b := 1) (by omega)
    have e7 : nI (n - 1) - nI k = nI (n - 1 - k) := pk_sub (by omega)
    have e8 := den_power p k h (by omega)
    have e9 : am_den 272 [.long 10, .int (nI (n - 1 - k))] h = some (some (.long (lN (10 ^ (n - 1 - k)))), h) := den_power 10 (n - 1 - k) h (by omega)
    have e10 : q_W w p k * 10 ^ (n - k) + p ^ k * (10 - p) * (w - k) * 10 ^ (n - 1 - k) = q_W w p (k + 1) * 10 ^ (n - (k + 1)) := by
      rw [show n - k = (n - 1 - k) + 1 by omega, show n - (k + 1) = n - 1 - k by omega, Nat.pow_succ]
      show _ = (q_W w p k * 10 + p ^ k * (10 - p) * (w - k)) * 10 ^ (n - 1 - k)
      rw [Nat.add_mul, Nat.mul_comm (10 ^ (n - 1 - k)) 10, Nat.mul_assoc (q_W w p k) 10]
    rw [e271_108]
    simp only [e271_0, e271_1, e271_2, e271_5, e271_6, e271_7, e271_9, e271_12, e271_15, e271_16, e271_17, e271_19, e271_22, e271_25, e271_26, e271_27, e271_29, e271_32, e271_35, e271_37, e271_38, e271_39, e271_42, e271_45, e271_48, e271_49, e271_51, e271_52, e271_55, e271_56, e271_58, e271_60, e271_62, e271_65, e271_68, e271_69, e271_70, e271_72, e271_75, e271_76, e271_79, e271_81, e271_84, e271_85, e271_88, e271_90, e271_91, e271_92, e271_95, e271_98, e271_101, e271_102, e271_103, e271_105, e271_106, e271_110, e271_111, e271_114, e271_116, e271_117, e271_118, e271_120, e271_123, e271_125, e271_126, e271_127, e271_128, e271_129, e271_130, e271_131, e271_133, e271_134, e271_137, e271_138, e271_139, e271_142, e271_143, e271_144, e271_145, e271_147, e271_148, e271_151, e271_152, e271_153, e271_155, e271_158, e271_163, e271_166, e271_167, e271_170, e271_172, e271_173, e271_176, e271_177, e271_180, e271_181, e271_184, h1, if_false, am_bd_some, Option.toList_some, Option.toList_none, List.cons_append, List.nil_append, am_w8_0, am_w8_1, am_w8_2, am_w8_3, am_w8_4, eq_self, or_true, true_or, am_kd_sI, am_kd_sL, am_kd_sR, am_tc_sI, am_tc_sL, am_tc_sR, am_len_sI, am_len_sL, am_len_sR, am_rfs, if_true, if_false, e1, e2, e3, e4, e5, e6, e7, e8, e9, den_greater, lN_mul, lN_add, nI_1, e10]
    exact ih (k + 1) (by omega)
def q_sn (p : Nat) : Nat → Nat → Int32
  | 0, _ => -1
  | n + 1, i => if 10 * p ^ i ≤ 10 ^ i then nI i else q_sn p n (i + 1)
theorem q_sn_b {p i : Nat} (hp : p ≤ 10) (hi : i ≤ 9) : 10 * p ^ i < 2 ^ 63 ∧ 10 ^ i < 2 ^ 63 := by
  have h1 : p ^ i ≤ 10 ^ i := Nat.pow_le_pow_left hp i
  have h2 : 10 ^ i ≤ 10 ^ 9 := Nat.pow_le_pow_right (by decide) hi
  have h3 : (10 : Nat) ^ 9 = 1000000000 := by decide
  omega
theorem q_sn_c (p : Nat) (h : am_H) (hp : p ≤ 10) : ∀ n i : Nat, i + n = 9 → am_ev 163 7 [some (.int (nI p)), some (.long (lN (p ^ i))), some (.retAddr 0), some (.long (lN (10 ^ i))), some (.retAddr 0), some (.int (nI (i + 1)))] [] h = some (some (.int (q_sn p n (i + 1))), h) := by
  intro n
  induction n with
  | zero =>
    intro i hi
    obtain rfl : i = 9 := by omega
    have h1 : (9 : Int32) < nI (9 + 1) := by decide
    rw [e163_7]
    simp only [e163_0, e163_1, e163_2, e163_3, e163_4, e163_5, e163_9, e163_11, e163_14, e163_15, e163_16, e163_17, e163_18, e163_19, e163_20, e163_23, e163_24, e163_25, e163_26, e163_29, e163_30, e163_31, e163_32, e163_35, e163_37, e163_38, e163_41, e163_44, e163_45, h1, if_true, q_sn]
  | succ n ih =>
    intro i hi
    have h1 : ¬ (9 : Int32) < nI (i + 1) := fun q => by
      have := (nI_ltI (a := 9) (b := i + 1) (by decide) (by omega)).mp q
      omega
    have e5 : (nI p).toInt64 = lN p := nI_l (by omega)
    have e6 : lN (p ^ i * p) = lN (p ^ (i + 1)) := by rw [Nat.pow_succ]
    have e7 : lN (10 ^ i * 10) = lN (10 ^ (i + 1)) := by rw [Nat.pow_succ]
    obtain ⟨b1, b2⟩ := q_sn_b (i := i + 1) hp (by omega)
    have e8 := lg_gt (p ^ (i + 1) * 10) (10 ^ (i + 1)) (by omega) b2
    rw [e163_7]
    simp only [e163_0, e163_1, e163_2, e163_3, e163_4, e163_5, e163_9, e163_11, e163_14, e163_15, e163_16, e163_17, e163_18, e163_19, e163_20, e163_23, e163_24, e163_25, e163_26, e163_29, e163_30, e163_31, e163_32, e163_35, e163_37, e163_38, e163_41, e163_44, e163_45, h1, if_false, e5, lN_mul, q_l10, e6, e7, nI_1, ih (i + 1) (by omega), q_sn]
    by_cases c : 10 * p ^ (i + 1) ≤ 10 ^ (i + 1)
    · rw [if_neg (fun q => by have := e8.mp q; omega), if_pos c]
    · rw [if_pos (e8.mpr (by omega)), if_neg c]
theorem den_soon (p : Nat) (h : am_H) (hp : p ≤ 10) : am_den 163 [.int (nI p)] h = some (some (.int (q_sn p 9 1)), h) := by
  show am_ev 163 0 [some (.int (nI p)), none, none, none, none, none] [] h = _
  simp only [e163_0, e163_1, e163_2, e163_3, e163_4, e163_5, e163_9, e163_11, e163_14, e163_15, e163_16, e163_17, e163_18, e163_19, e163_20, e163_23, e163_24, e163_25, e163_26, e163_29, e163_30, e163_31, e163_32, e163_35, e163_37, e163_38, e163_41, e163_44, e163_45]
  have := q_sn_c p h hp 9 0 rfl
  rw [Nat.pow_zero, Nat.pow_zero] at this
  exact this
theorem q_sn_m (p : Nat) (w n0 wh : Int32) (o : Nat) (h : am_H) (z1 z2 : Option Value) (hp : p ≤ 10) : ∀ n i : Nat, i + n = 10 → am_ev 271 58 [some (.ref o), some (.int w), some (.int (nI p)), some (.int n0), some (.int wh), some (.int (nI i)), z1, z2] [] h = some (some (.long (q_sn p n i).toInt64), h) := by
  intro n
  induction n with
  | zero =>
    intro i hi
    obtain rfl : i = 10 := by omega
    have h1 : (9 : Int32) < nI 10 := by decide
    have e1 : (-1 : Int32).toInt64 = -1 := by decide
    rw [e271_58]
    simp only [e271_0, e271_1, e271_2, e271_5, e271_6, e271_7, e271_9, e271_12, e271_15, e271_16, e271_17, e271_19, e271_22, e271_25, e271_26, e271_27, e271_29, e271_32, e271_35, e271_37, e271_38, e271_39, e271_42, e271_45, e271_48, e271_49, e271_51, e271_52, e271_55, e271_56, e271_60, e271_62, e271_65, e271_68, e271_69, e271_70, e271_72, e271_75, e271_76, e271_79, e271_81, e271_84, e271_85, e271_88, e271_90, e271_91, e271_92, e271_95, e271_98, e271_101, e271_102, e271_103, e271_105, e271_106, e271_108, e271_110, e271_111, e271_114, e271_116, e271_117, e271_118, e271_120, e271_123, e271_125, e271_126, e271_127, e271_128, e271_129, e271_130, e271_131, e271_133, e271_134, e271_137, e271_138, e271_139, e271_142, e271_143, e271_144, e271_145, e271_147, e271_148, e271_151, e271_152, e271_153, e271_155, e271_158, e271_161, e271_163, e271_166, e271_167, e271_170, e271_172, e271_173, e271_176, e271_177, e271_180, e271_181, e271_184, h1, if_true, q_sn, e1]
  | succ n ih =>
    intro i hi
    have h1 : ¬ (9 : Int32) < nI i := fun q => by
      have := (nI_ltI (a := 9) (b := i) (by decide) (by omega)).mp q
      omega
    have e5 : (nI p).toInt64 = lN p := nI_l (by omega)
    have e8 := den_power p i h (by omega)
    have e9 : am_den 272 [.long 10, .int (nI i)] h = some (some (.long (lN (10 ^ i))), h) := den_power 10 i h (by omega)
    obtain ⟨b1, b2⟩ := q_sn_b (i := i) hp (by omega)
    have e10 := lg_gt (10 * p ^ i) (10 ^ i) b1 b2
    rw [e271_58]
    simp only [e271_0, e271_1, e271_2, e271_5, e271_6, e271_7, e271_9, e271_12, e271_15, e271_16, e271_17, e271_19, e271_22, e271_25, e271_26, e271_27, e271_29, e271_32, e271_35, e271_37, e271_38, e271_39, e271_42, e271_45, e271_48, e271_49, e271_51, e271_52, e271_55, e271_56, e271_60, e271_62, e271_65, e271_68, e271_69, e271_70, e271_72, e271_75, e271_76, e271_79, e271_81, e271_84, e271_85, e271_88, e271_90, e271_91, e271_92, e271_95, e271_98, e271_101, e271_102, e271_103, e271_105, e271_106, e271_108, e271_110, e271_111, e271_114, e271_116, e271_117, e271_118, e271_120, e271_123, e271_125, e271_126, e271_127, e271_128, e271_129, e271_130, e271_131, e271_133, e271_134, e271_137, e271_138, e271_139, e271_142, e271_143, e271_144, e271_145, e271_147, e271_148, e271_151, e271_152, e271_153, e271_155, e271_158, e271_161, e271_163, e271_166, e271_167, e271_170, e271_172, e271_173, e271_176, e271_177, e271_180, e271_181, e271_184, h1, if_false, am_bd_some, Option.toList_some, Option.toList_none, List.cons_append, List.nil_append, am_w8_0, am_w8_1, am_w8_2, am_w8_3, am_w8_4, eq_self, or_true, true_or, am_kd_sI, am_kd_sL, am_kd_sR, am_tc_sI, am_tc_sL, am_tc_sR, am_len_sI, am_len_sL, am_len_sR, am_rfs, if_true, if_false, e5, e8, e9, q_10l, nI_1, ih (i + 1) (by omega), q_sn]
    by_cases c : 10 * p ^ i ≤ 10 ^ i
    · rw [if_neg (fun q => by have := e10.mp q; omega), if_pos c]
    · rw [if_pos (e10.mpr (by omega)), if_neg c]
def q_fog (w p n wh : Int32) : Int64 := if (0 ≤ w ∧ w ≤ 20) ∧ (0 ≤ p ∧ p ≤ 10) ∧ (1 ≤ n ∧ n ≤ 9) ∧ (0 ≤ wh ∧ wh ≤ 2) then (if wh = 2 then (q_sn p.toNatClampNeg 9 1).toInt64 else q_lt (q_W w.toNatClampNeg p.toNatClampNeg n.toNatClampNeg) (10 ^ n.toNatClampNeg) (Nat.gcd (q_W w.toNatClampNeg p.toNatClampNeg n.toNatClampNeg) (10 ^ n.toNatClampNeg)) (if wh = 1 then 1 else 0)) else -1
theorem q_p10 {n : Nat} (hn : n ≤ 9) : 1 ≤ 10 ^ n ∧ 10 ^ n < 2 ^ 45 := by
  have h2 : 10 ^ n ≤ 10 ^ 9 := Nat.pow_le_pow_right (by decide) hn
  have h3 : (10 : Nat) ^ 9 = 1000000000 := by decide
  exact ⟨Nat.pos_of_ne_zero (fun e => by have := Nat.pow_pos (a := 10) (n := n) (by decide); omega), by omega⟩
theorem q_rg {x : Int32} (m : Nat) {M : Int32} (hM : M.toInt = m) (h : 0 ≤ x ∧ x ≤ M) : ∃ j : Nat, j ≤ m ∧ x = nI j := nI_of2 hM (Int32.not_lt.mpr h.1) h.2
theorem q_fog_tc (w p n : Nat) (wh : Int32) (o : Nat) (h : am_H) (hw : w ≤ 20) (hp : p ≤ 10) (hn : n ≤ 9) (h2 : ¬ wh = 2) : am_ev 162 46 [some (.ref o), some (.int (nI w)), some (.int (nI p)), some (.int (nI n)), some (.int wh), none, none, none, none, none, none, none] [] h = some (some (.long (q_lt (q_W w p n) (10 ^ n) (Nat.gcd (q_W w p n) (10 ^ n)) (if wh = 1 then 1 else 0))), h) := by
  have e1 := q_W_c w p n wh o h hw hp hn n 0 (by omega)
  rw [Nat.pow_zero, Nat.pow_zero] at e1
  obtain ⟨p1, p2⟩ := q_p10 hn
  have e2 := den_least (q_W w p n) (10 ^ n) (if wh = 1 then 1 else 0) h (q_W_b w p n hw hp hn) p1 p2
  have e3 : am_ev 162 46 [some (.ref o), some (.int (nI w)), some (.int (nI p)), some (.int (nI n)), some (.int wh), none, none, none, none, none, none, none] [] h = am_ev 162 70 [some (.ref o), some (.int (nI w)), some (.int (nI p)), some (.int (nI n)), some (.int wh), some (.long (lN (q_W w p 0))), some (.retAddr 0), some (.long (lN 1)), some (.retAddr 0), some (.long (lN 1)), some (.retAddr 0), some (.int (nI 0))] [] h := by
    simp only [e162_0, e162_1, e162_4, e162_5, e162_7, e162_10, e162_11, e162_14, e162_15, e162_17, e162_20, e162_21, e162_22, e162_25, e162_26, e162_28, e162_31, e162_33, e162_36, e162_38, e162_39, e162_42, e162_45, e162_46, e162_48, e162_49, e162_52, e162_53, e162_56, e162_57, e162_58, e162_59, e162_61, e162_62, e162_64, e162_65, e162_67, e162_68, e162_72, e162_73, e162_76, e162_78, e162_81, e162_82, e162_84, e162_86, e162_87, e162_88, e162_89, e162_90, e162_91, e162_92, e162_94, e162_95, e162_98, e162_99, e162_100, e162_101, e162_103, e162_105, e162_106, e162_107, e162_108, e162_110, e162_112, e162_115, e162_116, e162_118, e162_121, e162_124, e162_126, e162_128, e162_130, e162_131, e162_134, e162_135, e162_138, e162_139, e162_142, h2, if_true, not_false_eq_true]
    rfl
  rw [e3, e1]
  by_cases c : wh = 1
  · rw [if_pos c] at e2 ⊢
    simp only [e162_0, e162_1, e162_4, e162_5, e162_7, e162_10, e162_11, e162_14, e162_15, e162_17, e162_20, e162_21, e162_22, e162_25, e162_26, e162_28, e162_31, e162_33, e162_36, e162_38, e162_39, e162_42, e162_45, e162_46, e162_48, e162_49, e162_52, e162_53, e162_56, e162_57, e162_58, e162_59, e162_61, e162_62, e162_64, e162_65, e162_67, e162_68, e162_72, e162_73, e162_76, e162_78, e162_81, e162_82, e162_84, e162_86, e162_87, e162_88, e162_89, e162_90, e162_91, e162_92, e162_94, e162_95, e162_98, e162_99, e162_100, e162_101, e162_103, e162_105, e162_106, e162_107, e162_108, e162_110, e162_112, e162_115, e162_116, e162_118, e162_121, e162_124, e162_126, e162_128, e162_130, e162_131, e162_134, e162_135, e162_138, e162_139, e162_142, c, am_bd_some, Option.toList_some, Option.toList_none, List.cons_append, List.nil_append, am_w8_0, am_w8_1, am_w8_2, am_w8_3, am_w8_4, eq_self, or_true, true_or, am_kd_sI, am_kd_sL, am_kd_sR, am_tc_sI, am_tc_sL, am_tc_sR, am_len_sI, am_len_sL, am_len_sR, am_rfs, if_true, if_false, e2, not_true, if_false]
  · rw [if_neg c] at e2 ⊢
    simp only [e162_0, e162_1, e162_4, e162_5, e162_7, e162_10, e162_11, e162_14, e162_15, e162_17, e162_20, e162_21, e162_22, e162_25, e162_26, e162_28, e162_31, e162_33, e162_36, e162_38, e162_39, e162_42, e162_45, e162_46, e162_48, e162_49, e162_52, e162_53, e162_56, e162_57, e162_58, e162_59, e162_61, e162_62, e162_64, e162_65, e162_67, e162_68, e162_72, e162_73, e162_76, e162_78, e162_81, e162_82, e162_84, e162_86, e162_87, e162_88, e162_89, e162_90, e162_91, e162_92, e162_94, e162_95, e162_98, e162_99, e162_100, e162_101, e162_103, e162_105, e162_106, e162_107, e162_108, e162_110, e162_112, e162_115, e162_116, e162_118, e162_121, e162_124, e162_126, e162_128, e162_130, e162_131, e162_134, e162_135, e162_138, e162_139, e162_142, c, am_bd_some, Option.toList_some, Option.toList_none, List.cons_append, List.nil_append, am_w8_0, am_w8_1, am_w8_2, am_w8_3, am_w8_4, eq_self, or_true, true_or, am_kd_sI, am_kd_sL, am_kd_sR, am_tc_sI, am_tc_sL, am_tc_sR, am_len_sI, am_len_sL, am_len_sR, am_rfs, if_true, if_false, e2, not_false_eq_true]
theorem q_fog_tm (w p n : Nat) (wh : Int32) (o : Nat) (h : am_H) (hw : w ≤ 20) (hp : p ≤ 10) (hn : n ≤ 9) (h2 : ¬ wh = 2) : am_ev 271 49 [some (.ref o), some (.int (nI w)), some (.int (nI p)), some (.int (nI n)), some (.int wh), none, none, none] [] h = some (some (.long (q_lt (q_W w p n) (10 ^ n) (Nat.gcd (q_W w p n) (10 ^ n)) (if wh = 1 then 1 else 0))), h) := by
  have e1 := q_W_m w p n wh o h hw hp hn n 0 (by omega)
  rw [show q_W w p 0 * 10 ^ (n - 0) = 0 from Nat.zero_mul _] at e1
  obtain ⟨p1, p2⟩ := q_p10 hn
  have e2 := den_part (q_W w p n) (10 ^ n) (if wh = 1 then 1 else 0) h (q_W_b w p n hw hp hn) p1 p2
  have e9 : am_den 272 [.long 10, .int (nI n)] h = some (some (.long (lN (10 ^ n))), h) := den_power 10 n h (by omega)
  have e3 : am_ev 271 49 [some (.ref o), some (.int (nI w)), some (.int (nI p)), some (.int (nI n)), some (.int wh), none, none, none] [] h = am_ev 271 108 [some (.ref o), some (.int (nI w)), some (.int (nI p)), some (.int (nI n)), some (.int wh), some (.long (lN 0)), some (.retAddr 0), some (.int (nI 0))] [] h := by
    simp only [e271_0, e271_1, e271_2, e271_5, e271_6, e271_7, e271_9, e271_12, e271_15, e271_16, e271_17, e271_19, e271_22, e271_25, e271_26, e271_27, e271_29, e271_32, e271_35, e271_37, e271_38, e271_39, e271_42, e271_45, e271_48, e271_49, e271_51, e271_52, e271_55, e271_56, e271_60, e271_62, e271_65, e271_68, e271_69, e271_70, e271_72, e271_75, e271_76, e271_79, e271_81, e271_84, e271_85, e271_88, e271_90, e271_91, e271_92, e271_95, e271_98, e271_101, e271_102, e271_103, e271_105, e271_106, e271_110, e271_111, e271_114, e271_116, e271_117, e271_118, e271_120, e271_123, e271_125, e271_126, e271_127, e271_128, e271_129, e271_130, e271_131, e271_133, e271_134, e271_137, e271_138, e271_139, e271_142, e271_143, e271_144, e271_145, e271_147, e271_148, e271_151, e271_152, e271_153, e271_155, e271_158, e271_161, e271_163, e271_166, e271_167, e271_170, e271_172, e271_173, e271_176, e271_177, e271_180, e271_181, e271_184, h2, if_true, not_false_eq_true]
    rfl
  rw [e3, e1]
  by_cases c : wh = 1
  · rw [if_pos c] at e2 ⊢
    simp only [e271_0, e271_1, e271_2, e271_5, e271_6, e271_7, e271_9, e271_12, e271_15, e271_16, e271_17, e271_19, e271_22, e271_25, e271_26, e271_27, e271_29, e271_32, e271_35, e271_37, e271_38, e271_39, e271_42, e271_45, e271_48, e271_49, e271_51, e271_52, e271_55, e271_56, e271_60, e271_62, e271_65, e271_68, e271_69, e271_70, e271_72, e271_75, e271_76, e271_79, e271_81, e271_84, e271_85, e271_88, e271_90, e271_91, e271_92, e271_95, e271_98, e271_101, e271_102, e271_103, e271_105, e271_106, e271_110, e271_111, e271_114, e271_116, e271_117, e271_118, e271_120, e271_123, e271_125, e271_126, e271_127, e271_128, e271_129, e271_130, e271_131, e271_133, e271_134, e271_137, e271_138, e271_139, e271_142, e271_143, e271_144, e271_145, e271_147, e271_148, e271_151, e271_152, e271_153, e271_155, e271_158, e271_161, e271_163, e271_166, e271_167, e271_170, e271_172, e271_173, e271_176, e271_177, e271_180, e271_181, e271_184, c, am_bd_some, Option.toList_some, Option.toList_none, List.cons_append, List.nil_append, am_w8_0, am_w8_1, am_w8_2, am_w8_3, am_w8_4, eq_self, or_true, true_or, am_kd_sI, am_kd_sL, am_kd_sR, am_tc_sI, am_tc_sL, am_tc_sR, am_len_sI, am_len_sL, am_len_sR, am_rfs, if_true, if_false, e9, e2, not_true, if_false]
  · rw [if_neg c] at e2 ⊢
    simp only [e271_0, e271_1, e271_2, e271_5, e271_6, e271_7, e271_9, e271_12, e271_15, e271_16, e271_17, e271_19, e271_22, e271_25, e271_26, e271_27, e271_29, e271_32, e271_35, e271_37, e271_38, e271_39, e271_42, e271_45, e271_48, e271_49, e271_51, e271_52, e271_55, e271_56, e271_60, e271_62, e271_65, e271_68, e271_69, e271_70, e271_72, e271_75, e271_76, e271_79, e271_81, e271_84, e271_85, e271_88, e271_90, e271_91, e271_92, e271_95, e271_98, e271_101, e271_102, e271_103, e271_105, e271_106, e271_110, e271_111, e271_114, e271_116, e271_117, e271_118, e271_120, e271_123, e271_125, e271_126, e271_127, e271_128, e271_129, e271_130, e271_131, e271_133, e271_134, e271_137, e271_138, e271_139, e271_142, e271_143, e271_144, e271_145, e271_147, e271_148, e271_151, e271_152, e271_153, e271_155, e271_158, e271_161, e271_163, e271_166, e271_167, e271_170, e271_172, e271_173, e271_176, e271_177, e271_180, e271_181, e271_184, c, am_bd_some, Option.toList_some, Option.toList_none, List.cons_append, List.nil_append, am_w8_0, am_w8_1, am_w8_2, am_w8_3, am_w8_4, eq_self, or_true, true_or, am_kd_sI, am_kd_sL, am_kd_sR, am_tc_sI, am_tc_sL, am_tc_sR, am_len_sI, am_len_sL, am_len_sR, am_rfs, if_true, if_false, e9, e2, not_false_eq_true]
theorem den_mfog (w p n wh : Int32) (h : am_H) (ok : am_okH h) (h0 : h.1 211 0 = 0) : am_den 271 [.ref 211, .int w, .int p, .int n, .int wh] h = some (some (.long (q_fog w p n wh)), h) := by
  show am_ev 271 0 [some (.ref 211), some (.int w), some (.int p), some (.int n), some (.int wh), none, none, none] [] h = _
  simp only [e271_0, e271_1, e271_2, e271_5, e271_6, e271_7, e271_9, e271_12, e271_15, e271_16, e271_17, e271_19, e271_22, e271_25, e271_26, e271_27, e271_29, e271_32, e271_35, e271_37, e271_38, e271_39, e271_42, e271_45, e271_48, e271_51, e271_52, e271_55, e271_56, e271_60, e271_62, e271_65, e271_68, e271_69, e271_70, e271_72, e271_75, e271_76, e271_79, e271_81, e271_84, e271_85, e271_88, e271_90, e271_91, e271_92, e271_95, e271_98, e271_101, e271_102, e271_103, e271_105, e271_106, e271_110, e271_111, e271_114, e271_116, e271_117, e271_118, e271_120, e271_123, e271_125, e271_126, e271_127, e271_128, e271_129, e271_130, e271_131, e271_133, e271_134, e271_137, e271_138, e271_139, e271_142, e271_143, e271_144, e271_145, e271_147, e271_148, e271_151, e271_152, e271_153, e271_155, e271_158, e271_161, e271_163, e271_166, e271_167, e271_170, e271_172, e271_173, e271_176, e271_177, e271_180, e271_181, e271_184, am_bd_some, Option.toList_some, Option.toList_none, List.cons_append, List.nil_append, am_w8_0, am_w8_1, am_w8_2, am_w8_3, am_w8_4, eq_self, or_true, true_or, am_kd_sI, am_kd_sL, am_kd_sR, am_tc_sI, am_tc_sL, am_tc_sR, am_len_sI, am_len_sL, am_len_sR, am_rfs, if_true, if_false, okK_211 ok, am_sI_id h0, den_in, q_fog]
  by_cases c1 : 0 ≤ w ∧ w ≤ 20
  · by_cases c2 : 0 ≤ p ∧ p ≤ 10
    · by_cases c3 : 1 ≤ n ∧ n ≤ 9
      · by_cases c4 : 0 ≤ wh ∧ wh ≤ 2
        · obtain ⟨w', hw, rfl⟩ := q_rg 20 (by decide) c1
          obtain ⟨p', hp, rfl⟩ := q_rg 10 (by decide) c2
          obtain ⟨n', hn, rfl⟩ := q_rg 9 (by decide) ⟨Int32.le_trans (by decide) c3.1, c3.2⟩
          have z1 : (nI w').toNatClampNeg = w' := nI_clamp (by omega)
          have z2 : (nI p').toNatClampNeg = p' := nI_clamp (by omega)
          have z3 : (nI n').toNatClampNeg = n' := nI_clamp (by omega)
          simp only [c1, c2, c3, c4, and_self, if_true, z1, z2, z3]
          by_cases c5 : wh = 2
          · have e := q_sn_m p' (nI w') (nI n') wh 211 h none none hp 9 1 rfl
            rw [show nI 1 = 1 from rfl] at e
            simp only [c5] at e ⊢
            simp only [e271_0, e271_1, e271_2, e271_5, e271_6, e271_7, e271_9, e271_12, e271_15, e271_16, e271_17, e271_19, e271_22, e271_25, e271_26, e271_27, e271_29, e271_32, e271_35, e271_37, e271_38, e271_39, e271_42, e271_45, e271_48, e271_49, e271_51, e271_52, e271_55, e271_56, e271_60, e271_62, e271_65, e271_68, e271_69, e271_70, e271_72, e271_75, e271_76, e271_79, e271_81, e271_84, e271_85, e271_88, e271_90, e271_91, e271_92, e271_95, e271_98, e271_101, e271_102, e271_103, e271_105, e271_106, e271_110, e271_111, e271_114, e271_116, e271_117, e271_118, e271_120, e271_123, e271_125, e271_126, e271_127, e271_128, e271_129, e271_130, e271_131, e271_133, e271_134, e271_137, e271_138, e271_139, e271_142, e271_143, e271_144, e271_145, e271_147, e271_148, e271_151, e271_152, e271_153, e271_155, e271_158, e271_161, e271_163, e271_166, e271_167, e271_170, e271_172, e271_173, e271_176, e271_177, e271_180, e271_181, e271_184, not_true, if_false, if_true]
            exact e
          · rw [if_neg c5]
            exact q_fog_tm w' p' n' wh 211 h hw hp hn c5
        · simp [c1, c2, c3, c4]
      · simp [c1, c2, c3]
    · simp [c1, c2]
  · simp [c1]
theorem den_cfog (w p n wh : Int32) (o : Nat) (h : am_H) : am_den 162 [.ref o, .int w, .int p, .int n, .int wh] h = some (some (.long (q_fog w p n wh)), h) := by
  show am_ev 162 0 [some (.ref o), some (.int w), some (.int p), some (.int n), some (.int wh), none, none, none, none, none, none, none] [] h = _
  simp only [e162_0, e162_1, e162_4, e162_5, e162_7, e162_10, e162_11, e162_14, e162_15, e162_17, e162_20, e162_21, e162_22, e162_25, e162_26, e162_28, e162_31, e162_33, e162_36, e162_38, e162_39, e162_42, e162_45, e162_48, e162_49, e162_52, e162_53, e162_56, e162_57, e162_58, e162_59, e162_61, e162_62, e162_64, e162_65, e162_67, e162_68, e162_72, e162_73, e162_76, e162_78, e162_81, e162_82, e162_84, e162_86, e162_87, e162_88, e162_89, e162_90, e162_91, e162_92, e162_94, e162_95, e162_98, e162_99, e162_100, e162_101, e162_103, e162_105, e162_106, e162_107, e162_108, e162_110, e162_112, e162_115, e162_116, e162_118, e162_121, e162_124, e162_126, e162_128, e162_130, e162_131, e162_134, e162_135, e162_138, e162_139, e162_142, am_bd_some, Option.toList_some, Option.toList_none, List.cons_append, List.nil_append, am_w8_0, am_w8_1, am_w8_2, am_w8_3, am_w8_4, eq_self, or_true, true_or, am_kd_sI, am_kd_sL, am_kd_sR, am_tc_sI, am_tc_sL, am_tc_sR, am_len_sI, am_len_sL, am_len_sR, am_rfs, if_true, if_false, q_fog]
  by_cases c1 : 0 ≤ w ∧ w ≤ 20
  · have d1 := Int32.not_lt.mpr c1.1
    have d2 := Int32.not_lt.mpr c1.2
    by_cases c2 : 0 ≤ p ∧ p ≤ 10
    · have d3 := Int32.not_lt.mpr c2.1
      have d4 := Int32.not_lt.mpr c2.2
      by_cases c3 : 1 ≤ n ∧ n ≤ 9
      · have d5 := Int32.not_lt.mpr c3.1
        have d6 := Int32.not_lt.mpr c3.2
        by_cases c4 : 0 ≤ wh ∧ wh ≤ 2
        · have d7 := Int32.not_lt.mpr c4.1
          simp only [d1, d2, d3, d4, d5, d6, d7, if_false, c4.2]
          obtain ⟨w', hw, rfl⟩ := q_rg 20 (by decide) c1
          obtain ⟨p', hp, rfl⟩ := q_rg 10 (by decide) c2
          obtain ⟨n', hn, rfl⟩ := q_rg 9 (by decide) ⟨Int32.le_trans (by decide) c3.1, c3.2⟩
          have z1 : (nI w').toNatClampNeg = w' := nI_clamp (by omega)
          have z2 : (nI p').toNatClampNeg = p' := nI_clamp (by omega)
          have z3 : (nI n').toNatClampNeg = n' := nI_clamp (by omega)
          simp only [c1, c2, c3, c4, and_self, if_true, z1, z2, z3]
          by_cases c5 : wh = 2
          · simp only [c5, e162_0, e162_1, e162_4, e162_5, e162_7, e162_10, e162_11, e162_14, e162_15, e162_17, e162_20, e162_21, e162_22, e162_25, e162_26, e162_28, e162_31, e162_33, e162_36, e162_38, e162_39, e162_42, e162_45, e162_46, e162_48, e162_49, e162_52, e162_53, e162_56, e162_57, e162_58, e162_59, e162_61, e162_62, e162_64, e162_65, e162_67, e162_68, e162_72, e162_73, e162_76, e162_78, e162_81, e162_82, e162_84, e162_86, e162_87, e162_88, e162_89, e162_90, e162_91, e162_92, e162_94, e162_95, e162_98, e162_99, e162_100, e162_101, e162_103, e162_105, e162_106, e162_107, e162_108, e162_110, e162_112, e162_115, e162_116, e162_118, e162_121, e162_124, e162_126, e162_128, e162_130, e162_131, e162_134, e162_135, e162_138, e162_139, e162_142, am_bd_some, Option.toList_some, Option.toList_none, List.cons_append, List.nil_append, am_w8_0, am_w8_1, am_w8_2, am_w8_3, am_w8_4, eq_self, or_true, true_or, am_kd_sI, am_kd_sL, am_kd_sR, am_tc_sI, am_tc_sL, am_tc_sR, am_len_sI, am_len_sL, am_len_sR, am_rfs, if_true, if_false, not_true, den_soon p' h hp]
          · rw [if_neg c5]
            exact q_fog_tc w' p' n' wh o h hw hp hn c5
        · by_cases d7 : wh < 0
          · simp only [d1, d2, d3, d4, d5, d6, d7, if_false, if_true, c4, and_false]
          · have d8 : ¬ wh ≤ 2 := fun q => c4 ⟨Int32.not_lt.mp d7, q⟩
            simp only [d1, d2, d3, d4, d5, d6, d7, d8, if_false, and_false]
      · by_cases d5 : n < 1
        · simp only [d1, d2, d3, d4, d5, if_false, if_true, c3, and_false, false_and]
        · have d6 : 9 < n := Int32.not_le.mp (fun q => c3 ⟨Int32.not_lt.mp d5, q⟩)
          simp only [d1, d2, d3, d4, d5, d6, if_false, if_true, c3, and_false, false_and]
    · by_cases d3 : p < 0
      · simp only [d1, d2, d3, if_false, if_true, c2, and_false, false_and]
      · have d4 : 10 < p := Int32.not_le.mp (fun q => c2 ⟨Int32.not_lt.mp d3, q⟩)
        simp only [d1, d2, d3, d4, if_false, if_true, c2, and_false, false_and]
  · by_cases d1 : w < 0
    · simp only [d1, if_true, c1, false_and, if_false]
    · have d2 : 20 < w := Int32.not_le.mp (fun q => c1 ⟨Int32.not_lt.mp d1, q⟩)
      simp only [d1, d2, if_true, c1, false_and, if_false]
theorem ly_20 : ly_p20 := fun a b c d => pr_pureL (q_fog a b c d) (fun h _ => den_cfog a b c d 0 h) (fun h R => den_mfog a b c d h R.ok R.z)
