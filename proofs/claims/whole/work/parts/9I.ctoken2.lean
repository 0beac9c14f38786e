/-! part 9I: the class's tokens, whole -/
/-- the class's place of reading: at, token, start, value -/
def t_cu (h : am_H) (a k s v : Int32) : am_H := (fun x y => if x = 159 ∧ y = 9 then a else if x = 159 ∧ y = 10 then k else if x = 159 ∧ y = 11 then s else if x = 159 ∧ y = 12 then v else h.1 x y, h.2)
theorem t_cu_a (h : am_H) (a b c d v : Int32) : am_sI (t_cu h a b c d) 159 9 v = t_cu h v b c d := by
  apply Prod.ext
  · funext x y
    show (if x = 159 ∧ y = 9 then v else if x = 159 ∧ y = 9 then a else _) = if x = 159 ∧ y = 9 then v else _
    split <;> rfl
  · rfl
theorem t_cu_k (h : am_H) (a b c d v : Int32) : am_sI (t_cu h a b c d) 159 10 v = t_cu h a v c d := by
  apply Prod.ext
  · funext x y
    show (if x = 159 ∧ y = 10 then v else if x = 159 ∧ y = 9 then a else if x = 159 ∧ y = 10 then b else _) = if x = 159 ∧ y = 9 then a else if x = 159 ∧ y = 10 then v else _
    by_cases p : x = 159 ∧ y = 10
    · rw [if_pos p, if_neg (by omega), if_pos p]
    · rw [if_neg p, if_neg p, if_neg p]
  · rfl
theorem t_cu_s (h : am_H) (a b c d v : Int32) : am_sI (t_cu h a b c d) 159 11 v = t_cu h a b v d := by
  apply Prod.ext
  · funext x y
    show (if x = 159 ∧ y = 11 then v else if x = 159 ∧ y = 9 then a else if x = 159 ∧ y = 10 then b else if x = 159 ∧ y = 11 then c else _) = if x = 159 ∧ y = 9 then a else if x = 159 ∧ y = 10 then b else if x = 159 ∧ y = 11 then v else _
    by_cases p : x = 159 ∧ y = 11
    · rw [if_pos p, if_neg (by omega), if_neg (by omega), if_pos p]
    · rw [if_neg p, if_neg p, if_neg p]
  · rfl
theorem t_cu_v (h : am_H) (a b c d v : Int32) : am_sI (t_cu h a b c d) 159 12 v = t_cu h a b c v := by
  apply Prod.ext
  · funext x y
    show (if x = 159 ∧ y = 12 then v else if x = 159 ∧ y = 9 then a else if x = 159 ∧ y = 10 then b else if x = 159 ∧ y = 11 then c else if x = 159 ∧ y = 12 then d else _) = if x = 159 ∧ y = 9 then a else if x = 159 ∧ y = 10 then b else if x = 159 ∧ y = 11 then c else if x = 159 ∧ y = 12 then v else _
    by_cases p : x = 159 ∧ y = 12
    · rw [if_pos p, if_neg (by omega), if_neg (by omega), if_neg (by omega), if_pos p]
    · rw [if_neg p, if_neg p, if_neg p]
  · rfl
theorem t_cu_id (h : am_H) : t_cu h (h.1 159 9) (h.1 159 10) (h.1 159 11) (h.1 159 12) = h := by
  apply Prod.ext
  · funext x y
    show (if x = 159 ∧ y = 9 then h.1 159 9 else if x = 159 ∧ y = 10 then h.1 159 10 else if x = 159 ∧ y = 11 then h.1 159 11 else if x = 159 ∧ y = 12 then h.1 159 12 else h.1 x y) = h.1 x y
    split
    · rename_i p; rw [p.1, p.2]
    · split
      · rename_i p; rw [p.1, p.2]
      · split
        · rename_i p; rw [p.1, p.2]
        · split
          · rename_i p; rw [p.1, p.2]
          · rfl
  · rfl
theorem t_cu_cx {h : am_H} {t : Nat → Nat} {L : Nat} (x : t_cx h t L) (a b c d : Int32) : t_cx (t_cu h a b c d) t L := ⟨x.1, x.2.1, x.2.2.1, x.2.2.2.1, x.2.2.2.2⟩
def t_nc (t : Nat → Nat) : Nat → Nat → Nat → Nat
  | 0, _, v => v
  | m + 1, a, v => t_nc t m (a + 1) (10 * v + (t a - 48))
theorem t_nc_nv (t : Nat → Nat) (m s : Nat) (hm : m ≤ 2) : t_nc t m s 0 = t_nv t m s 0 0 := by
  have : m = 0 ∨ m = 1 ∨ m = 2 := by omega
  rcases this with rfl | rfl | rfl <;> rfl
theorem t_ck_n (h : am_H) (t : Nat → Nat) (L : Nat) (x : t_cx h t L) (k : Int32) (s : Nat) : ∀ (r a v : Nat), a + r = L → s ≤ a → am_ev 25 5 [some (.ref 159)] [] (t_cu h (nI a) k (nI s) (nI v)) = some (none, t_cu h (nI (t_wh t_di t r a)) (if t_wh t_di t r a - s ≤ 2 then 2 else 4) (nI s) (nI (t_nc t (t_wh t_di t r a - a) a v))) := by
  have L6 := x.2.1
  have ok : ∀ a b c d, am_okH (t_cu h a b c d) := fun _ _ _ _ => x.1
  have r9 : ∀ a b c d, (t_cu h a b c d).1 159 9 = a := fun _ _ _ _ => rfl
  have r11 : ∀ a b c d, (t_cu h a b c d).1 159 11 = c := fun _ _ _ _ => rfl
  have r12 : ∀ a b c d, (t_cu h a b c d).1 159 12 = d := fun _ _ _ _ => rfl
  have r8 : ∀ a b c d, (t_cu h a b c d).1 159 8 = nI L := fun _ _ _ _ => x.2.2.2.1
  have r7 : ∀ a b c d, (t_cu h a b c d).2.2.1 159 7 = some 2 := fun _ _ _ _ => x.2.2.1
  have fin : ∀ (a v : Nat), a ≤ L → s ≤ a → am_ev 25 68 [some (.ref 159)] [] (t_cu h (nI a) k (nI s) (nI v)) = some (none, t_cu h (nI a) (if a - s ≤ 2 then 2 else 4) (nI s) (nI v)) := by
    intro a v ha hs
    have e := t_sub (a := a) (b := s) hs
    have j : (2 : Int32) < nI (a - s) ↔ 2 < a - s := nI_ltI (a := 2) (by decide) (by omega)
    rw [e25_68]
    by_cases c : a - s ≤ 2
    · have c' : ¬ (2 : Int32) < nI (a - s) := fun w => by have := j.mp w; omega
      rw [if_pos c]
      simp only [e25_0, e25_1, e25_2, e25_6, e25_9, e25_10, e25_13, e25_16, e25_17, e25_20, e25_21, e25_24, e25_24z, e25_25, e25_28, e25_31, e25_32, e25_33, e25_36, e25_38, e25_39, e25_40, e25_43, e25_44, e25_47, e25_47z, e25_48, e25_49, e25_51, e25_52, e25_55, e25_56, e25_56i, e25_57, e25_60, e25_61, e25_62, e25_65, e25_69, e25_70, e25_73, e25_74, e25_77, e25_78, e25_79, e25_82, e25_83, e25_86, e25_87, e25_90, am_bd_some, Option.toList_some, Option.toList_none, List.cons_append, List.nil_append, am_w8_0, am_w8_1, am_w8_2, am_w8_3, am_w8_4, eq_self, or_true, true_or, am_kd_sI, am_kd_sL, am_kd_sR, am_tc_sI, am_tc_sL, am_tc_sR, am_len_sI, am_len_sL, am_len_sR, am_rfs, if_true, if_false, am_rdL_sI, am_rR_sL, am_rt_cq, am_kd_cq, am_tc_cq, am_len_cq, am_rd_sL, am_rd_sR, am_rdL_sR, okK_159 (ok _ _ _ _), r9, r11, e, c', t_cu_k]
    · have c' : (2 : Int32) < nI (a - s) := j.mpr (by omega)
      rw [if_neg c]
      simp only [e25_0, e25_1, e25_2, e25_6, e25_9, e25_10, e25_13, e25_16, e25_17, e25_20, e25_21, e25_24, e25_24z, e25_25, e25_28, e25_31, e25_32, e25_33, e25_36, e25_38, e25_39, e25_40, e25_43, e25_44, e25_47, e25_47z, e25_48, e25_49, e25_51, e25_52, e25_55, e25_56, e25_56i, e25_57, e25_60, e25_61, e25_62, e25_65, e25_69, e25_70, e25_73, e25_74, e25_77, e25_78, e25_79, e25_82, e25_83, e25_86, e25_87, e25_90, am_bd_some, Option.toList_some, Option.toList_none, List.cons_append, List.nil_append, am_w8_0, am_w8_1, am_w8_2, am_w8_3, am_w8_4, eq_self, or_true, true_or, am_kd_sI, am_kd_sL, am_kd_sR, am_tc_sI, am_tc_sL, am_tc_sR, am_len_sI, am_len_sL, am_len_sR, am_rfs, if_true, if_false, am_rdL_sI, am_rR_sL, am_rt_cq, am_kd_cq, am_tc_cq, am_len_cq, am_rd_sL, am_rd_sR, am_rdL_sR, okK_159 (ok _ _ _ _), r9, r11, e, c', t_cu_k]
  intro r
  induction r with
  | zero =>
    intro a v ha hs
    obtain rfl : a = L := by omega
    have h1 : nI a ≤ nI a := Int32.le_refl _
    have e0 : t_wh t_di t 0 a = a := rfl
    rw [e0, Nat.sub_self, e25_5]
    simp only [e25_0, e25_1, e25_2, e25_6, e25_9, e25_10, e25_13, e25_16, e25_17, e25_20, e25_21, e25_24, e25_24z, e25_25, e25_28, e25_31, e25_32, e25_33, e25_36, e25_38, e25_39, e25_40, e25_43, e25_44, e25_47, e25_47z, e25_48, e25_49, e25_51, e25_52, e25_55, e25_56, e25_56i, e25_57, e25_60, e25_61, e25_62, e25_65, e25_69, e25_70, e25_73, e25_74, e25_77, e25_78, e25_79, e25_82, e25_83, e25_86, e25_87, e25_90, am_bd_some, Option.toList_some, Option.toList_none, List.cons_append, List.nil_append, am_w8_0, am_w8_1, am_w8_2, am_w8_3, am_w8_4, eq_self, or_true, true_or, am_kd_sI, am_kd_sL, am_kd_sR, am_tc_sI, am_tc_sL, am_tc_sR, am_len_sI, am_len_sL, am_len_sR, am_rfs, if_true, if_false, am_rdL_sI, am_rR_sL, am_rt_cq, am_kd_cq, am_tc_cq, am_len_cq, am_rd_sL, am_rd_sR, am_rdL_sR, okK_159 (ok _ _ _ _), r9, r8, h1]
    exact fin a v (Nat.le_refl _) hs
  | succ r ih =>
    intro a v ha hs
    have h1 : ¬ nI L ≤ nI a := nI_ge (by omega) (by omega)
    have xi : am_ix (nI a) 600 = true := am_ix_nI (by omega) (by decide)
    have z : (nI a).toNatClampNeg = a := nI_clamp (by omega)
    have eb : ∀ p q u w, t_by ((t_cu h p q u w).1 2 a) = t a := fun _ _ _ _ => x.2.2.2.2 a (by omega)
    have y : ¬ (1 : Int32) = 0 := by decide
    have b1 : q_bi true = 1 := rfl
    have b0 : q_bi false = 0 := rfl
    rw [e25_5]
    cases c : t_di (t a) with
    | true =>
      have cc : 48 ≤ t a ∧ t a ≤ 57 := of_decide_eq_true c
      have ew : t_wh t_di t (r + 1) a = t_wh t_di t r (a + 1) := if_pos c
      have le := (t_wh_le t_di t r (a + 1)).1
      have s1 : t_wh t_di t r (a + 1) - a = (t_wh t_di t r (a + 1) - (a + 1)) + 1 := by omega
      have s2 : t_nc t (t_wh t_di t r (a + 1) - (a + 1) + 1) a v = t_nc t (t_wh t_di t r (a + 1) - (a + 1)) (a + 1) (10 * v + (t a - 48)) := rfl
      have bn : ∀ p q u w, am_byte ((t_cu h p q u w).1 2 a) = nI (t a) := fun p q u w => by
        have e2 := t_by_n (x := (t_cu h p q u w).1 2 a) (by rw [eb p q u w]; omega)
        rw [eb p q u w] at e2
        exact e2
      have dg : ∀ g : am_H, am_den 24 [.int (nI (t a))] g = some (some (.int 1), g) := fun g => by
        have := den_isDigit ((t_cu h 0 0 0 0).1 2 a) g
        rw [bn, eb, c] at this
        exact this
      have m1 : nI v * (10 : Int32) = nI (10 * v) := by rw [Int32.mul_comm]; exact pk_mul 10 _
      have m2 : nI (10 * v + t a) - (48 : Int32) = nI (10 * v + (t a - 48)) := by
        have := t_sub (a := 10 * v + t a) (b := 48) (by omega)
        rw [show 10 * v + t a - 48 = 10 * v + (t a - 48) by omega] at this
        exact this
      rw [ew, s1, s2, ← ih (a + 1) (10 * v + (t a - 48)) (by omega) (by omega)]
      simp only [e25_0, e25_1, e25_2, e25_6, e25_9, e25_10, e25_13, e25_16, e25_17, e25_20, e25_21, e25_24, e25_24z, e25_25, e25_28, e25_31, e25_32, e25_33, e25_36, e25_38, e25_39, e25_40, e25_43, e25_44, e25_47, e25_47z, e25_48, e25_49, e25_51, e25_52, e25_55, e25_56, e25_56i, e25_57, e25_60, e25_61, e25_62, e25_65, e25_69, e25_70, e25_73, e25_74, e25_77, e25_78, e25_79, e25_82, e25_83, e25_86, e25_87, e25_90, am_bd_some, Option.toList_some, Option.toList_none, List.cons_append, List.nil_append, am_w8_0, am_w8_1, am_w8_2, am_w8_3, am_w8_4, eq_self, or_true, true_or, am_kd_sI, am_kd_sL, am_kd_sR, am_tc_sI, am_tc_sL, am_tc_sR, am_len_sI, am_len_sL, am_len_sR, am_rfs, if_true, if_false, am_rdL_sI, am_rR_sL, am_rt_cq, am_kd_cq, am_tc_cq, am_len_cq, am_rd_sL, am_rd_sR, am_rdL_sR, okK_159 (ok _ _ _ _), r9, r8, r7, r12, h1, okT_2 (ok _ _ _ _), okL_2 (ok _ _ _ _), xi, z, bn, dg, y, m1, nI_add, m2, t_cu_v, nI_1, t_cu_a]
    | false =>
      have ew : t_wh t_di t (r + 1) a = a := if_neg (by rw [c]; decide)
      rw [ew, Nat.sub_self]
      have dg : ∀ p q u w (g : am_H), am_den 24 [.int (am_byte ((t_cu h p q u w).1 2 a))] g = some (some (.int 0), g) := fun p q u w g => by
        have := den_isDigit ((t_cu h p q u w).1 2 a) g
        rw [eb, c] at this
        exact this
      simp only [e25_0, e25_1, e25_2, e25_6, e25_9, e25_10, e25_13, e25_16, e25_17, e25_20, e25_21, e25_24, e25_24z, e25_25, e25_28, e25_31, e25_32, e25_33, e25_36, e25_38, e25_39, e25_40, e25_43, e25_44, e25_47, e25_47z, e25_48, e25_49, e25_51, e25_52, e25_55, e25_56, e25_56i, e25_57, e25_60, e25_61, e25_62, e25_65, e25_69, e25_70, e25_73, e25_74, e25_77, e25_78, e25_79, e25_82, e25_83, e25_86, e25_87, e25_90, am_bd_some, Option.toList_some, Option.toList_none, List.cons_append, List.nil_append, am_w8_0, am_w8_1, am_w8_2, am_w8_3, am_w8_4, eq_self, or_true, true_or, am_kd_sI, am_kd_sL, am_kd_sR, am_tc_sI, am_tc_sL, am_tc_sR, am_len_sI, am_len_sL, am_len_sR, am_rfs, if_true, if_false, am_rdL_sI, am_rR_sL, am_rt_cq, am_kd_cq, am_tc_cq, am_len_cq, am_rd_sL, am_rd_sR, am_rdL_sR, okK_159 (ok _ _ _ _), r9, r8, r7, h1, okT_2 (ok _ _ _ _), okL_2 (ok _ _ _ _), xi, z, dg]
      exact fin a v (by omega) hs
