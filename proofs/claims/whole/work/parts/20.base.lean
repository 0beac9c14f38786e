/-! part 20: numbers and small rules -/
theorem am_w8_0 : am_w8 [] ≤ 8 := by decide
theorem am_cat2 (v : Value) : v.category ≤ 2 := by cases v <;> exact Nat.le_of_ble_eq_true rfl
theorem am_w8_1 (a : Value) : am_w8 [a] ≤ 8 := by
  have := am_cat2 a
  simp only [am_w8, List.map_cons, List.map_nil, List.sum_cons, List.sum_nil]
  omega
theorem am_w8_2 (a b : Value) : am_w8 [a, b] ≤ 8 := by
  have := am_cat2 a
  have := am_cat2 b
  simp only [am_w8, List.map_cons, List.map_nil, List.sum_cons, List.sum_nil]
  omega
theorem am_w8_3 (a b c : Value) : am_w8 [a, b, c] ≤ 8 := by
  have := am_cat2 a
  have := am_cat2 b
  have := am_cat2 c
  simp only [am_w8, List.map_cons, List.map_nil, List.sum_cons, List.sum_nil]
  omega
theorem am_w8_4 (a b c d : Value) : am_w8 [a, b, c, d] ≤ 8 := by
  have := am_cat2 a
  have := am_cat2 b
  have := am_cat2 c
  have := am_cat2 d
  simp only [am_w8, List.map_cons, List.map_nil, List.sum_cons, List.sum_nil]
  omega
theorem am_rfs (a : Nat) : va_rf (some a) = .ref a := rfl
theorem am_kd_sI (h : am_H) (o k : Nat) (v : Int32) (a : Nat) : am_kd (am_sI h o k v) a = am_kd h a := rfl
theorem am_kd_sL (h : am_H) (o k : Nat) (v : Int64) (a : Nat) : am_kd (am_sL h o k v) a = am_kd h a := rfl
theorem am_kd_sR (h : am_H) (o k : Nat) (v : Option Nat) (a : Nat) : am_kd (am_sR h o k v) a = am_kd h a := rfl
theorem am_tc_sI (h : am_H) (o k : Nat) (v : Int32) (a : Nat) : am_tc (am_sI h o k v) a = am_tc h a := rfl
theorem am_tc_sL (h : am_H) (o k : Nat) (v : Int64) (a : Nat) : am_tc (am_sL h o k v) a = am_tc h a := rfl
theorem am_tc_sR (h : am_H) (o k : Nat) (v : Option Nat) (a : Nat) : am_tc (am_sR h o k v) a = am_tc h a := rfl
theorem am_len_sI (h : am_H) (o k : Nat) (v : Int32) (a : Nat) : am_len (am_sI h o k v) a = am_len h a := rfl
theorem am_len_sL (h : am_H) (o k : Nat) (v : Int64) (a : Nat) : am_len (am_sL h o k v) a = am_len h a := rfl
theorem am_len_sR (h : am_H) (o k : Nat) (v : Option Nat) (a : Nat) : am_len (am_sR h o k v) a = am_len h a := rfl
/-- whole numbers as ints -/
def iI (z : Int) : Int32 := Int32.ofInt z
theorem iI_toInt {z : Int} (h1 : -2147483648 ≤ z) (h2 : z < 2147483648) : (iI z).toInt = z := Int32.toInt_ofInt_of_le h1 (by omega)
theorem iI_of (a : Int32) : a = iI a.toInt := (Int32.ofInt_toInt a).symm
theorem iI_rng (a : Int32) : -2147483648 ≤ a.toInt ∧ a.toInt < 2147483648 := ⟨a.le_toInt, a.toInt_lt⟩
theorem iI_add (a b : Int) : iI a + iI b = iI (a + b) := (Int32.ofInt_add a b).symm
theorem iI_sub (a b : Int) : iI a - iI b = iI (a - b) := (Int32.ofInt_sub a b).symm
theorem iI_mul (a b : Int) : iI a * iI b = iI (a * b) := (Int32.ofInt_mul a b).symm
theorem iI_lt {a b : Int} (h1 : -2147483648 ≤ a) (h2 : a < 2147483648) (h3 : -2147483648 ≤ b) (h4 : b < 2147483648) : iI a < iI b ↔ a < b := by
  rw [Int32.lt_iff_toInt_lt, iI_toInt h1 h2, iI_toInt h3 h4]
theorem iI_le {a b : Int} (h1 : -2147483648 ≤ a) (h2 : a < 2147483648) (h3 : -2147483648 ≤ b) (h4 : b < 2147483648) : iI a ≤ iI b ↔ a ≤ b := by
  rw [Int32.le_iff_toInt_le, iI_toInt h1 h2, iI_toInt h3 h4]
theorem iI_eq {a b : Int} (h1 : -2147483648 ≤ a) (h2 : a < 2147483648) (h3 : -2147483648 ≤ b) (h4 : b < 2147483648) : iI a = iI b ↔ a = b := by
  constructor
  · intro e
    have := congrArg Int32.toInt e
    rwa [iI_toInt h1 h2, iI_toInt h3 h4] at this
  · intro e
    rw [e]
theorem iI_nat (n : Nat) : iI (n : Int) = nI n := rfl
theorem iI_clamp {z : Int} (h1 : 0 ≤ z) (h2 : z < 2147483648) : (iI z).toNatClampNeg = z.toNat := by
  obtain ⟨n, rfl⟩ := Int.eq_ofNat_of_zero_le h1
  rw [show iI (n : Int) = nI n from rfl, nI_clamp (by omega)]
  rfl
theorem am_ix_nI {i n : Nat} (h : i < n) (hn : n ≤ 2147483648) : am_ix (nI i) n = true := by
  unfold am_ix
  rw [nI_toInt (by omega)]
  exact decide_eq_true ⟨by omega, by omega⟩
theorem am_ix_iI {z : Int} {n : Nat} (h0 : 0 ≤ z) (h : z < n) (hn : n ≤ 2147483648) : am_ix (iI z) n = true := by
  obtain ⟨i, rfl⟩ := Int.eq_ofNat_of_zero_le h0
  exact am_ix_nI (by omega) hn
theorem am_up_r {α : Type} (f : Nat → Nat → α) (o k : Nat) (v : α) (a b : Nat) : am_up f o k v a b = if a = o ∧ b = k then v else f a b := rfl
theorem am_rd_sI (h : am_H) (o k : Nat) (v : Int32) (a b : Nat) : (am_sI h o k v).1 a b = if a = o ∧ b = k then v else h.1 a b := rfl
theorem am_rdL_sI (h : am_H) (o k : Nat) (v : Int32) : (am_sI h o k v).2 = h.2 := rfl
