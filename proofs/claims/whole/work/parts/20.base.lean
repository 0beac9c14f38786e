/-! part 20: numbers and small rules -/
section AMU3
variable {k pc : Nat} {ls : List (Option Value)} {st : List Value} {h : am_H} {y : am_M}
/-- the first n of one row are those of another -/
def am_cq (h : am_H) (s0 d n : Nat) : am_H := (fun a b => if a = d ∧ b < n then h.1 s0 b else h.1 a b, h.2)
theorem am_cp_cq (h : am_H) (s0 d n : Nat) : am_cp h s0 0 d 0 n = am_cq h s0 d n := by
  unfold am_cp am_cq
  congr 1
  funext a b
  simp only [Nat.zero_le, true_and, Nat.zero_add, Nat.sub_zero]
theorem am_u_ac {idx : Nat} {wn : Nat × Nat} {s0 d : Nat} (n tc : Nat) (hy : am_ms[k]? = some y) (hd : decode y.2.1 pc = .ok (.invokestatic idx, 3)) (hl : am_lk am_mlt (am_own y) idx = some (4, wn)) (hr : 1 ≤ am_rf y ∧ 8 + (nativeFrameWords "java/lang/System" "arraycopy" 5 + 11) ≤ am_rl y) (hn : n < 2147483648) (htc : tc = 0 ∨ tc = 1) (hw : am_w8 st ≤ 8) (ht : am_tc h s0 = some tc) (ht' : am_tc h d = some tc) (h1 : n ≤ am_len h s0) (h2 : n ≤ am_len h d) : am_ev k pc ls (.int (nI n) :: .int 0 :: .ref d :: .int 0 :: .ref s0 :: st) h = am_ev k (pc + 3) ls st (am_cq h s0 d n) := by
  rw [← am_cp_cq]
  refine am_ev_step (q := (pc + 3, ls, st, am_cp h s0 0 d 0 n)) y _ 3 hy hd ?_
  show am_inv y (fun k => k == 1 || k == 4 || k == 6 || k == 7 || k == 8) idx pc ls (.int (nI n) :: .int 0 :: .ref d :: .int 0 :: .ref s0 :: st) h = _
  unfold am_inv
  simp only [hl]
  show am_ac y pc ls (.int (nI n) :: .int 0 :: .ref d :: .int 0 :: .ref s0 :: st) h = _
  unfold am_ac
  dsimp only
  have e0 : (0 : Int32).toNatClampNeg = 0 := rfl
  have e1 : (nI n).toNatClampNeg = n := nI_clamp (by omega)
  have e2 : ¬ nI n < 0 := nI_pos (by omega)
  rw [e0, e1, if_pos ⟨hr.1, by omega, by rw [ht, ht'], by rw [ht']; exact htc.imp (congrArg some) (congrArg some), by decide, by decide, e2, by omega, by omega⟩]
  rfl
/-- the script is read -/
theorem am_u_rX {i : Int32} (hy : am_ms[k]? = some y) (hd : decode y.2.1 pc = .ok (.iaload, 1)) (ht : am_tc h am_CB = none) (h1 : 1 ≤ h.2.2.2.2.1) (hi : am_ix i (h.2.2.2.2.1 - 1) = true) : am_ev k pc ls (.int i :: .ref am_CB :: st) h = am_ev k (pc + 1) ls (.int (h.2.2.2.2.2 i.toNatClampNeg) :: st) h := by
  refine am_ev_step (q := (pc + 1, ls, .int (h.2.2.2.2.2 i.toNatClampNeg) :: st, h)) y _ 1 hy hd ?_
  show am_rI (pc + 1) ls (.int i :: .ref am_CB :: st) h = _
  unfold am_rI
  dsimp only
  rw [ht, if_neg (by intro q; cases q), if_pos ⟨rfl, h1, hi⟩]
  rfl
theorem am_u_alX (hy : am_ms[k]? = some y) (hd : decode y.2.1 pc = .ok (.arraylength, 1)) (ht : am_tc h am_CB = none) (h1 : 1 ≤ h.2.2.2.2.1) : am_ev k pc ls (.ref am_CB :: st) h = am_ev k (pc + 1) ls (.int (Int32.ofNat (h.2.2.2.2.1 - 1)) :: st) h := by
  refine am_ev_step (q := (pc + 1, ls, .int (Int32.ofNat (h.2.2.2.2.1 - 1)) :: st, h)) y _ 1 hy hd ?_
  show am_al (pc + 1) ls (.ref am_CB :: st) h = _
  unfold am_al
  dsimp only
  rw [ht]
  dsimp only
  rw [if_pos ⟨rfl, h1⟩]
  rfl
theorem okT_CB (ok : am_okH h) : am_tc h am_CB = none := by
  unfold am_tc
  rw [ok.kd]
  decide +kernel
end AMU3
theorem am_w8_0 : am_w8 [] ≤ 8 := by decide
theorem am_cat2 (v : Value) : v.category ≤ 2 := by cases v <;> exact Nat.le_of_ble_eq_true rfl
theorem am_w8_1 (a : Value) : am_w8 [a] ≤ 8 := by
  have := am_cat2 a
  simp only [am_w8, List.map_cons, List.map_nil, List.sum_cons, List.sum_nil]
  omega
theorem am_w8_2 (a b : Value) : am_w8 [a, b] ≤ 8 := by
  have := am_cat2 a
  have := am_cat2 b
  simp only [am_w8, List.map_cons, List.map_nil, List.sum_cons, List.sum_nil]
  omega
theorem am_w8_3 (a b c : Value) : am_w8 [a, b, c] ≤ 8 := by
  have := am_cat2 a
  have := am_cat2 b
  have := am_cat2 c
  simp only [am_w8, List.map_cons, List.map_nil, List.sum_cons, List.sum_nil]
  omega
theorem am_w8_4 (a b c d : Value) : am_w8 [a, b, c, d] ≤ 8 := by
  have := am_cat2 a
  have := am_cat2 b
  have := am_cat2 c
  have := am_cat2 d
  simp only [am_w8, List.map_cons, List.map_nil, List.sum_cons, List.sum_nil]
  omega
theorem am_rfs (a : Nat) : va_rf (some a) = .ref a := rfl
theorem am_kd_sI (h : am_H) (o k : Nat) (v : Int32) (a : Nat) : am_kd (am_sI h o k v) a = am_kd h a := rfl
theorem am_kd_sL (h : am_H) (o k : Nat) (v : Int64) (a : Nat) : am_kd (am_sL h o k v) a = am_kd h a := rfl
theorem am_kd_sR (h : am_H) (o k : Nat) (v : Option Nat) (a : Nat) : am_kd (am_sR h o k v) a = am_kd h a := rfl
theorem am_tc_sI (h : am_H) (o k : Nat) (v : Int32) (a : Nat) : am_tc (am_sI h o k v) a = am_tc h a := rfl
theorem am_tc_sL (h : am_H) (o k : Nat) (v : Int64) (a : Nat) : am_tc (am_sL h o k v) a = am_tc h a := rfl
theorem am_tc_sR (h : am_H) (o k : Nat) (v : Option Nat) (a : Nat) : am_tc (am_sR h o k v) a = am_tc h a := rfl
theorem am_len_sI (h : am_H) (o k : Nat) (v : Int32) (a : Nat) : am_len (am_sI h o k v) a = am_len h a := rfl
theorem am_len_sL (h : am_H) (o k : Nat) (v : Int64) (a : Nat) : am_len (am_sL h o k v) a = am_len h a := rfl
theorem am_len_sR (h : am_H) (o k : Nat) (v : Option Nat) (a : Nat) : am_len (am_sR h o k v) a = am_len h a := rfl
/-- whole numbers as ints -/
def iI (z : Int) : Int32 := Int32.ofInt z
theorem iI_toInt {z : Int} (h1 : -2147483648 ≤ z) (h2 : z < 2147483648) : (iI z).toInt = z := Int32.toInt_ofInt_of_le h1 (by omega)
theorem iI_of (a : Int32) : a = iI a.toInt := (Int32.ofInt_toInt a).symm
theorem iI_rng (a : Int32) : -2147483648 ≤ a.toInt ∧ a.toInt < 2147483648 := ⟨a.le_toInt, a.toInt_lt⟩
theorem iI_add (a b : Int) : iI a + iI b = iI (a + b) := (Int32.ofInt_add a b).symm
theorem iI_sub (a b : Int) : iI a - iI b = iI (a - b) := (Int32.ofInt_sub a b).symm
theorem iI_mul (a b : Int) : iI a * iI b = iI (a * b) := (Int32.ofInt_mul a b).symm
theorem iI_lt {a b : Int} (h1 : -2147483648 ≤ a) (h2 : a < 2147483648) (h3 : -2147483648 ≤ b) (h4 : b < 2147483648) : iI a < iI b ↔ a < b := by
  rw [Int32.lt_iff_toInt_lt, iI_toInt h1 h2, iI_toInt h3 h4]
theorem iI_le {a b : Int} (h1 : -2147483648 ≤ a) (h2 : a < 2147483648) (h3 : -2147483648 ≤ b) (h4 : b < 2147483648) : iI a ≤ iI b ↔ a ≤ b := by
  rw [Int32.le_iff_toInt_le, iI_toInt h1 h2, iI_toInt h3 h4]
theorem iI_eq {a b : Int} (h1 : -2147483648 ≤ a) (h2 : a < 2147483648) (h3 : -2147483648 ≤ b) (h4 : b < 2147483648) : iI a = iI b ↔ a = b := by
  constructor
  · intro e
    have := congrArg Int32.toInt e
    rwa [iI_toInt h1 h2, iI_toInt h3 h4] at this
  · intro e
    rw [e]
theorem iI_nat (n : Nat) : iI (n : Int) = nI n := rfl
theorem iI_clamp {z : Int} (h1 : 0 ≤ z) (h2 : z < 2147483648) : (iI z).toNatClampNeg = z.toNat := by
  obtain ⟨n, rfl⟩ := Int.eq_ofNat_of_zero_le h1
  rw [show iI (n : Int) = nI n from rfl, nI_clamp (by omega)]
  rfl
theorem am_ix_nI {i n : Nat} (h : i < n) (hn : n ≤ 2147483648) : am_ix (nI i) n = true := by
  unfold am_ix
  rw [nI_toInt (by omega)]
  exact decide_eq_true ⟨by omega, by omega⟩
theorem am_ix_iI {z : Int} {n : Nat} (h0 : 0 ≤ z) (h : z < n) (hn : n ≤ 2147483648) : am_ix (iI z) n = true := by
  obtain ⟨i, rfl⟩ := Int.eq_ofNat_of_zero_le h0
  exact am_ix_nI (by omega) hn
theorem am_up_r {α : Type} (f : Nat → Nat → α) (o k : Nat) (v : α) (a b : Nat) : am_up f o k v a b = if a = o ∧ b = k then v else f a b := rfl
theorem am_rd_sI (h : am_H) (o k : Nat) (v : Int32) (a b : Nat) : (am_sI h o k v).1 a b = if a = o ∧ b = k then v else h.1 a b := rfl
theorem am_rdL_sI (h : am_H) (o k : Nat) (v : Int32) : (am_sI h o k v).2 = h.2 := rfl
theorem am_kd_cq (h : am_H) (s d n a : Nat) : am_kd (am_cq h s d n) a = am_kd h a := rfl
theorem am_tc_cq (h : am_H) (s d n a : Nat) : am_tc (am_cq h s d n) a = am_tc h a := rfl
theorem am_len_cq (h : am_H) (s d n a : Nat) : am_len (am_cq h s d n) a = am_len h a := rfl
theorem am_rd_cq (h : am_H) (s d n a b : Nat) : (am_cq h s d n).1 a b = if a = d ∧ b < n then h.1 s b else h.1 a b := rfl
theorem am_rt_cq (h : am_H) (s d n : Nat) : (am_cq h s d n).2 = h.2 := rfl
theorem am_rd_sL (h : am_H) (o k : Nat) (v : Int64) : (am_sL h o k v).1 = h.1 := rfl
theorem am_rdL_sL (h : am_H) (o k : Nat) (v : Int64) (a b : Nat) : (am_sL h o k v).2.1 a b = if a = o ∧ b = k then v else h.2.1 a b := rfl
theorem am_rR_sL (h : am_H) (o k : Nat) (v : Int64) : (am_sL h o k v).2.2 = h.2.2 := rfl
theorem am_rd_sR (h : am_H) (o k : Nat) (v : Option Nat) : (am_sR h o k v).1 = h.1 := rfl
theorem am_rdL_sR (h : am_H) (o k : Nat) (v : Option Nat) : (am_sR h o k v).2.1 = h.2.1 := rfl
theorem am_rR_sR (h : am_H) (o k : Nat) (v : Option Nat) (a b : Nat) : (am_sR h o k v).2.2.1 a b = if a = o ∧ b = k then v else h.2.2.1 a b := rfl
theorem am_rK_sR (h : am_H) (o k : Nat) (v : Option Nat) : (am_sR h o k v).2.2.2 = h.2.2.2 := rfl
theorem am_okH.cq {h : am_H} (ok : am_okH h) (s d n : Nat) : am_okH (am_cq h s d n) := ok
theorem am_okH.of {h h' : am_H} (ok : am_okH h) (e : h'.2.2 = h.2.2) : am_okH h' := by
  unfold am_okH
  rw [e]
  exact ok
