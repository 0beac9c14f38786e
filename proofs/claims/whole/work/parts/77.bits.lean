/-! part 77: bits of a long -/
theorem e90_0 {ls : List (Option Value)} {st : List Value} {h : am_H} {a : Int64} : am_ev 90 0 (some (.long a) :: some (.retAddr 0) :: ls) (st) h = am_ev 90 1 (some (.long a) :: some (.retAddr 0) :: ls) (.long a :: st) h := am_ev_step (q := (1, some (.long a) :: some (.retAddr 0) :: ls, .long a :: st, h)) _ (.lload_n 0) 1 am_my_90 (by decide +kernel) rfl
theorem e90_1 {ls : List (Option Value)} {st : List Value} {h : am_H} {a : Int64} : am_ev 90 1 (some (.long a) :: some (.retAddr 0) :: ls) (st) h = am_ev 90 2 (some (.long a) :: some (.retAddr 0) :: ls) (.long a :: st) h := am_ev_step (q := (2, some (.long a) :: some (.retAddr 0) :: ls, .long a :: st, h)) _ (.lload_n 0) 1 am_my_90 (by decide +kernel) rfl
theorem e90_2 {ls : List (Option Value)} {st : List Value} {h : am_H} : am_ev 90 2 (ls) (st) h = am_ev 90 3 (ls) (.int (1) :: st) h := am_ev_step (q := (3, ls, .int (1) :: st, h)) _ (.iconst (1)) 1 am_my_90 (by decide +kernel) rfl
theorem e90_3 {ls : List (Option Value)} {st : List Value} {h : am_H} {a : Int64} {b : Int32} : am_ev 90 3 (ls) (.int b :: .long a :: st) h = am_ev 90 4 (ls) (.long ((a.toUInt64 >>> (b.toInt64.toUInt64 &&& Int64.toUInt64 63)).toInt64) :: st) h := am_ev_step (q := (4, ls, .long ((a.toUInt64 >>> (b.toInt64.toUInt64 &&& Int64.toUInt64 63)).toInt64) :: st, h)) _ (.lushr) 1 am_my_90 (by decide +kernel) rfl
theorem e90_4 {ls : List (Option Value)} {st : List Value} {h : am_H} : am_ev 90 4 ls st h = am_ev 90 7 ls (.long (6148914691236517205) :: st) h := am_u_ldc2 (idx := 314) am_my_90 (by decide +kernel) (by decide +kernel)
theorem e90_7 {ls : List (Option Value)} {st : List Value} {h : am_H} {a b : Int64} : am_ev 90 7 (ls) (.long b :: .long a :: st) h = am_ev 90 8 (ls) (.long (a &&& b) :: st) h := am_ev_step (q := (8, ls, .long (a &&& b) :: st, h)) _ (.land) 1 am_my_90 (by decide +kernel) rfl
theorem e90_8 {ls : List (Option Value)} {st : List Value} {h : am_H} {a b : Int64} : am_ev 90 8 (ls) (.long b :: .long a :: st) h = am_ev 90 9 (ls) (.long (a - b) :: st) h := am_ev_step (q := (9, ls, .long (a - b) :: st, h)) _ (.lsub) 1 am_my_90 (by decide +kernel) rfl
theorem e90_9 {ls : List (Option Value)} {st : List Value} {h : am_H} {z z2 : Option Value} {a : Int64} : am_ev 90 9 (z :: z2 :: ls) (.long a :: st) h = am_ev 90 10 (some (.long a) :: some (.retAddr 0) :: ls) (st) h := am_ev_step (q := (10, some (.long a) :: some (.retAddr 0) :: ls, st, h)) _ (.lstore_n 0) 1 am_my_90 (by decide +kernel) rfl
theorem e90_10 {ls : List (Option Value)} {st : List Value} {h : am_H} {a : Int64} : am_ev 90 10 (some (.long a) :: some (.retAddr 0) :: ls) (st) h = am_ev 90 11 (some (.long a) :: some (.retAddr 0) :: ls) (.long a :: st) h := am_ev_step (q := (11, some (.long a) :: some (.retAddr 0) :: ls, .long a :: st, h)) _ (.lload_n 0) 1 am_my_90 (by decide +kernel) rfl
theorem e90_11 {ls : List (Option Value)} {st : List Value} {h : am_H} : am_ev 90 11 ls st h = am_ev 90 14 ls (.long (3689348814741910323) :: st) h := am_u_ldc2 (idx := 316) am_my_90 (by decide +kernel) (by decide +kernel)
theorem e90_14 {ls : List (Option Value)} {st : List Value} {h : am_H} {a b : Int64} : am_ev 90 14 (ls) (.long b :: .long a :: st) h = am_ev 90 15 (ls) (.long (a &&& b) :: st) h := am_ev_step (q := (15, ls, .long (a &&& b) :: st, h)) _ (.land) 1 am_my_90 (by decide +kernel) rfl
theorem e90_15 {ls : List (Option Value)} {st : List Value} {h : am_H} {a : Int64} : am_ev 90 15 (some (.long a) :: some (.retAddr 0) :: ls) (st) h = am_ev 90 16 (some (.long a) :: some (.retAddr 0) :: ls) (.long a :: st) h := am_ev_step (q := (16, some (.long a) :: some (.retAddr 0) :: ls, .long a :: st, h)) _ (.lload_n 0) 1 am_my_90 (by decide +kernel) rfl
theorem e90_16 {ls : List (Option Value)} {st : List Value} {h : am_H} : am_ev 90 16 (ls) (st) h = am_ev 90 17 (ls) (.int (2) :: st) h := am_ev_step (q := (17, ls, .int (2) :: st, h)) _ (.iconst (2)) 1 am_my_90 (by decide +kernel) rfl
theorem e90_17 {ls : List (Option Value)} {st : List Value} {h : am_H} {a : Int64} {b : Int32} : am_ev 90 17 (ls) (.int b :: .long a :: st) h = am_ev 90 18 (ls) (.long ((a.toUInt64 >>> (b.toInt64.toUInt64 &&& Int64.toUInt64 63)).toInt64) :: st) h := am_ev_step (q := (18, ls, .long ((a.toUInt64 >>> (b.toInt64.toUInt64 &&& Int64.toUInt64 63)).toInt64) :: st, h)) _ (.lushr) 1 am_my_90 (by decide +kernel) rfl
theorem e90_18 {ls : List (Option Value)} {st : List Value} {h : am_H} : am_ev 90 18 ls st h = am_ev 90 21 ls (.long (3689348814741910323) :: st) h := am_u_ldc2 (idx := 316) am_my_90 (by decide +kernel) (by decide +kernel)
theorem e90_21 {ls : List (Option Value)} {st : List Value} {h : am_H} {a b : Int64} : am_ev 90 21 (ls) (.long b :: .long a :: st) h = am_ev 90 22 (ls) (.long (a &&& b) :: st) h := am_ev_step (q := (22, ls, .long (a &&& b) :: st, h)) _ (.land) 1 am_my_90 (by decide +kernel) rfl
theorem e90_22 {ls : List (Option Value)} {st : List Value} {h : am_H} {a b : Int64} : am_ev 90 22 (ls) (.long b :: .long a :: st) h = am_ev 90 23 (ls) (.long (a + b) :: st) h := am_ev_step (q := (23, ls, .long (a + b) :: st, h)) _ (.ladd) 1 am_my_90 (by decide +kernel) rfl
theorem e90_23 {ls : List (Option Value)} {st : List Value} {h : am_H} {z z2 : Option Value} {a : Int64} : am_ev 90 23 (z :: z2 :: ls) (.long a :: st) h = am_ev 90 24 (some (.long a) :: some (.retAddr 0) :: ls) (st) h := am_ev_step (q := (24, some (.long a) :: some (.retAddr 0) :: ls, st, h)) _ (.lstore_n 0) 1 am_my_90 (by decide +kernel) rfl
theorem e90_24 {ls : List (Option Value)} {st : List Value} {h : am_H} {a : Int64} : am_ev 90 24 (some (.long a) :: some (.retAddr 0) :: ls) (st) h = am_ev 90 25 (some (.long a) :: some (.retAddr 0) :: ls) (.long a :: st) h := am_ev_step (q := (25, some (.long a) :: some (.retAddr 0) :: ls, .long a :: st, h)) _ (.lload_n 0) 1 am_my_90 (by decide +kernel) rfl
theorem e90_25 {ls : List (Option Value)} {st : List Value} {h : am_H} {a : Int64} : am_ev 90 25 (some (.long a) :: some (.retAddr 0) :: ls) (st) h = am_ev 90 26 (some (.long a) :: some (.retAddr 0) :: ls) (.long a :: st) h := am_ev_step (q := (26, some (.long a) :: some (.retAddr 0) :: ls, .long a :: st, h)) _ (.lload_n 0) 1 am_my_90 (by decide +kernel) rfl
theorem e90_26 {ls : List (Option Value)} {st : List Value} {h : am_H} : am_ev 90 26 (ls) (st) h = am_ev 90 27 (ls) (.int (4) :: st) h := am_ev_step (q := (27, ls, .int (4) :: st, h)) _ (.iconst (4)) 1 am_my_90 (by decide +kernel) rfl
theorem e90_27 {ls : List (Option Value)} {st : List Value} {h : am_H} {a : Int64} {b : Int32} : am_ev 90 27 (ls) (.int b :: .long a :: st) h = am_ev 90 28 (ls) (.long ((a.toUInt64 >>> (b.toInt64.toUInt64 &&& Int64.toUInt64 63)).toInt64) :: st) h := am_ev_step (q := (28, ls, .long ((a.toUInt64 >>> (b.toInt64.toUInt64 &&& Int64.toUInt64 63)).toInt64) :: st, h)) _ (.lushr) 1 am_my_90 (by decide +kernel) rfl
theorem e90_28 {ls : List (Option Value)} {st : List Value} {h : am_H} {a b : Int64} : am_ev 90 28 (ls) (.long b :: .long a :: st) h = am_ev 90 29 (ls) (.long (a + b) :: st) h := am_ev_step (q := (29, ls, .long (a + b) :: st, h)) _ (.ladd) 1 am_my_90 (by decide +kernel) rfl
theorem e90_29 {ls : List (Option Value)} {st : List Value} {h : am_H} : am_ev 90 29 ls st h = am_ev 90 32 ls (.long (1085102592571150095) :: st) h := am_u_ldc2 (idx := 318) am_my_90 (by decide +kernel) (by decide +kernel)
theorem e90_32 {ls : List (Option Value)} {st : List Value} {h : am_H} {a b : Int64} : am_ev 90 32 (ls) (.long b :: .long a :: st) h = am_ev 90 33 (ls) (.long (a &&& b) :: st) h := am_ev_step (q := (33, ls, .long (a &&& b) :: st, h)) _ (.land) 1 am_my_90 (by decide +kernel) rfl
theorem e90_33 {ls : List (Option Value)} {st : List Value} {h : am_H} {z z2 : Option Value} {a : Int64} : am_ev 90 33 (z :: z2 :: ls) (.long a :: st) h = am_ev 90 34 (some (.long a) :: some (.retAddr 0) :: ls) (st) h := am_ev_step (q := (34, some (.long a) :: some (.retAddr 0) :: ls, st, h)) _ (.lstore_n 0) 1 am_my_90 (by decide +kernel) rfl
theorem e90_34 {ls : List (Option Value)} {st : List Value} {h : am_H} {a : Int64} : am_ev 90 34 (some (.long a) :: some (.retAddr 0) :: ls) (st) h = am_ev 90 35 (some (.long a) :: some (.retAddr 0) :: ls) (.long a :: st) h := am_ev_step (q := (35, some (.long a) :: some (.retAddr 0) :: ls, .long a :: st, h)) _ (.lload_n 0) 1 am_my_90 (by decide +kernel) rfl
theorem e90_35 {ls : List (Option Value)} {st : List Value} {h : am_H} {a : Int64} : am_ev 90 35 (some (.long a) :: some (.retAddr 0) :: ls) (st) h = am_ev 90 36 (some (.long a) :: some (.retAddr 0) :: ls) (.long a :: st) h := am_ev_step (q := (36, some (.long a) :: some (.retAddr 0) :: ls, .long a :: st, h)) _ (.lload_n 0) 1 am_my_90 (by decide +kernel) rfl
theorem e90_36 {ls : List (Option Value)} {st : List Value} {h : am_H} : am_ev 90 36 (ls) (st) h = am_ev 90 38 (ls) (.int (8) :: st) h := am_ev_step (q := (38, ls, .int (8) :: st, h)) _ (.bipush (8)) 2 am_my_90 (by decide +kernel) rfl
theorem e90_38 {ls : List (Option Value)} {st : List Value} {h : am_H} {a : Int64} {b : Int32} : am_ev 90 38 (ls) (.int b :: .long a :: st) h = am_ev 90 39 (ls) (.long ((a.toUInt64 >>> (b.toInt64.toUInt64 &&& Int64.toUInt64 63)).toInt64) :: st) h := am_ev_step (q := (39, ls, .long ((a.toUInt64 >>> (b.toInt64.toUInt64 &&& Int64.toUInt64 63)).toInt64) :: st, h)) _ (.lushr) 1 am_my_90 (by decide +kernel) rfl
theorem e90_39 {ls : List (Option Value)} {st : List Value} {h : am_H} {a b : Int64} : am_ev 90 39 (ls) (.long b :: .long a :: st) h = am_ev 90 40 (ls) (.long (a + b) :: st) h := am_ev_step (q := (40, ls, .long (a + b) :: st, h)) _ (.ladd) 1 am_my_90 (by decide +kernel) rfl
theorem e90_40 {ls : List (Option Value)} {st : List Value} {h : am_H} {z z2 : Option Value} {a : Int64} : am_ev 90 40 (z :: z2 :: ls) (.long a :: st) h = am_ev 90 41 (some (.long a) :: some (.retAddr 0) :: ls) (st) h := am_ev_step (q := (41, some (.long a) :: some (.retAddr 0) :: ls, st, h)) _ (.lstore_n 0) 1 am_my_90 (by decide +kernel) rfl
theorem e90_41 {ls : List (Option Value)} {st : List Value} {h : am_H} {a : Int64} : am_ev 90 41 (some (.long a) :: some (.retAddr 0) :: ls) (st) h = am_ev 90 42 (some (.long a) :: some (.retAddr 0) :: ls) (.long a :: st) h := am_ev_step (q := (42, some (.long a) :: some (.retAddr 0) :: ls, .long a :: st, h)) _ (.lload_n 0) 1 am_my_90 (by decide +kernel) rfl
theorem e90_42 {ls : List (Option Value)} {st : List Value} {h : am_H} {a : Int64} : am_ev 90 42 (some (.long a) :: some (.retAddr 0) :: ls) (st) h = am_ev 90 43 (some (.long a) :: some (.retAddr 0) :: ls) (.long a :: st) h := am_ev_step (q := (43, some (.long a) :: some (.retAddr 0) :: ls, .long a :: st, h)) _ (.lload_n 0) 1 am_my_90 (by decide +kernel) rfl
theorem e90_43 {ls : List (Option Value)} {st : List Value} {h : am_H} : am_ev 90 43 (ls) (st) h = am_ev 90 45 (ls) (.int (16) :: st) h := am_ev_step (q := (45, ls, .int (16) :: st, h)) _ (.bipush (16)) 2 am_my_90 (by decide +kernel) rfl
theorem e90_45 {ls : List (Option Value)} {st : List Value} {h : am_H} {a : Int64} {b : Int32} : am_ev 90 45 (ls) (.int b :: .long a :: st) h = am_ev 90 46 (ls) (.long ((a.toUInt64 >>> (b.toInt64.toUInt64 &&& Int64.toUInt64 63)).toInt64) :: st) h := am_ev_step (q := (46, ls, .long ((a.toUInt64 >>> (b.toInt64.toUInt64 &&& Int64.toUInt64 63)).toInt64) :: st, h)) _ (.lushr) 1 am_my_90 (by decide +kernel) rfl
theorem e90_46 {ls : List (Option Value)} {st : List Value} {h : am_H} {a b : Int64} : am_ev 90 46 (ls) (.long b :: .long a :: st) h = am_ev 90 47 (ls) (.long (a + b) :: st) h := am_ev_step (q := (47, ls, .long (a + b) :: st, h)) _ (.ladd) 1 am_my_90 (by decide +kernel) rfl
theorem e90_47 {ls : List (Option Value)} {st : List Value} {h : am_H} {z z2 : Option Value} {a : Int64} : am_ev 90 47 (z :: z2 :: ls) (.long a :: st) h = am_ev 90 48 (some (.long a) :: some (.retAddr 0) :: ls) (st) h := am_ev_step (q := (48, some (.long a) :: some (.retAddr 0) :: ls, st, h)) _ (.lstore_n 0) 1 am_my_90 (by decide +kernel) rfl
theorem e90_48 {ls : List (Option Value)} {st : List Value} {h : am_H} {a : Int64} : am_ev 90 48 (some (.long a) :: some (.retAddr 0) :: ls) (st) h = am_ev 90 49 (some (.long a) :: some (.retAddr 0) :: ls) (.long a :: st) h := am_ev_step (q := (49, some (.long a) :: some (.retAddr 0) :: ls, .long a :: st, h)) _ (.lload_n 0) 1 am_my_90 (by decide +kernel) rfl
theorem e90_49 {ls : List (Option Value)} {st : List Value} {h : am_H} {a : Int64} : am_ev 90 49 (some (.long a) :: some (.retAddr 0) :: ls) (st) h = am_ev 90 50 (some (.long a) :: some (.retAddr 0) :: ls) (.long a :: st) h := am_ev_step (q := (50, some (.long a) :: some (.retAddr 0) :: ls, .long a :: st, h)) _ (.lload_n 0) 1 am_my_90 (by decide +kernel) rfl
theorem e90_50 {ls : List (Option Value)} {st : List Value} {h : am_H} : am_ev 90 50 (ls) (st) h = am_ev 90 52 (ls) (.int (32) :: st) h := am_ev_step (q := (52, ls, .int (32) :: st, h)) _ (.bipush (32)) 2 am_my_90 (by decide +kernel) rfl
theorem e90_52 {ls : List (Option Value)} {st : List Value} {h : am_H} {a : Int64} {b : Int32} : am_ev 90 52 (ls) (.int b :: .long a :: st) h = am_ev 90 53 (ls) (.long ((a.toUInt64 >>> (b.toInt64.toUInt64 &&& Int64.toUInt64 63)).toInt64) :: st) h := am_ev_step (q := (53, ls, .long ((a.toUInt64 >>> (b.toInt64.toUInt64 &&& Int64.toUInt64 63)).toInt64) :: st, h)) _ (.lushr) 1 am_my_90 (by decide +kernel) rfl
theorem e90_53 {ls : List (Option Value)} {st : List Value} {h : am_H} {a b : Int64} : am_ev 90 53 (ls) (.long b :: .long a :: st) h = am_ev 90 54 (ls) (.long (a + b) :: st) h := am_ev_step (q := (54, ls, .long (a + b) :: st, h)) _ (.ladd) 1 am_my_90 (by decide +kernel) rfl
theorem e90_54 {ls : List (Option Value)} {st : List Value} {h : am_H} {z z2 : Option Value} {a : Int64} : am_ev 90 54 (z :: z2 :: ls) (.long a :: st) h = am_ev 90 55 (some (.long a) :: some (.retAddr 0) :: ls) (st) h := am_ev_step (q := (55, some (.long a) :: some (.retAddr 0) :: ls, st, h)) _ (.lstore_n 0) 1 am_my_90 (by decide +kernel) rfl
theorem e90_55 {ls : List (Option Value)} {st : List Value} {h : am_H} {a : Int64} : am_ev 90 55 (some (.long a) :: some (.retAddr 0) :: ls) (st) h = am_ev 90 56 (some (.long a) :: some (.retAddr 0) :: ls) (.long a :: st) h := am_ev_step (q := (56, some (.long a) :: some (.retAddr 0) :: ls, .long a :: st, h)) _ (.lload_n 0) 1 am_my_90 (by decide +kernel) rfl
theorem e90_56 {ls : List (Option Value)} {st : List Value} {h : am_H} {a : Int64} : am_ev 90 56 (ls) (.long a :: st) h = am_ev 90 57 (ls) (.int a.toInt32 :: st) h := am_ev_step (q := (57, ls, .int a.toInt32 :: st, h)) _ (.l2i) 1 am_my_90 (by decide +kernel) rfl
theorem e90_57 {ls : List (Option Value)} {st : List Value} {h : am_H} : am_ev 90 57 (ls) (st) h = am_ev 90 59 (ls) (.int (127) :: st) h := am_ev_step (q := (59, ls, .int (127) :: st, h)) _ (.bipush (127)) 2 am_my_90 (by decide +kernel) rfl
theorem e90_59 {ls : List (Option Value)} {st : List Value} {h : am_H} {a b : Int32} : am_ev 90 59 (ls) (.int b :: .int a :: st) h = am_ev 90 60 (ls) (.int (a &&& b) :: st) h := am_ev_step (q := (60, ls, .int (a &&& b) :: st, h)) _ (.iand) 1 am_my_90 (by decide +kernel) rfl
theorem e90_60 {ls : List (Option Value)} {h : am_H} {v : Int32} : am_ev 90 60 ls [.int v] h = some (some (.int v), h) := am_u_rtI am_my_90 (by decide +kernel) rfl
theorem q_orL (a b : Nat) : lN a ||| lN b = lN (a ||| b) := by
  apply Int64.toBitVec_inj.1
  show BitVec.ofNat 64 a ||| BitVec.ofNat 64 b = BitVec.ofNat 64 (a ||| b)
  apply BitVec.eq_of_getLsbD_eq
  intro i hi
  simp [hi]
theorem q_andL (a b : Nat) : lN a &&& lN b = lN (a &&& b) := by
  apply Int64.toBitVec_inj.1
  show BitVec.ofNat 64 a &&& BitVec.ofNat 64 b = BitVec.ofNat 64 (a &&& b)
  apply BitVec.eq_of_getLsbD_eq
  intro i hi
  simp [hi]
theorem q_lush (m c : Nat) (hm : m < 2 ^ 64) (hc : c < 64) : ((lN m).toUInt64 >>> ((nI c).toInt64.toUInt64 &&& Int64.toUInt64 63)).toInt64 = lN (m / 2 ^ c) := by
  apply Int64.toBitVec_inj.1
  rw [q_ush _ c hc]
  show BitVec.ofNat 64 m >>> c = BitVec.ofNat 64 (m / 2 ^ c)
  apply BitVec.eq_of_toNat_eq
  have h2 : m / 2 ^ c ≤ m := Nat.div_le_self _ _
  rw [BitVec.toNat_ushiftRight, BitVec.toNat_ofNat, BitVec.toNat_ofNat, Nat.mod_eq_of_lt hm, Nat.shiftRight_eq_div_pow, Nat.mod_eq_of_lt (by omega)]
theorem q_and256 (a b c d : Nat) (ha : a < 256) (hc : c < 256) : (a + 256 * b) &&& (c + 256 * d) = (a &&& c) + 256 * (b &&& d) := by
  have h1 : ((a + 256 * b) &&& (c + 256 * d)) % 2 ^ 8 = ((a + 256 * b) % 2 ^ 8) &&& ((c + 256 * d) % 2 ^ 8) := Nat.and_mod_two_pow
  have h2 : ((a + 256 * b) &&& (c + 256 * d)) / 2 ^ 8 = ((a + 256 * b) / 2 ^ 8) &&& ((c + 256 * d) / 2 ^ 8) := Nat.and_div_two_pow
  have e1 : (a + 256 * b) % 2 ^ 8 = a := by omega
  have e2 : (c + 256 * d) % 2 ^ 8 = c := by omega
  have e3 : (a + 256 * b) / 2 ^ 8 = b := by omega
  have e4 : (c + 256 * d) / 2 ^ 8 = d := by omega
  rw [e1, e2] at h1
  rw [e3, e4] at h2
  rw [← h1, ← h2]
  omega
def q_t1 (x M : Nat) : Nat := x - ((x / 2) &&& M)
def q_t2 (x M : Nat) : Nat := (x &&& M) + ((x / 4) &&& M)
def q_t3 (x M : Nat) : Nat := (x + x / 16) &&& M
theorem q_m55 : ∀ v, v < 128 → ∀ t, t < 2 → (v + 128 * t) &&& 0x55 = v &&& 0x55 := by decide +kernel
theorem q_m33 : ∀ v, v < 64 → ∀ t, t < 4 → (v + 64 * t) &&& 0x33 = v &&& 0x33 := by decide +kernel
theorem q_m0f : ∀ v, v < 73 → ∀ t, t < 5 → (v + 16 * t) &&& 0x0f = v &&& 0x0f := by decide +kernel
theorem q_t1_p {lo : Nat} (hi M : Nat) (hl : lo < 256) : q_t1 (lo + 256 * hi) (0x55 + 256 * M) = q_t1 lo 0x55 + 256 * q_t1 hi M := by
  have e : (lo + 256 * hi) / 2 = (lo / 2 + 128 * (hi % 2)) + 256 * (hi / 2) := by omega
  have l1 : (lo / 2) &&& 0x55 ≤ lo / 2 := Nat.and_le_left
  have l2 : (hi / 2) &&& M ≤ hi / 2 := Nat.and_le_left
  unfold q_t1
  rw [e, q_and256 _ _ _ _ (by omega) (by decide), q_m55 (lo / 2) (by omega) (hi % 2) (by omega)]
  omega
theorem q_t2_p {lo : Nat} (hi M : Nat) (hl : lo < 256) : q_t2 (lo + 256 * hi) (0x33 + 256 * M) = q_t2 lo 0x33 + 256 * q_t2 hi M := by
  have e : (lo + 256 * hi) / 4 = (lo / 4 + 64 * (hi % 4)) + 256 * (hi / 4) := by omega
  unfold q_t2
  rw [e, q_and256 _ _ _ _ hl (by decide), q_and256 _ _ _ _ (by omega) (by decide), q_m33 (lo / 4) (by omega) (hi % 4) (by omega)]
  omega
theorem q_t3_p {lo : Nat} (hi M : Nat) (hl : lo < 69) (hh : hi % 16 < 5) : q_t3 (lo + 256 * hi) (0x0f + 256 * M) = q_t3 lo 0x0f + 256 * q_t3 hi M := by
  have e : lo + 256 * hi + (lo + 256 * hi) / 16 = (lo + lo / 16 + 16 * (hi % 16)) + 256 * (hi + hi / 16) := by omega
  unfold q_t3
  rw [e, q_and256 _ _ _ _ (by omega) (by decide), q_m0f (lo + lo / 16) (by omega) (hi % 16) hh]
def q_b8 (b : Nat) : Nat := (b.testBit 0).toNat + (b.testBit 1).toNat + (b.testBit 2).toNat + (b.testBit 3).toNat + (b.testBit 4).toNat + (b.testBit 5).toNat + (b.testBit 6).toNat + (b.testBit 7).toNat
theorem q_by : ∀ b, b < 256 → (q_t1 b 0x55 < 256 ∧ q_t2 (q_t1 b 0x55) 0x33 < 69 ∧ q_t2 (q_t1 b 0x55) 0x33 % 16 < 5 ∧ q_t3 (q_t2 (q_t1 b 0x55) 0x33) 0x0f = q_b8 b) ∧ q_b8 b ≤ 8 := by decide +kernel
def q_bct (m : Nat) : Nat := (q_t3 (q_t2 (q_t1 m 0x5555555555555555) 0x3333333333333333) 0x0f0f0f0f0f0f0f0f)
theorem q_bct_5 (b0 b1 b2 b3 b4 : Nat) (h0 : b0 < 256) (h1 : b1 < 256) (h2 : b2 < 256) (h3 : b3 < 256) (h4 : b4 < 256) : q_bct (b0 + 256 * (b1 + 256 * (b2 + 256 * (b3 + 256 * (b4 + 256 * 0))))) = q_b8 b0 + 256 * (q_b8 b1 + 256 * (q_b8 b2 + 256 * (q_b8 b3 + 256 * (q_b8 b4 + 256 * 0)))) := by
  obtain ⟨⟨u0, v0, w0, z0⟩, -⟩ := q_by b0 h0
  obtain ⟨⟨u1, v1, w1, z1⟩, -⟩ := q_by b1 h1
  obtain ⟨⟨u2, v2, w2, z2⟩, -⟩ := q_by b2 h2
  obtain ⟨⟨u3, v3, w3, z3⟩, -⟩ := q_by b3 h3
  obtain ⟨⟨u4, v4, w4, z4⟩, -⟩ := q_by b4 h4
  unfold q_bct
  have m1 : (0x5555555555555555 : Nat) = 0x55 + 256 * (0x55 + 256 * (0x55 + 256 * (0x55 + 256 * (0x55 + 256 * 0x555555)))) := by decide
  have m2 : (0x3333333333333333 : Nat) = 0x33 + 256 * (0x33 + 256 * (0x33 + 256 * (0x33 + 256 * (0x33 + 256 * 0x333333)))) := by decide
  have m3 : (0x0f0f0f0f0f0f0f0f : Nat) = 0x0f + 256 * (0x0f + 256 * (0x0f + 256 * (0x0f + 256 * (0x0f + 256 * 0x0f0f0f)))) := by decide
  have s1 : q_t1 0 0x555555 = 0 := by decide
  have s2 : q_t2 0 0x333333 = 0 := by decide
  have s3 : q_t3 0 0x0f0f0f = 0 := by decide
  rw [m1, m2, m3, q_t1_p _ _ h0, q_t1_p _ _ h1, q_t1_p _ _ h2, q_t1_p _ _ h3, q_t1_p _ _ h4, s1]
  rw [q_t2_p _ _ u0, q_t2_p _ _ u1, q_t2_p _ _ u2, q_t2_p _ _ u3, q_t2_p _ _ u4, s2]
  rw [q_t3_p _ _ v0 (by omega), q_t3_p _ _ v1 (by omega), q_t3_p _ _ v2 (by omega), q_t3_p _ _ v3 (by omega), q_t3_p _ _ v4 (by omega), s3, z0, z1, z2, z3, z4]
theorem q_tb {m b : Nat} (k : Nat) (h : b = m / 2 ^ (8 * k) % 2 ^ 8) (j : Nat) (hj : j < 8) : b.testBit j = m.testBit (8 * k + j) := by
  rw [h, Nat.testBit_mod_two_pow, Nat.testBit_div_two_pow, Nat.add_comm]
  simp [hj]
def q_pop (m : Nat) : Nat := q_sm (fun c => (m.testBit c).toNat) 0 40
theorem q_dig (p0 p1 p2 p3 p4 x : Nat) (h0 : p0 ≤ 8) (h1 : p1 ≤ 8) (h2 : p2 ≤ 8) (h3 : p3 ≤ 8) (h4 : p4 ≤ 8) (hx : x = p0 + 256 * (p1 + 256 * (p2 + 256 * (p3 + 256 * (p4 + 256 * 0))))) : (x + x / 256 + (x + x / 256) / 65536 + (x + x / 256 + (x + x / 256) / 65536) / 4294967296) % 128 = p0 + p1 + p2 + p3 + p4 := by
  have e1 : x / 256 = p1 + 256 * p2 + 65536 * p3 + 16777216 * p4 := by omega
  have e2 : x + x / 256 = (p0 + p1) + 256 * (p1 + p2) + 65536 * (p2 + p3) + 16777216 * (p3 + p4) + 4294967296 * p4 := by omega
  have e3 : (x + x / 256) / 65536 = (p2 + p3) + 256 * (p3 + p4) + 65536 * p4 := by omega
  have e4 : x + x / 256 + (x + x / 256) / 65536 = (p0 + p1 + p2 + p3) + 256 * (p1 + p2 + p3 + p4) + 65536 * (p2 + p3 + p4) + 16777216 * (p3 + p4) + 4294967296 * p4 := by omega
  have e5 : (x + x / 256 + (x + x / 256) / 65536) / 4294967296 = p4 := by omega
  rw [e5, e4]
  omega
theorem q_bct_pop (m : Nat) (hm : m < 2 ^ 40) : ∃ x, q_bct m = x ∧ x < 2 ^ 40 ∧ (x + x / 256 + (x + x / 256) / 65536 + (x + x / 256 + (x + x / 256) / 65536) / 4294967296) % 128 = q_pop m := by
  let b0 := m / 2 ^ (8 * 0) % 2 ^ 8
  let b1 := m / 2 ^ (8 * 1) % 2 ^ 8
  let b2 := m / 2 ^ (8 * 2) % 2 ^ 8
  let b3 := m / 2 ^ (8 * 3) % 2 ^ 8
  let b4 := m / 2 ^ (8 * 4) % 2 ^ 8
  have l0 : b0 < 256 := by show m / 2 ^ (8 * 0) % 2 ^ 8 < 256; omega
  have l1 : b1 < 256 := by show m / 2 ^ (8 * 1) % 2 ^ 8 < 256; omega
  have l2 : b2 < 256 := by show m / 2 ^ (8 * 2) % 2 ^ 8 < 256; omega
  have l3 : b3 < 256 := by show m / 2 ^ (8 * 3) % 2 ^ 8 < 256; omega
  have l4 : b4 < 256 := by show m / 2 ^ (8 * 4) % 2 ^ 8 < 256; omega
  have em : m = b0 + 256 * (b1 + 256 * (b2 + 256 * (b3 + 256 * (b4 + 256 * 0)))) := by
    show m = m / 2 ^ (8 * 0) % 2 ^ 8 + 256 * (m / 2 ^ (8 * 1) % 2 ^ 8 + 256 * (m / 2 ^ (8 * 2) % 2 ^ 8 + 256 * (m / 2 ^ (8 * 3) % 2 ^ 8 + 256 * (m / 2 ^ (8 * 4) % 2 ^ 8 + 256 * 0))))
    omega
  have p0 := (q_by b0 l0).2
  have p1 := (q_by b1 l1).2
  have p2 := (q_by b2 l2).2
  have p3 := (q_by b3 l3).2
  have p4 := (q_by b4 l4).2
  have bt := q_bct_5 b0 b1 b2 b3 b4 l0 l1 l2 l3 l4
  have ep : q_pop m = q_b8 b0 + q_b8 b1 + q_b8 b2 + q_b8 b3 + q_b8 b4 := by
    have t0 := fun j hj => q_tb (m := m) (b := b0) 0 rfl j hj
    have t1 := fun j hj => q_tb (m := m) (b := b1) 1 rfl j hj
    have t2 := fun j hj => q_tb (m := m) (b := b2) 2 rfl j hj
    have t3 := fun j hj => q_tb (m := m) (b := b3) 3 rfl j hj
    have t4 := fun j hj => q_tb (m := m) (b := b4) 4 rfl j hj
    unfold q_b8 q_pop
    rw [t0 0 (by decide), t0 1 (by decide), t0 2 (by decide), t0 3 (by decide), t0 4 (by decide), t0 5 (by decide), t0 6 (by decide), t0 7 (by decide)]
    rw [t1 0 (by decide), t1 1 (by decide), t1 2 (by decide), t1 3 (by decide), t1 4 (by decide), t1 5 (by decide), t1 6 (by decide), t1 7 (by decide)]
    rw [t2 0 (by decide), t2 1 (by decide), t2 2 (by decide), t2 3 (by decide), t2 4 (by decide), t2 5 (by decide), t2 6 (by decide), t2 7 (by decide)]
    rw [t3 0 (by decide), t3 1 (by decide), t3 2 (by decide), t3 3 (by decide), t3 4 (by decide), t3 5 (by decide), t3 6 (by decide), t3 7 (by decide)]
    rw [t4 0 (by decide), t4 1 (by decide), t4 2 (by decide), t4 3 (by decide), t4 4 (by decide), t4 5 (by decide), t4 6 (by decide), t4 7 (by decide)]
    simp only [q_sm, Nat.zero_add, Nat.mul_zero, Nat.reduceMul, Nat.reduceAdd]
    omega
  rw [← em] at bt
  refine ⟨_, bt, ?_, ?_⟩
  · omega
  · rw [ep]
    exact q_dig _ _ _ _ _ _ p0 p1 p2 p3 p4 rfl
theorem den_lbc (m : Nat) (hm : m < 2 ^ 40) (h : am_H) : am_den 90 [.long (lN m)] h = some (some (.int (nI (q_pop m))), h) := by
  obtain ⟨x, hx, xl, xe⟩ := q_bct_pop m hm
  have u : ∀ c : Nat, c < 64 → ∀ y, y < 2 ^ 64 → ((lN y).toUInt64 >>> ((nI c).toInt64.toUInt64 &&& Int64.toUInt64 63)).toInt64 = lN (y / 2 ^ c) := fun c hc y hy => q_lush y c hy hc
  have u1 := fun y hy => u 1 (by decide) y hy
  have u2 := fun y hy => u 2 (by decide) y hy
  have u4 := fun y hy => u 4 (by decide) y hy
  have u8 := fun y hy => u 8 (by decide) y hy
  have u16 := fun y hy => u 16 (by decide) y hy
  have u32 := fun y hy => u 32 (by decide) y hy
  rw [show nI 1 = 1 from rfl] at u1
  rw [show nI 2 = 2 from rfl] at u2
  rw [show nI 4 = 4 from rfl] at u4
  rw [show nI 8 = 8 from rfl] at u8
  rw [show nI 16 = 16 from rfl] at u16
  rw [show nI 32 = 32 from rfl] at u32
  have k5 : (6148914691236517205 : Int64) = lN 0x5555555555555555 := by decide
  have k3 : (3689348814741910323 : Int64) = lN 0x3333333333333333 := by decide
  have kf : (1085102592571150095 : Int64) = lN 0x0f0f0f0f0f0f0f0f := by decide
  have l1 : (m / 2 ^ 1) &&& 0x5555555555555555 ≤ m / 2 ^ 1 := Nat.and_le_left
  have l1' : (m / 2 ^ 1) &&& 0x5555555555555555 ≤ m := by omega
  have t1 : q_t1 m 0x5555555555555555 ≤ m := Nat.sub_le _ _
  have t1e : m - ((m / 2 ^ 1) &&& 0x5555555555555555) = q_t1 m 0x5555555555555555 := rfl
  have t2l : (q_t1 m 0x5555555555555555) &&& 0x3333333333333333 ≤ q_t1 m 0x5555555555555555 := Nat.and_le_left
  have t2m : (q_t1 m 0x5555555555555555 / 2 ^ 2) &&& 0x3333333333333333 ≤ q_t1 m 0x5555555555555555 / 2 ^ 2 := Nat.and_le_left
  have t2e : ((q_t1 m 0x5555555555555555) &&& 0x3333333333333333) + ((q_t1 m 0x5555555555555555 / 2 ^ 2) &&& 0x3333333333333333) = q_t2 (q_t1 m 0x5555555555555555) 0x3333333333333333 := rfl
  have t2b : q_t2 (q_t1 m 0x5555555555555555) 0x3333333333333333 < 2 ^ 41 := by rw [← t2e]; omega
  have t3e : (q_t2 (q_t1 m 0x5555555555555555) 0x3333333333333333 + q_t2 (q_t1 m 0x5555555555555555) 0x3333333333333333 / 2 ^ 4) &&& 0x0f0f0f0f0f0f0f0f = x := hx
  have a1 := u1 m (by omega)
  have a2 := u2 (q_t1 m 0x5555555555555555) (by omega)
  have a4 := u4 (q_t2 (q_t1 m 0x5555555555555555) 0x3333333333333333) (by omega)
  have a8 := u8 x (by omega)
  have a16 := u16 (x + x / 2 ^ 8) (by omega)
  have a32 := u32 (x + x / 2 ^ 8 + (x + x / 2 ^ 8) / 2 ^ 16) (by omega)
  show am_ev 90 0 [some (.long (lN m)), some (.retAddr 0)] [] h = _
  simp only [e90_0, e90_1, e90_2, e90_3, e90_4, e90_7, e90_8, e90_9, e90_10, e90_11, e90_14, e90_15, e90_16, e90_17, e90_18, e90_21, e90_22, e90_23, e90_24, e90_25, e90_26, e90_27, e90_28, e90_29, e90_32, e90_33, e90_34, e90_35, e90_36, e90_38, e90_39, e90_40, e90_41, e90_42, e90_43, e90_45, e90_46, e90_47, e90_48, e90_49, e90_50, e90_52, e90_53, e90_54, e90_55, e90_56, e90_57, e90_59, e90_60, am_bd_some, Option.toList_some, Option.toList_none, List.cons_append, List.nil_append, am_w8_0, am_w8_1, am_w8_2, am_w8_3, am_w8_4, eq_self, or_true, true_or, am_kd_sI, am_kd_sL, am_kd_sR, am_tc_sI, am_tc_sL, am_tc_sR, am_len_sI, am_len_sL, am_len_sR, am_rfs, if_true, if_false, am_rdL_sI, am_rR_sL, am_rt_cq, am_kd_cq, am_tc_cq, am_len_cq, am_rd_sL, am_rd_sR, am_rdL_sR, k5, k3, kf, a1, q_andL, lN_sub l1', t1e, a2, lN_add, t2e, a4, t3e, a8, a16, a32, lN_i]
  have fin : nI (x + x / 2 ^ 8 + (x + x / 2 ^ 8) / 2 ^ 16 + (x + x / 2 ^ 8 + (x + x / 2 ^ 8) / 2 ^ 16) / 2 ^ 32) &&& 127 = nI (q_pop m) := by
    rw [pk_and _ 7 (by decide)]
    congr 1
    show (x + x / 256 + (x + x / 256) / 65536 + (x + x / 256 + (x + x / 256) / 65536) / 4294967296) % 4294967296 % 128 = _
    rw [← xe]
    exact Nat.mod_mod_of_dvd _ (by decide)
  rw [fin]
