/-! part A3: the reference reads a line of a drive -/
theorem e189_0 {ls : List (Option Value)} {st : List Value} {h : am_H} {a : Nat} : am_ev 189 0 (some (.ref a) :: ls) (st) h = am_ev 189 1 (some (.ref a) :: ls) (.ref a :: st) h := am_ev_step (q := (1, some (.ref a) :: ls, .ref a :: st, h)) _ (.aload_n 0) 1 am_my_189 (by decide +kernel) rfl
theorem e189_1 {ls : List (Option Value)} {st : List Value} {h : am_H} {o : Nat} (hk : am_kd h o = some (.inl 11)) : am_ev 189 1 ls (.ref o :: st) h = am_ev 189 4 ls (va_rf (h.2.2.1 o 19) :: st) h := am_u_gfR (idx := 38) (wn := 5151) (a := 0) am_my_189 (by decide +kernel) (by decide +kernel) (by decide +kernel) hk
theorem e189_4 {ls : List (Option Value)} {st : List Value} {h : am_H} : am_ev 189 4 (ls) (st) h = am_ev 189 5 (ls) (.int (0) :: st) h := am_ev_step (q := (5, ls, .int (0) :: st, h)) _ (.iconst (0)) 1 am_my_189 (by decide +kernel) rfl
theorem e189_5 {ls : List (Option Value)} {st : List Value} {h : am_H} {i : Int32} {a : Nat} (ht : am_tc h a = some 0) : am_ev 189 5 ls (.int i :: .ref a :: st) h = if am_ix i (am_len h a) = true then am_ev 189 6 ls (.int (h.1 a i.toNatClampNeg) :: st) h else none := am_u_rI am_my_189 (by decide +kernel) ht
theorem e189_6 {ls : List (Option Value)} {st : List Value} {h : am_H} {l0 l1 l2 : Option Value} {z : Option Value} {a : Int32} : am_ev 189 6 (l0 :: l1 :: l2 :: z :: ls) (.int a :: st) h = am_ev 189 7 (l0 :: l1 :: l2 :: some (.int a) :: ls) (st) h := am_ev_step (q := (7, l0 :: l1 :: l2 :: some (.int a) :: ls, st, h)) _ (.istore_n 3) 1 am_my_189 (by decide +kernel) rfl
theorem e189_7 {ls : List (Option Value)} {st : List Value} {h : am_H} {l0 l1 l2 : Option Value} {a : Int32} : am_ev 189 7 (l0 :: l1 :: l2 :: some (.int a) :: ls) (st) h = am_ev 189 8 (l0 :: l1 :: l2 :: some (.int a) :: ls) (.int a :: st) h := am_ev_step (q := (8, l0 :: l1 :: l2 :: some (.int a) :: ls, .int a :: st, h)) _ (.iload_n 3) 1 am_my_189 (by decide +kernel) rfl
theorem e189_8 {ls : List (Option Value)} {st : List Value} {h : am_H} {l0 l1 : Option Value} {a : Int32} : am_ev 189 8 (l0 :: l1 :: some (.int a) :: ls) (st) h = am_ev 189 9 (l0 :: l1 :: some (.int a) :: ls) (.int a :: st) h := am_ev_step (q := (9, l0 :: l1 :: some (.int a) :: ls, .int a :: st, h)) _ (.iload_n 2) 1 am_my_189 (by decide +kernel) rfl
theorem e189_9 {ls : List (Option Value)} {st : List Value} {h : am_H} {a b : Int32} : am_ev 189 9 ls (.int b :: .int a :: st) h = if ¬ a = b then am_ev 189 13 ls st h else am_ev 189 12 ls st h := am_u_if2 (c := .ne) (off := 4) am_my_189 (by decide +kernel) (by decide)
theorem e189_12 {ls : List (Option Value)} {h : am_H} : am_ev 189 12 ls [] h = some (none, h) := am_u_rtV am_my_189 (by decide +kernel) rfl
theorem e189_13 {ls : List (Option Value)} {st : List Value} {h : am_H} : am_ev 189 13 (ls) (st) h = am_ev 189 14 (ls) (.int (0) :: st) h := am_ev_step (q := (14, ls, .int (0) :: st, h)) _ (.iconst (0)) 1 am_my_189 (by decide +kernel) rfl
theorem e189_14 {ls : List (Option Value)} {st : List Value} {h : am_H} {l0 l1 l2 l3 : Option Value} {z : Option Value} {a : Int32} : am_ev 189 14 (l0 :: l1 :: l2 :: l3 :: z :: ls) (.int a :: st) h = am_ev 189 16 (l0 :: l1 :: l2 :: l3 :: some (.int a) :: ls) (st) h := am_ev_step (q := (16, l0 :: l1 :: l2 :: l3 :: some (.int a) :: ls, st, h)) _ (.istore 4) 2 am_my_189 (by decide +kernel) rfl
theorem e189_16 {ls : List (Option Value)} {st : List Value} {h : am_H} {l0 l1 l2 l3 : Option Value} {a : Int32} : am_ev 189 16 (l0 :: l1 :: l2 :: l3 :: some (.int a) :: ls) (st) h = am_ev 189 18 (l0 :: l1 :: l2 :: l3 :: some (.int a) :: ls) (.int a :: st) h := am_ev_step (q := (18, l0 :: l1 :: l2 :: l3 :: some (.int a) :: ls, .int a :: st, h)) _ (.iload 4) 2 am_my_189 (by decide +kernel) rfl
theorem e189_18 {ls : List (Option Value)} {st : List Value} {h : am_H} {l0 : Option Value} {a : Int32} : am_ev 189 18 (l0 :: some (.int a) :: ls) (st) h = am_ev 189 19 (l0 :: some (.int a) :: ls) (.int a :: st) h := am_ev_step (q := (19, l0 :: some (.int a) :: ls, .int a :: st, h)) _ (.iload_n 1) 1 am_my_189 (by decide +kernel) rfl
theorem e189_19 {ls : List (Option Value)} {st : List Value} {h : am_H} {a b : Int32} : am_ev 189 19 ls (.int b :: .int a :: st) h = if b ≤ a then am_ev 189 48 ls st h else am_ev 189 22 ls st h := am_u_if2 (c := .ge) (off := 29) am_my_189 (by decide +kernel) (by decide)
theorem e189_22 {ls : List (Option Value)} {st : List Value} {h : am_H} {a : Nat} : am_ev 189 22 (some (.ref a) :: ls) (st) h = am_ev 189 23 (some (.ref a) :: ls) (.ref a :: st) h := am_ev_step (q := (23, some (.ref a) :: ls, .ref a :: st, h)) _ (.aload_n 0) 1 am_my_189 (by decide +kernel) rfl
theorem e189_23 {ls : List (Option Value)} {st : List Value} {h : am_H} {o : Nat} (hk : am_kd h o = some (.inl 11)) : am_ev 189 23 ls (.ref o :: st) h = am_ev 189 26 ls (va_rf (h.2.2.1 o 19) :: st) h := am_u_gfR (idx := 38) (wn := 5151) (a := 0) am_my_189 (by decide +kernel) (by decide +kernel) (by decide +kernel) hk
theorem e189_26 {ls : List (Option Value)} {st : List Value} {h : am_H} : am_ev 189 26 (ls) (st) h = am_ev 189 27 (ls) (.int (1) :: st) h := am_ev_step (q := (27, ls, .int (1) :: st, h)) _ (.iconst (1)) 1 am_my_189 (by decide +kernel) rfl
theorem e189_27 {ls : List (Option Value)} {st : List Value} {h : am_H} {l0 : Option Value} {a : Int32} : am_ev 189 27 (l0 :: some (.int a) :: ls) (st) h = am_ev 189 28 (l0 :: some (.int a) :: ls) (.int a :: st) h := am_ev_step (q := (28, l0 :: some (.int a) :: ls, .int a :: st, h)) _ (.iload_n 1) 1 am_my_189 (by decide +kernel) rfl
theorem e189_28 {ls : List (Option Value)} {st : List Value} {h : am_H} {l0 l1 l2 : Option Value} {a : Int32} : am_ev 189 28 (l0 :: l1 :: l2 :: some (.int a) :: ls) (st) h = am_ev 189 29 (l0 :: l1 :: l2 :: some (.int a) :: ls) (.int a :: st) h := am_ev_step (q := (29, l0 :: l1 :: l2 :: some (.int a) :: ls, .int a :: st, h)) _ (.iload_n 3) 1 am_my_189 (by decide +kernel) rfl
theorem e189_29 {ls : List (Option Value)} {st : List Value} {h : am_H} {a b : Int32} : am_ev 189 29 (ls) (.int b :: .int a :: st) h = am_ev 189 30 (ls) (.int (a * b) :: st) h := am_ev_step (q := (30, ls, .int (a * b) :: st, h)) _ (.imul) 1 am_my_189 (by decide +kernel) rfl
theorem e189_30 {ls : List (Option Value)} {st : List Value} {h : am_H} {a b : Int32} : am_ev 189 30 (ls) (.int b :: .int a :: st) h = am_ev 189 31 (ls) (.int (a + b) :: st) h := am_ev_step (q := (31, ls, .int (a + b) :: st, h)) _ (.iadd) 1 am_my_189 (by decide +kernel) rfl
theorem e189_31 {ls : List (Option Value)} {st : List Value} {h : am_H} {l0 l1 l2 l3 : Option Value} {a : Int32} : am_ev 189 31 (l0 :: l1 :: l2 :: l3 :: some (.int a) :: ls) (st) h = am_ev 189 33 (l0 :: l1 :: l2 :: l3 :: some (.int a) :: ls) (.int a :: st) h := am_ev_step (q := (33, l0 :: l1 :: l2 :: l3 :: some (.int a) :: ls, .int a :: st, h)) _ (.iload 4) 2 am_my_189 (by decide +kernel) rfl
theorem e189_33 {ls : List (Option Value)} {st : List Value} {h : am_H} {a b : Int32} : am_ev 189 33 (ls) (.int b :: .int a :: st) h = am_ev 189 34 (ls) (.int (a + b) :: st) h := am_ev_step (q := (34, ls, .int (a + b) :: st, h)) _ (.iadd) 1 am_my_189 (by decide +kernel) rfl
theorem e189_34 {ls : List (Option Value)} {st : List Value} {h : am_H} {a : Nat} : am_ev 189 34 (some (.ref a) :: ls) (st) h = am_ev 189 35 (some (.ref a) :: ls) (.ref a :: st) h := am_ev_step (q := (35, some (.ref a) :: ls, .ref a :: st, h)) _ (.aload_n 0) 1 am_my_189 (by decide +kernel) rfl
theorem e189_35 {ls : List (Option Value)} {st : List Value} {h : am_H} {o : Nat} (hk : am_kd h o = some (.inl 11)) : am_ev 189 35 ls (.ref o :: st) h = am_ev 189 38 ls (va_rf (h.2.2.1 o 20) :: st) h := am_u_gfR (idx := 41) (wn := 5152) (a := 0) am_my_189 (by decide +kernel) (by decide +kernel) (by decide +kernel) hk
theorem e189_38 {ls : List (Option Value)} {st : List Value} {h : am_H} {l0 l1 l2 l3 : Option Value} {a : Int32} : am_ev 189 38 (l0 :: l1 :: l2 :: l3 :: some (.int a) :: ls) (st) h = am_ev 189 40 (l0 :: l1 :: l2 :: l3 :: some (.int a) :: ls) (.int a :: st) h := am_ev_step (q := (40, l0 :: l1 :: l2 :: l3 :: some (.int a) :: ls, .int a :: st, h)) _ (.iload 4) 2 am_my_189 (by decide +kernel) rfl
theorem e189_40 {ls : List (Option Value)} {st : List Value} {h : am_H} {i : Int32} {a : Nat} (ht : am_tc h a = some 0) : am_ev 189 40 ls (.int i :: .ref a :: st) h = if am_ix i (am_len h a) = true then am_ev 189 41 ls (.int (h.1 a i.toNatClampNeg) :: st) h else none := am_u_rI am_my_189 (by decide +kernel) ht
theorem e189_41 {ls : List (Option Value)} {st : List Value} {h : am_H} {v i : Int32} {a : Nat} (ht : am_tc h a = some 0) : am_ev 189 41 ls (.int v :: .int i :: .ref a :: st) h = if am_ix i (am_len h a) = true then am_ev 189 42 ls st (am_sI h a i.toNatClampNeg v) else none := am_u_wI am_my_189 (by decide +kernel) ht
theorem e189_42 {ls : List (Option Value)} {st : List Value} {h : am_H} {l0 l1 l2 l3 : Option Value} {a : Int32} : am_ev 189 42 (l0 :: l1 :: l2 :: l3 :: some (.int a) :: ls) (st) h = am_ev 189 45 (l0 :: l1 :: l2 :: l3 :: some (.int (a + (1))) :: ls) (st) h := am_ev_step (q := (45, l0 :: l1 :: l2 :: l3 :: some (.int (a + (1))) :: ls, st, h)) _ (.iinc 4 (1)) 3 am_my_189 (by decide +kernel) rfl
theorem e189_45 {ls : List (Option Value)} {st : List Value} {h : am_H} : am_ev 189 45 (ls) (st) h = am_ev 189 16 (ls) (st) h := am_ev_step (q := (16, ls, st, h)) _ (.goto (-29)) 3 am_my_189 (by decide +kernel) rfl
theorem e189_48 {ls : List (Option Value)} {st : List Value} {h : am_H} {a : Nat} : am_ev 189 48 (some (.ref a) :: ls) (st) h = am_ev 189 49 (some (.ref a) :: ls) (.ref a :: st) h := am_ev_step (q := (49, some (.ref a) :: ls, .ref a :: st, h)) _ (.aload_n 0) 1 am_my_189 (by decide +kernel) rfl
theorem e189_49 {ls : List (Option Value)} {st : List Value} {h : am_H} {o : Nat} (hk : am_kd h o = some (.inl 11)) : am_ev 189 49 ls (.ref o :: st) h = am_ev 189 52 ls (va_rf (h.2.2.1 o 19) :: st) h := am_u_gfR (idx := 38) (wn := 5151) (a := 0) am_my_189 (by decide +kernel) (by decide +kernel) (by decide +kernel) hk
theorem e189_52 {ls : List (Option Value)} {st : List Value} {h : am_H} : am_ev 189 52 (ls) (st) h = am_ev 189 53 (ls) (.int (0) :: st) h := am_ev_step (q := (53, ls, .int (0) :: st, h)) _ (.iconst (0)) 1 am_my_189 (by decide +kernel) rfl
theorem e189_53 {ls : List (Option Value)} {st : List Value} {h : am_H} {a : Nat} {i : Int32} : am_ev 189 53 (ls) (.int i :: .ref a :: st) h = am_ev 189 54 (ls) (.int i :: .ref a :: .int i :: .ref a :: st) h := am_ev_step (q := (54, ls, .int i :: .ref a :: .int i :: .ref a :: st, h)) _ (.dup2) 1 am_my_189 (by decide +kernel) rfl
theorem e189_54 {ls : List (Option Value)} {st : List Value} {h : am_H} {i : Int32} {a : Nat} (ht : am_tc h a = some 0) : am_ev 189 54 ls (.int i :: .ref a :: st) h = if am_ix i (am_len h a) = true then am_ev 189 55 ls (.int (h.1 a i.toNatClampNeg) :: st) h else none := am_u_rI am_my_189 (by decide +kernel) ht
theorem e189_55 {ls : List (Option Value)} {st : List Value} {h : am_H} : am_ev 189 55 (ls) (st) h = am_ev 189 56 (ls) (.int (1) :: st) h := am_ev_step (q := (56, ls, .int (1) :: st, h)) _ (.iconst (1)) 1 am_my_189 (by decide +kernel) rfl
theorem e189_56 {ls : List (Option Value)} {st : List Value} {h : am_H} {a b : Int32} : am_ev 189 56 (ls) (.int b :: .int a :: st) h = am_ev 189 57 (ls) (.int (a + b) :: st) h := am_ev_step (q := (57, ls, .int (a + b) :: st, h)) _ (.iadd) 1 am_my_189 (by decide +kernel) rfl
theorem e189_57 {ls : List (Option Value)} {st : List Value} {h : am_H} {v i : Int32} {a : Nat} (ht : am_tc h a = some 0) : am_ev 189 57 ls (.int v :: .int i :: .ref a :: st) h = if am_ix i (am_len h a) = true then am_ev 189 58 ls st (am_sI h a i.toNatClampNeg v) else none := am_u_wI am_my_189 (by decide +kernel) ht
theorem e189_58 {ls : List (Option Value)} {h : am_H} : am_ev 189 58 ls [] h = some (none, h) := am_u_rtV am_my_189 (by decide +kernel) rfl
theorem e188_0 {ls : List (Option Value)} {st : List Value} {h : am_H} {l0 : Option Value} {a : Int64} : am_ev 188 0 (l0 :: some (.long a) :: some (.retAddr 0) :: ls) (st) h = am_ev 188 1 (l0 :: some (.long a) :: some (.retAddr 0) :: ls) (.long a :: st) h := am_ev_step (q := (1, l0 :: some (.long a) :: some (.retAddr 0) :: ls, .long a :: st, h)) _ (.lload_n 1) 1 am_my_188 (by decide +kernel) rfl
theorem e188_1 {ls : List (Option Value)} {st : List Value} {h : am_H} : am_ev 188 1 ls st h = am_ev 188 4 ls (.long (26479) :: st) h := am_u_ldc2 (idx := 205) am_my_188 (by decide +kernel) (by decide +kernel)
theorem e188_4 {ls : List (Option Value)} {st : List Value} {h : am_H} {a b : Int64} : am_ev 188 4 (ls) (.long b :: .long a :: st) h = am_ev 188 5 (ls) (.int (lg_cmp a b) :: st) h := am_ev_step (q := (5, ls, .int (lg_cmp a b) :: st, h)) _ (.lcmp) 1 am_my_188 (by decide +kernel) rfl
theorem e188_5 {ls : List (Option Value)} {st : List Value} {h : am_H} {a : Int32} : am_ev 188 5 ls (.int a :: st) h = if ¬ a = 0 then am_ev 188 12 ls st h else am_ev 188 8 ls st h := am_u_if1 (c := .ne) (off := 7) am_my_188 (by decide +kernel) (by decide)
theorem e188_8 {ls : List (Option Value)} {st : List Value} {h : am_H} : am_ev 188 8 (ls) (st) h = am_ev 188 9 (ls) (.int (0) :: st) h := am_ev_step (q := (9, ls, .int (0) :: st, h)) _ (.iconst (0)) 1 am_my_188 (by decide +kernel) rfl
theorem e188_9 {ls : List (Option Value)} {st : List Value} {h : am_H} : am_ev 188 9 (ls) (st) h = am_ev 188 49 (ls) (st) h := am_ev_step (q := (49, ls, st, h)) _ (.goto (40)) 3 am_my_188 (by decide +kernel) rfl
theorem e188_12 {ls : List (Option Value)} {st : List Value} {h : am_H} {l0 : Option Value} {a : Int64} : am_ev 188 12 (l0 :: some (.long a) :: some (.retAddr 0) :: ls) (st) h = am_ev 188 13 (l0 :: some (.long a) :: some (.retAddr 0) :: ls) (.long a :: st) h := am_ev_step (q := (13, l0 :: some (.long a) :: some (.retAddr 0) :: ls, .long a :: st, h)) _ (.lload_n 1) 1 am_my_188 (by decide +kernel) rfl
theorem e188_13 {ls : List (Option Value)} {st : List Value} {h : am_H} : am_ev 188 13 ls st h = am_ev 188 16 ls (.long (7104869) :: st) h := am_u_ldc2 (idx := 207) am_my_188 (by decide +kernel) (by decide +kernel)
theorem e188_16 {ls : List (Option Value)} {st : List Value} {h : am_H} {a b : Int64} : am_ev 188 16 (ls) (.long b :: .long a :: st) h = am_ev 188 17 (ls) (.int (lg_cmp a b) :: st) h := am_ev_step (q := (17, ls, .int (lg_cmp a b) :: st, h)) _ (.lcmp) 1 am_my_188 (by decide +kernel) rfl
theorem e188_17 {ls : List (Option Value)} {st : List Value} {h : am_H} {a : Int32} : am_ev 188 17 ls (.int a :: st) h = if ¬ a = 0 then am_ev 188 24 ls st h else am_ev 188 20 ls st h := am_u_if1 (c := .ne) (off := 7) am_my_188 (by decide +kernel) (by decide)
theorem e188_20 {ls : List (Option Value)} {st : List Value} {h : am_H} : am_ev 188 20 (ls) (st) h = am_ev 188 21 (ls) (.int (1) :: st) h := am_ev_step (q := (21, ls, .int (1) :: st, h)) _ (.iconst (1)) 1 am_my_188 (by decide +kernel) rfl
theorem e188_21 {ls : List (Option Value)} {st : List Value} {h : am_H} : am_ev 188 21 (ls) (st) h = am_ev 188 49 (ls) (st) h := am_ev_step (q := (49, ls, st, h)) _ (.goto (28)) 3 am_my_188 (by decide +kernel) rfl
theorem e188_24 {ls : List (Option Value)} {st : List Value} {h : am_H} {l0 : Option Value} {a : Int64} : am_ev 188 24 (l0 :: some (.long a) :: some (.retAddr 0) :: ls) (st) h = am_ev 188 25 (l0 :: some (.long a) :: some (.retAddr 0) :: ls) (.long a :: st) h := am_ev_step (q := (25, l0 :: some (.long a) :: some (.retAddr 0) :: ls, .long a :: st, h)) _ (.lload_n 1) 1 am_my_188 (by decide +kernel) rfl
theorem e188_25 {ls : List (Option Value)} {st : List Value} {h : am_H} : am_ev 188 25 ls st h = am_ev 188 28 ls (.long (495873781348) :: st) h := am_u_ldc2 (idx := 209) am_my_188 (by decide +kernel) (by decide +kernel)
theorem e188_28 {ls : List (Option Value)} {st : List Value} {h : am_H} {a b : Int64} : am_ev 188 28 (ls) (.long b :: .long a :: st) h = am_ev 188 29 (ls) (.int (lg_cmp a b) :: st) h := am_ev_step (q := (29, ls, .int (lg_cmp a b) :: st, h)) _ (.lcmp) 1 am_my_188 (by decide +kernel) rfl
theorem e188_29 {ls : List (Option Value)} {st : List Value} {h : am_H} {a : Int32} : am_ev 188 29 ls (.int a :: st) h = if ¬ a = 0 then am_ev 188 36 ls st h else am_ev 188 32 ls st h := am_u_if1 (c := .ne) (off := 7) am_my_188 (by decide +kernel) (by decide)
theorem e188_32 {ls : List (Option Value)} {st : List Value} {h : am_H} : am_ev 188 32 (ls) (st) h = am_ev 188 33 (ls) (.int (2) :: st) h := am_ev_step (q := (33, ls, .int (2) :: st, h)) _ (.iconst (2)) 1 am_my_188 (by decide +kernel) rfl
theorem e188_33 {ls : List (Option Value)} {st : List Value} {h : am_H} : am_ev 188 33 (ls) (st) h = am_ev 188 49 (ls) (st) h := am_ev_step (q := (49, ls, st, h)) _ (.goto (16)) 3 am_my_188 (by decide +kernel) rfl
theorem e188_36 {ls : List (Option Value)} {st : List Value} {h : am_H} {l0 : Option Value} {a : Int64} : am_ev 188 36 (l0 :: some (.long a) :: some (.retAddr 0) :: ls) (st) h = am_ev 188 37 (l0 :: some (.long a) :: some (.retAddr 0) :: ls) (.long a :: st) h := am_ev_step (q := (37, l0 :: some (.long a) :: some (.retAddr 0) :: ls, .long a :: st, h)) _ (.lload_n 1) 1 am_my_188 (by decide +kernel) rfl
theorem e188_37 {ls : List (Option Value)} {st : List Value} {h : am_H} : am_ev 188 37 ls st h = am_ev 188 40 ls (.long (1650549611) :: st) h := am_u_ldc2 (idx := 211) am_my_188 (by decide +kernel) (by decide +kernel)
theorem e188_40 {ls : List (Option Value)} {st : List Value} {h : am_H} {a b : Int64} : am_ev 188 40 (ls) (.long b :: .long a :: st) h = am_ev 188 41 (ls) (.int (lg_cmp a b) :: st) h := am_ev_step (q := (41, ls, .int (lg_cmp a b) :: st, h)) _ (.lcmp) 1 am_my_188 (by decide +kernel) rfl
theorem e188_41 {ls : List (Option Value)} {st : List Value} {h : am_H} {a : Int32} : am_ev 188 41 ls (.int a :: st) h = if ¬ a = 0 then am_ev 188 48 ls st h else am_ev 188 44 ls st h := am_u_if1 (c := .ne) (off := 7) am_my_188 (by decide +kernel) (by decide)
theorem e188_44 {ls : List (Option Value)} {st : List Value} {h : am_H} : am_ev 188 44 (ls) (st) h = am_ev 188 45 (ls) (.int (3) :: st) h := am_ev_step (q := (45, ls, .int (3) :: st, h)) _ (.iconst (3)) 1 am_my_188 (by decide +kernel) rfl
theorem e188_45 {ls : List (Option Value)} {st : List Value} {h : am_H} : am_ev 188 45 (ls) (st) h = am_ev 188 49 (ls) (st) h := am_ev_step (q := (49, ls, st, h)) _ (.goto (4)) 3 am_my_188 (by decide +kernel) rfl
theorem e188_48 {ls : List (Option Value)} {st : List Value} {h : am_H} : am_ev 188 48 (ls) (st) h = am_ev 188 49 (ls) (.int (-1) :: st) h := am_ev_step (q := (49, ls, .int (-1) :: st, h)) _ (.iconst (-1)) 1 am_my_188 (by decide +kernel) rfl
theorem e188_49 {ls : List (Option Value)} {st : List Value} {h : am_H} {l0 l1 l2 l3 : Option Value} {z : Option Value} {a : Int32} : am_ev 188 49 (l0 :: l1 :: l2 :: l3 :: z :: ls) (.int a :: st) h = am_ev 188 51 (l0 :: l1 :: l2 :: l3 :: some (.int a) :: ls) (st) h := am_ev_step (q := (51, l0 :: l1 :: l2 :: l3 :: some (.int a) :: ls, st, h)) _ (.istore 4) 2 am_my_188 (by decide +kernel) rfl
theorem e188_51 {ls : List (Option Value)} {st : List Value} {h : am_H} {l0 l1 l2 l3 : Option Value} {a : Int32} : am_ev 188 51 (l0 :: l1 :: l2 :: l3 :: some (.int a) :: ls) (st) h = am_ev 188 53 (l0 :: l1 :: l2 :: l3 :: some (.int a) :: ls) (.int a :: st) h := am_ev_step (q := (53, l0 :: l1 :: l2 :: l3 :: some (.int a) :: ls, .int a :: st, h)) _ (.iload 4) 2 am_my_188 (by decide +kernel) rfl
theorem e188_53 {ls : List (Option Value)} {st : List Value} {h : am_H} : am_ev 188 53 (ls) (st) h = am_ev 188 54 (ls) (.int (-1) :: st) h := am_ev_step (q := (54, ls, .int (-1) :: st, h)) _ (.iconst (-1)) 1 am_my_188 (by decide +kernel) rfl
theorem e188_54 {ls : List (Option Value)} {st : List Value} {h : am_H} {a b : Int32} : am_ev 188 54 ls (.int b :: .int a :: st) h = if ¬ a = b then am_ev 188 62 ls st h else am_ev 188 57 ls st h := am_u_if2 (c := .ne) (off := 8) am_my_188 (by decide +kernel) (by decide)
theorem e188_57 {ls : List (Option Value)} {st : List Value} {h : am_H} {a : Nat} : am_ev 188 57 (some (.ref a) :: ls) (st) h = am_ev 188 58 (some (.ref a) :: ls) (.ref a :: st) h := am_ev_step (q := (58, some (.ref a) :: ls, .ref a :: st, h)) _ (.aload_n 0) 1 am_my_188 (by decide +kernel) rfl
theorem e188_58 {ls : List (Option Value)} {st : List Value} {h : am_H}  {o : Nat} (hw : am_w8 st ≤ 8) (hk : am_kd h o = some (.inl 11)) : am_ev 188 58 ls (.ref o :: st) h = am_bd (am_den 179 [.ref o] h) (fun v h1 => am_ev 188 61 ls (v.toList ++ st) h1) := am_u_cV (idx := 139) (wn := 6135) (as := []) am_my_188 (by decide +kernel) (Or.inl (by decide +kernel)) am_my_179 (by decide +kernel) rfl ⟨Nat.le_of_ble_eq_true rfl, rfl⟩ (by decide +kernel) hw hk
theorem e188_61 {ls : List (Option Value)} {h : am_H} {v : Int32} (hv : v = 0 ∨ v = 1) : am_ev 188 61 ls [.int v] h = some (some (.int v), h) := am_u_rtZ am_my_188 (by decide +kernel) rfl hv
theorem e188_62 {ls : List (Option Value)} {st : List Value} {h : am_H} {a : Nat} : am_ev 188 62 (some (.ref a) :: ls) (st) h = am_ev 188 63 (some (.ref a) :: ls) (.ref a :: st) h := am_ev_step (q := (63, some (.ref a) :: ls, .ref a :: st, h)) _ (.aload_n 0) 1 am_my_188 (by decide +kernel) rfl
theorem e188_63 {ls : List (Option Value)} {st : List Value} {h : am_H} : am_ev 188 63 (ls) (st) h = am_ev 188 64 (ls) (.int (0) :: st) h := am_ev_step (q := (64, ls, .int (0) :: st, h)) _ (.iconst (0)) 1 am_my_188 (by decide +kernel) rfl
theorem e188_64 {ls : List (Option Value)} {st : List Value} {h : am_H} : am_ev 188 64 (ls) (st) h = am_ev 188 66 (ls) (.int (40) :: st) h := am_ev_step (q := (66, ls, .int (40) :: st, h)) _ (.bipush (40)) 2 am_my_188 (by decide +kernel) rfl
theorem e188_66 {ls : List (Option Value)} {st : List Value} {h : am_H} {l0 l1 l2 : Option Value} {a : Int32} : am_ev 188 66 (l0 :: l1 :: l2 :: some (.int a) :: ls) (st) h = am_ev 188 67 (l0 :: l1 :: l2 :: some (.int a) :: ls) (.int a :: st) h := am_ev_step (q := (67, l0 :: l1 :: l2 :: some (.int a) :: ls, .int a :: st, h)) _ (.iload_n 3) 1 am_my_188 (by decide +kernel) rfl
theorem e188_67 {ls : List (Option Value)} {st : List Value} {h : am_H} {p0 : Int32} {p1 : Int32} {p2 : Int32} {o : Nat} (hw : am_w8 st ≤ 8) (hk : am_kd h o = some (.inl 11)) : am_ev 188 67 ls (.int p2 :: .int p1 :: .int p0 :: .ref o :: st) h = am_bd (am_den 180 [.ref o, .int p0, .int p1, .int p2] h) (fun v h1 => am_ev 188 70 ls (v.toList ++ st) h1) := am_u_cV (idx := 198) (wn := 6139) (as := [.int p0, .int p1, .int p2]) am_my_188 (by decide +kernel) (Or.inl (by decide +kernel)) am_my_180 (by decide +kernel) rfl ⟨Nat.le_of_ble_eq_true rfl, rfl⟩ (by decide +kernel) hw hk
theorem e188_70 {ls : List (Option Value)} {st : List Value} {h : am_H} {a : Nat} : am_ev 188 70 (some (.ref a) :: ls) (st) h = am_ev 188 71 (some (.ref a) :: ls) (.ref a :: st) h := am_ev_step (q := (71, some (.ref a) :: ls, .ref a :: st, h)) _ (.aload_n 0) 1 am_my_188 (by decide +kernel) rfl
theorem e188_71 {ls : List (Option Value)} {st : List Value} {h : am_H}  {o : Nat} (hw : am_w8 st ≤ 8) (hk : am_kd h o = some (.inl 11)) : am_ev 188 71 ls (.ref o :: st) h = am_bd (am_den 173 [.ref o] h) (fun v h1 => am_ev 188 74 ls (v.toList ++ st) h1) := am_u_cV (idx := 151) (wn := 6104) (as := []) am_my_188 (by decide +kernel) (Or.inl (by decide +kernel)) am_my_173 (by decide +kernel) rfl ⟨Nat.le_of_ble_eq_true rfl, rfl⟩ (by decide +kernel) hw hk
theorem e188_74 {ls : List (Option Value)} {st : List Value} {h : am_H} {a : Nat} : am_ev 188 74 (some (.ref a) :: ls) (st) h = am_ev 188 75 (some (.ref a) :: ls) (.ref a :: st) h := am_ev_step (q := (75, some (.ref a) :: ls, .ref a :: st, h)) _ (.aload_n 0) 1 am_my_188 (by decide +kernel) rfl
theorem e188_75 {ls : List (Option Value)} {st : List Value} {h : am_H} {o : Nat} (hk : am_kd h o = some (.inl 11)) : am_ev 188 75 ls (.ref o :: st) h = am_ev 188 78 ls (va_rf (h.2.2.1 o 20) :: st) h := am_u_gfR (idx := 41) (wn := 5152) (a := 0) am_my_188 (by decide +kernel) (by decide +kernel) (by decide +kernel) hk
theorem e188_78 {ls : List (Option Value)} {st : List Value} {h : am_H} : am_ev 188 78 (ls) (st) h = am_ev 188 79 (ls) (.int (1) :: st) h := am_ev_step (q := (79, ls, .int (1) :: st, h)) _ (.iconst (1)) 1 am_my_188 (by decide +kernel) rfl
theorem e188_79 {ls : List (Option Value)} {st : List Value} {h : am_H} : am_ev 188 79 (ls) (st) h = am_ev 188 80 (ls) (.int (-1) :: st) h := am_ev_step (q := (80, ls, .int (-1) :: st, h)) _ (.iconst (-1)) 1 am_my_188 (by decide +kernel) rfl
theorem e188_80 {ls : List (Option Value)} {st : List Value} {h : am_H} {v i : Int32} {a : Nat} (ht : am_tc h a = some 0) : am_ev 188 80 ls (.int v :: .int i :: .ref a :: st) h = if am_ix i (am_len h a) = true then am_ev 188 81 ls st (am_sI h a i.toNatClampNeg v) else none := am_u_wI am_my_188 (by decide +kernel) ht
theorem e188_81 {ls : List (Option Value)} {st : List Value} {h : am_H} {l0 l1 l2 l3 : Option Value} {a : Int32} : am_ev 188 81 (l0 :: l1 :: l2 :: l3 :: some (.int a) :: ls) (st) h = am_ev 188 83 (l0 :: l1 :: l2 :: l3 :: some (.int a) :: ls) (.int a :: st) h := am_ev_step (q := (83, l0 :: l1 :: l2 :: l3 :: some (.int a) :: ls, .int a :: st, h)) _ (.iload 4) 2 am_my_188 (by decide +kernel) rfl
theorem e188_83 {ls : List (Option Value)} {st : List Value} {h : am_H} {a : Int32} : am_ev 188 83 ls (.int a :: st) h = if ¬ a = 0 then am_ev 188 98 ls st h else am_ev 188 86 ls st h := am_u_if1 (c := .ne) (off := 15) am_my_188 (by decide +kernel) (by decide)
theorem e188_86 {ls : List (Option Value)} {st : List Value} {h : am_H} {a : Nat} : am_ev 188 86 (some (.ref a) :: ls) (st) h = am_ev 188 87 (some (.ref a) :: ls) (.ref a :: st) h := am_ev_step (q := (87, some (.ref a) :: ls, .ref a :: st, h)) _ (.aload_n 0) 1 am_my_188 (by decide +kernel) rfl
theorem e188_87 {ls : List (Option Value)} {st : List Value} {h : am_H} : am_ev 188 87 (ls) (st) h = am_ev 188 88 (ls) (.int (1) :: st) h := am_ev_step (q := (88, ls, .int (1) :: st, h)) _ (.iconst (1)) 1 am_my_188 (by decide +kernel) rfl
theorem e188_88 {ls : List (Option Value)} {st : List Value} {h : am_H} : am_ev 188 88 (ls) (st) h = am_ev 188 89 (ls) (.int (0) :: st) h := am_ev_step (q := (89, ls, .int (0) :: st, h)) _ (.iconst (0)) 1 am_my_188 (by decide +kernel) rfl
theorem e188_89 {ls : List (Option Value)} {st : List Value} {h : am_H} : am_ev 188 89 (ls) (st) h = am_ev 188 90 (ls) (.int (3) :: st) h := am_ev_step (q := (90, ls, .int (3) :: st, h)) _ (.iconst (3)) 1 am_my_188 (by decide +kernel) rfl
theorem e188_90 {ls : List (Option Value)} {st : List Value} {h : am_H} {p0 : Int32} {p1 : Int32} {p2 : Int32} {o : Nat} (hw : am_w8 st ≤ 8) (hk : am_kd h o = some (.inl 11)) : am_ev 188 90 ls (.int p2 :: .int p1 :: .int p0 :: .ref o :: st) h = am_bd (am_den 185 [.ref o, .int p0, .int p1, .int p2] h) (fun v h1 => am_ev 188 93 ls (v.toList ++ st) h1) := am_u_cV (idx := 158) (wn := 6159) (as := [.int p0, .int p1, .int p2]) am_my_188 (by decide +kernel) (Or.inl (by decide +kernel)) am_my_185 (by decide +kernel) rfl ⟨Nat.le_of_ble_eq_true rfl, rfl⟩ (by decide +kernel) hw hk
theorem e188_93 {ls : List (Option Value)} {st : List Value} {h : am_H} {a : Int32} : am_ev 188 93 ls (.int a :: st) h = if ¬ a = 0 then am_ev 188 98 ls st h else am_ev 188 96 ls st h := am_u_if1 (c := .ne) (off := 5) am_my_188 (by decide +kernel) (by decide)
theorem e188_96 {ls : List (Option Value)} {st : List Value} {h : am_H} : am_ev 188 96 (ls) (st) h = am_ev 188 97 (ls) (.int (0) :: st) h := am_ev_step (q := (97, ls, .int (0) :: st, h)) _ (.iconst (0)) 1 am_my_188 (by decide +kernel) rfl
theorem e188_97 {ls : List (Option Value)} {h : am_H} {v : Int32} (hv : v = 0 ∨ v = 1) : am_ev 188 97 ls [.int v] h = some (some (.int v), h) := am_u_rtZ am_my_188 (by decide +kernel) rfl hv
theorem e188_98 {ls : List (Option Value)} {st : List Value} {h : am_H} {a : Nat} : am_ev 188 98 (some (.ref a) :: ls) (st) h = am_ev 188 99 (some (.ref a) :: ls) (.ref a :: st) h := am_ev_step (q := (99, some (.ref a) :: ls, .ref a :: st, h)) _ (.aload_n 0) 1 am_my_188 (by decide +kernel) rfl
theorem e188_99 {ls : List (Option Value)} {st : List Value} {h : am_H} {o : Nat} (hk : am_kd h o = some (.inl 11)) : am_ev 188 99 ls (.ref o :: st) h = am_ev 188 102 ls (va_rf (h.2.2.1 o 20) :: st) h := am_u_gfR (idx := 41) (wn := 5152) (a := 0) am_my_188 (by decide +kernel) (by decide +kernel) (by decide +kernel) hk
theorem e188_102 {ls : List (Option Value)} {st : List Value} {h : am_H} : am_ev 188 102 (ls) (st) h = am_ev 188 103 (ls) (.int (0) :: st) h := am_ev_step (q := (103, ls, .int (0) :: st, h)) _ (.iconst (0)) 1 am_my_188 (by decide +kernel) rfl
theorem e188_103 {ls : List (Option Value)} {st : List Value} {h : am_H} {l0 l1 l2 l3 : Option Value} {a : Int32} : am_ev 188 103 (l0 :: l1 :: l2 :: l3 :: some (.int a) :: ls) (st) h = am_ev 188 105 (l0 :: l1 :: l2 :: l3 :: some (.int a) :: ls) (.int a :: st) h := am_ev_step (q := (105, l0 :: l1 :: l2 :: l3 :: some (.int a) :: ls, .int a :: st, h)) _ (.iload 4) 2 am_my_188 (by decide +kernel) rfl
theorem e188_105 {ls : List (Option Value)} {st : List Value} {h : am_H} {v i : Int32} {a : Nat} (ht : am_tc h a = some 0) : am_ev 188 105 ls (.int v :: .int i :: .ref a :: st) h = if am_ix i (am_len h a) = true then am_ev 188 106 ls st (am_sI h a i.toNatClampNeg v) else none := am_u_wI am_my_188 (by decide +kernel) ht
theorem e188_106 {ls : List (Option Value)} {st : List Value} {h : am_H} {a : Nat} : am_ev 188 106 (some (.ref a) :: ls) (st) h = am_ev 188 107 (some (.ref a) :: ls) (.ref a :: st) h := am_ev_step (q := (107, some (.ref a) :: ls, .ref a :: st, h)) _ (.aload_n 0) 1 am_my_188 (by decide +kernel) rfl
theorem e188_107 {ls : List (Option Value)} {st : List Value} {h : am_H} : am_ev 188 107 (ls) (st) h = am_ev 188 108 (ls) (.int (2) :: st) h := am_ev_step (q := (108, ls, .int (2) :: st, h)) _ (.iconst (2)) 1 am_my_188 (by decide +kernel) rfl
theorem e188_108 {ls : List (Option Value)} {st : List Value} {h : am_H} : am_ev 188 108 (ls) (st) h = am_ev 188 110 (ls) (.int (40) :: st) h := am_ev_step (q := (110, ls, .int (40) :: st, h)) _ (.bipush (40)) 2 am_my_188 (by decide +kernel) rfl
theorem e188_110 {ls : List (Option Value)} {st : List Value} {h : am_H} {p0 : Int32} {p1 : Int32} {o : Nat} (hw : am_w8 st ≤ 8) (hk : am_kd h o = some (.inl 11)) : am_ev 188 110 ls (.int p1 :: .int p0 :: .ref o :: st) h = am_bd (am_den 189 [.ref o, .int p0, .int p1] h) (fun v h1 => am_ev 188 113 ls (v.toList ++ st) h1) := am_u_cV (idx := 213) (wn := 6178) (as := [.int p0, .int p1]) am_my_188 (by decide +kernel) (Or.inl (by decide +kernel)) am_my_189 (by decide +kernel) rfl ⟨Nat.le_of_ble_eq_true rfl, rfl⟩ (by decide +kernel) hw hk
theorem e188_113 {ls : List (Option Value)} {st : List Value} {h : am_H} : am_ev 188 113 (ls) (st) h = am_ev 188 114 (ls) (.int (1) :: st) h := am_ev_step (q := (114, ls, .int (1) :: st, h)) _ (.iconst (1)) 1 am_my_188 (by decide +kernel) rfl
theorem e188_114 {ls : List (Option Value)} {h : am_H} {v : Int32} (hv : v = 0 ∨ v = 1) : am_ev 188 114 ls [.int v] h = some (some (.int v), h) := am_u_rtZ am_my_188 (by decide +kernel) rfl hv
theorem q_nmul (a b : Nat) : nI a * nI b = nI (a * b) := (Int32.ofNat_mul a b).symm
theorem m_nm.r {t : Nat → Nat} {L : Nat} {g : am_H} {e : Nat} {r : List Nat} {q1 : Nat × Nat} {off : Nat} {T : Nat → Int32} {fx fy : Int32} {h : am_H} {i : Nat} (H : m_nm t L g e r q1 off T fx fy h i) (k : Nat) (v : Int32) (hk : k < off ∨ off + i ≤ k) : m_nm t L g e r q1 off T fx fy (am_sI h 222 k v) i := by
  obtain ⟨S, N, G, E, X, Y⟩ := H
  refine ⟨S.sI 222 k v (by omega), fun j hj => ⟨(N j hj).1, ?_⟩, ?_, fun j => ?_, ?_, ?_⟩
  · rw [c_rw, if_neg (by omega)]; exact (N j hj).2
  · rw [c_ne _ _ _ _ _ _ (by decide)]; exact G
  · rw [c_ne _ _ _ _ _ _ (by decide)]; exact E j
  · rw [c_ne _ _ _ _ _ _ (by decide)]; exact X
  · rw [c_ne _ _ _ _ _ _ (by decide)]; exact Y
theorem m_nm.cT {t : Nat → Nat} {L : Nat} {g : am_H} {e : Nat} {r : List Nat} {q1 : Nat × Nat} {off : Nat} {T T' : Nat → Int32} {fx fy : Int32} {h : am_H} {i : Nat} (H : m_nm t L g e r q1 off T fx fy h i) (hT : ∀ j, T j = T' j) : m_nm t L g e r q1 off T' fx fy h i := by
  have : T = T' := funext hT
  rw [← this]
  exact H
/-- a row is kept -/
def k_P (T : Nat → Int32) (b : Nat) (R : Nat → Int32) (i : Nat) : Nat → Int32 := fun j => if b ≤ j ∧ j < b + i then R (j - b) else T j
def k_T (T : Nat → Int32) (wide n : Nat) (R : Nat → Int32) : Nat → Int32 := fun j => if j = 0 then nI (n + 1) else k_P T (1 + wide * n) R wide j
theorem k_T_in (T : Nat → Int32) (wide n : Nat) (R : Nat → Int32) (x : Nat) (hx : x < wide) : k_T T wide n R (1 + wide * n + x) = R x := by
  unfold k_T k_P
  rw [if_neg (by omega), if_pos (by omega)]
  congr 1
  omega
theorem k_T_out (T : Nat → Int32) (wide n : Nat) (R : Nat → Int32) (j : Nat) (h0 : j ≠ 0) (hj : j < 1 + wide * n ∨ 1 + wide * n + wide ≤ j) : k_T T wide n R j = T j := by
  unfold k_T k_P
  rw [if_neg h0, if_neg (by omega)]
theorem m_kl {t : Nat → Nat} {L : Nat} {g : am_H} {e : Nat} {r : List Nat} {q1 : Nat × Nat} {off : Nat} {T : Nat → Int32} {fx fy : Int32} {m : Nat} (wide n : Nat) (most : Int32) (hw : wide ≤ 6) (hb : 1 + wide * n + wide ≤ 81) (R : Nat → Int32) : ∀ (w i : Nat) (h : am_H), i + w = wide → m_nm t L g e r q1 off (k_P T (1 + wide * n) R i) fx fy h m → (∀ j, j < wide → h.1 222 j = R j) → ∃ h' : am_H, am_ev 189 16 [some (.ref 211), some (.int (nI wide)), some (.int most), some (.int (nI n)), some (.int (nI i))] [] h = am_ev 189 48 [some (.ref 211), some (.int (nI wide)), some (.int most), some (.int (nI n)), some (.int (nI wide))] [] h' ∧ m_nm t L g e r q1 off (k_P T (1 + wide * n) R wide) fx fy h' m := by
  intro w
  induction w with
  | zero =>
    intro i h hi H hR
    have ei : i = wide := by omega
    have h1 : nI wide ≤ nI i := by rw [ei]; exact Int32.le_refl _
    refine ⟨h, ?_, ei ▸ H⟩
    simp only [e189_0, e189_1, e189_4, e189_5, e189_6, e189_7, e189_8, e189_9, e189_12, e189_13, e189_14, e189_16, e189_18, e189_19, e189_22, e189_23, e189_26, e189_27, e189_28, e189_29, e189_30, e189_31, e189_33, e189_34, e189_35, e189_38, e189_40, e189_41, e189_42, e189_45, e189_49, e189_52, e189_53, e189_54, e189_55, e189_56, e189_57, e189_58, am_bd_some, Option.toList_some, Option.toList_none, List.cons_append, List.nil_append, am_w8_0, am_w8_1, am_w8_2, am_w8_3, am_w8_4, eq_self, or_true, true_or, am_kd_sI, am_kd_sL, am_kd_sR, am_tc_sI, am_tc_sL, am_tc_sR, am_len_sI, am_len_sL, am_len_sR, am_rfs, if_true, if_false, am_rdL_sI, am_rR_sL, am_rt_cq, am_kd_cq, am_tc_cq, am_len_cq, am_rd_sL, am_rd_sR, am_rdL_sR, h1]
    rw [ei]
  | succ w ih =>
    intro i h hi H hR
    have ok := H.1.1.1
    have h1 : ¬ nI wide ≤ nI i := nI_ge (by omega) (by omega)
    have e1 : (1 : Int32) + nI wide * nI n + nI i = nI (1 + wide * n + i) := by
      have a : (1 : Int32) = nI 1 := rfl
      rw [q_nmul, a, nI_add, nI_add]
    have x1 : am_ix (nI (1 + wide * n + i)) 81 = true := am_ix_nI (by omega) (by decide)
    have z1 : (nI (1 + wide * n + i)).toNatClampNeg = 1 + wide * n + i := nI_clamp (by omega)
    have x2 : am_ix (nI i) 6 = true := am_ix_nI (by omega) (by decide)
    have z2 : (nI i).toNatClampNeg = i := nI_clamp (by omega)
    have rv := hR i (by omega)
    have H1 := (H.w (1 + wide * n + i) (R i)).cT (T' := k_P T (1 + wide * n) R (i + 1)) (fun j => by
      show (if j = 1 + wide * n + i then R i else if 1 + wide * n ≤ j ∧ j < 1 + wide * n + i then R (j - (1 + wide * n)) else T j) = if 1 + wide * n ≤ j ∧ j < 1 + wide * n + (i + 1) then R (j - (1 + wide * n)) else T j
      by_cases c : j = 1 + wide * n + i
      · rw [if_pos c, if_pos (by omega)]
        congr 1
        omega
      · rw [if_neg c]
        by_cases c2 : 1 + wide * n ≤ j ∧ j < 1 + wide * n + i
        · rw [if_pos c2, if_pos (by omega)]
        · rw [if_neg c2, if_neg (by omega)])
    obtain ⟨h', s', H'⟩ := ih (i + 1) _ (by omega) H1 (fun j hj => by rw [c_ne _ _ _ _ _ _ (by decide)]; exact hR j hj)
    refine ⟨h', ?_, H'⟩
    rw [← s', e189_16]
    simp only [e189_0, e189_1, e189_4, e189_5, e189_6, e189_7, e189_8, e189_9, e189_12, e189_13, e189_14, e189_18, e189_19, e189_22, e189_23, e189_26, e189_27, e189_28, e189_29, e189_30, e189_31, e189_33, e189_34, e189_35, e189_38, e189_40, e189_41, e189_42, e189_45, e189_49, e189_52, e189_53, e189_54, e189_55, e189_56, e189_57, e189_58, am_bd_some, Option.toList_some, Option.toList_none, List.cons_append, List.nil_append, am_w8_0, am_w8_1, am_w8_2, am_w8_3, am_w8_4, eq_self, or_true, true_or, am_kd_sI, am_kd_sL, am_kd_sR, am_tc_sI, am_tc_sL, am_tc_sR, am_len_sI, am_len_sL, am_len_sR, am_rfs, if_true, if_false, am_rdL_sI, am_rR_sL, am_rt_cq, am_kd_cq, am_tc_cq, am_len_cq, am_rd_sL, am_rd_sR, am_rdL_sR, h1, okK_211 ok, okR_211_19 ok, okR_211_20 ok, okT_221 ok, okL_221 ok, okT_222 ok, okL_222 ok, e1, x1, z1, x2, z2, rv, nI_1]
theorem m_keep {t : Nat → Nat} {L : Nat} {g : am_H} {e : Nat} {r : List Nat} {q1 : Nat × Nat} {off : Nat} {T : Nat → Int32} {fx fy : Int32} {h : am_H} {m : Nat} (H : m_nm t L g e r q1 off T fx fy h m) (wide most n : Nat) (hw : wide ≤ 6) (hn : n ≤ most) (hm : most < 100) (hb : n < most → 1 + wide * n + wide ≤ 81) (e0 : T 0 = nI n) (R : Nat → Int32) (hR : ∀ j, j < wide → h.1 222 j = R j) : ∃ h' : am_H, am_den 189 [.ref 211, .int (nI wide), .int (nI most)] h = some (none, h') ∧ m_nm t L g e r q1 off (if n = most then T else k_T T wide n R) fx fy h' m := by
  have ok := H.1.1.1
  have x0 : am_ix 0 81 = true := by decide
  have z0 : (0 : Int32).toNatClampNeg = 0 := rfl
  have v0 := (H.2.2.2.1 0).trans e0
  have q1 : nI n = nI most ↔ n = most := nI_eq (by omega) (by omega)
  by_cases c : n = most
  · have c' := eq_true (q1.mpr c)
    refine ⟨h, ?_, by rw [if_pos c]; exact H⟩
    show am_ev 189 0 [some (.ref 211), some (.int (nI wide)), some (.int (nI most)), none, none] [] h = _
    simp only [e189_0, e189_1, e189_4, e189_5, e189_6, e189_7, e189_8, e189_9, e189_12, e189_13, e189_14, e189_16, e189_18, e189_19, e189_22, e189_23, e189_26, e189_27, e189_28, e189_29, e189_30, e189_31, e189_33, e189_34, e189_35, e189_38, e189_40, e189_41, e189_42, e189_45, e189_48, e189_49, e189_52, e189_53, e189_54, e189_55, e189_56, e189_57, e189_58, am_bd_some, Option.toList_some, Option.toList_none, List.cons_append, List.nil_append, am_w8_0, am_w8_1, am_w8_2, am_w8_3, am_w8_4, eq_self, or_true, true_or, am_kd_sI, am_kd_sL, am_kd_sR, am_tc_sI, am_tc_sL, am_tc_sR, am_len_sI, am_len_sL, am_len_sR, am_rfs, if_true, if_false, am_rdL_sI, am_rR_sL, am_rt_cq, am_kd_cq, am_tc_cq, am_len_cq, am_rd_sL, am_rd_sR, am_rdL_sR, okK_211 ok, okR_211_19 ok, okT_221 ok, okL_221 ok, x0, z0, v0, c', not_true]
  · have c' := eq_false (fun w => c (q1.mp w))
    have H0 := H.cT (T' := k_P T (1 + wide * n) R 0) (fun j => (if_neg (by omega)).symm)
    obtain ⟨h1, s1, H1⟩ := m_kl wide n (nI most) hw (hb (by omega)) R wide 0 h (Nat.zero_add _) H0 hR
    have ok1 := H1.1.1.1
    have v1 : h1.1 221 0 = nI n := by
      rw [H1.2.2.2.1 0]
      show (if 1 + wide * n ≤ 0 ∧ 0 < 1 + wide * n + wide then R (0 - (1 + wide * n)) else T 0) = _
      rw [if_neg (by omega)]
      exact e0
    have H2 := H1.w 0 (nI (n + 1))
    refine ⟨_, ?_, by rw [if_neg c]; exact H2⟩
    show am_ev 189 0 [some (.ref 211), some (.int (nI wide)), some (.int (nI most)), none, none] [] h = _
    have s0 : am_ev 189 0 [some (.ref 211), some (.int (nI wide)), some (.int (nI most)), none, none] [] h = am_ev 189 16 [some (.ref 211), some (.int (nI wide)), some (.int (nI most)), some (.int (nI n)), some (.int (nI 0))] [] h := by
      simp only [e189_0, e189_1, e189_4, e189_5, e189_6, e189_7, e189_8, e189_9, e189_12, e189_13, e189_14, e189_18, e189_19, e189_22, e189_23, e189_26, e189_27, e189_28, e189_29, e189_30, e189_31, e189_33, e189_34, e189_35, e189_38, e189_40, e189_41, e189_42, e189_45, e189_48, e189_49, e189_52, e189_53, e189_54, e189_55, e189_56, e189_57, e189_58, am_bd_some, Option.toList_some, Option.toList_none, List.cons_append, List.nil_append, am_w8_0, am_w8_1, am_w8_2, am_w8_3, am_w8_4, eq_self, or_true, true_or, am_kd_sI, am_kd_sL, am_kd_sR, am_tc_sI, am_tc_sL, am_tc_sR, am_len_sI, am_len_sL, am_len_sR, am_rfs, if_true, if_false, am_rdL_sI, am_rR_sL, am_rt_cq, am_kd_cq, am_tc_cq, am_len_cq, am_rd_sL, am_rd_sR, am_rdL_sR, okK_211 ok, okR_211_19 ok, okT_221 ok, okL_221 ok, x0, z0, v0, c', not_false_eq_true]
      rfl
    rw [s0, s1]
    simp only [e189_0, e189_1, e189_4, e189_5, e189_6, e189_7, e189_8, e189_9, e189_12, e189_13, e189_14, e189_16, e189_18, e189_19, e189_22, e189_23, e189_26, e189_27, e189_28, e189_29, e189_30, e189_31, e189_33, e189_34, e189_35, e189_38, e189_40, e189_41, e189_42, e189_45, e189_48, e189_49, e189_52, e189_53, e189_54, e189_55, e189_56, e189_57, e189_58, am_bd_some, Option.toList_some, Option.toList_none, List.cons_append, List.nil_append, am_w8_0, am_w8_1, am_w8_2, am_w8_3, am_w8_4, eq_self, or_true, true_or, am_kd_sI, am_kd_sL, am_kd_sR, am_tc_sI, am_tc_sL, am_tc_sR, am_len_sI, am_len_sL, am_len_sR, am_rfs, if_true, if_false, am_rdL_sI, am_rR_sL, am_rt_cq, am_kd_cq, am_tc_cq, am_len_cq, am_rd_sL, am_rd_sR, am_rdL_sR, okK_211 ok1, okR_211_19 ok1, okT_221 ok1, okL_221 ok1, x0, z0, v1, nI_1]
/-! drives -/
def d_mm (T : Nat → Int32) (d : q_Dr) : Prop := T 0 = nI d.1 ∧ ∀ k, k < d.1 → T (1 + 2 * k) = nI (if d.2 k < 4 then 0 else d.2 k - 3) ∧ T (2 + 2 * k) = if d.2 k < 4 then nI (d.2 k) else -1
def d_mr (h : am_H) (d : q_Dr) : Prop := d_mm (fun k => h.1 221 k) d ∧ d.1 ≤ 40
def d_mw (h : am_H) : Prop := ∃ n, n ≤ 40 ∧ h.1 221 0 = nI n
def d_W (W : Nat) : Int32 := if W = 26479 then 0 else if W = 7104869 then 1 else if W = 495873781348 then 2 else if W = 1650549611 then 3 else -1
theorem m_d0 (W : Nat) (hW : W < 2 ^ 64) (s : Int32) (h : am_H) : am_ev 188 0 [some (.ref 211), some (.long (lN W)), some (.retAddr 0), some (.int s), none] [] h = am_ev 188 51 [some (.ref 211), some (.long (lN W)), some (.retAddr 0), some (.int s), some (.int (d_W W))] [] h := by
  have q1 : lg_cmp (lN W) 26479 = 0 ↔ W = 26479 := m_lg (c := 26479) hW (by decide)
  have q2 : lg_cmp (lN W) 7104869 = 0 ↔ W = 7104869 := m_lg (c := 7104869) hW (by decide)
  have q3 : lg_cmp (lN W) 495873781348 = 0 ↔ W = 495873781348 := m_lg (c := 495873781348) hW (by decide)
  have q4 : lg_cmp (lN W) 1650549611 = 0 ↔ W = 1650549611 := m_lg (c := 1650549611) hW (by decide)
  unfold d_W
  by_cases c1 : W = 26479
  · have c1' := eq_true (q1.mpr c1)
    rw [if_pos c1]
    simp only [e188_0, e188_1, e188_4, e188_5, e188_8, e188_9, e188_12, e188_13, e188_16, e188_17, e188_20, e188_21, e188_24, e188_25, e188_28, e188_29, e188_32, e188_33, e188_36, e188_37, e188_40, e188_41, e188_44, e188_45, e188_48, e188_49, e188_53, e188_54, e188_57, e188_58, e188_61, e188_62, e188_63, e188_64, e188_66, e188_67, e188_70, e188_71, e188_74, e188_75, e188_78, e188_79, e188_80, e188_81, e188_83, e188_86, e188_87, e188_88, e188_89, e188_90, e188_93, e188_96, e188_97, e188_98, e188_99, e188_102, e188_103, e188_105, e188_106, e188_107, e188_108, e188_110, e188_113, e188_114, am_bd_some, Option.toList_some, Option.toList_none, List.cons_append, List.nil_append, am_w8_0, am_w8_1, am_w8_2, am_w8_3, am_w8_4, eq_self, or_true, true_or, am_kd_sI, am_kd_sL, am_kd_sR, am_tc_sI, am_tc_sL, am_tc_sR, am_len_sI, am_len_sL, am_len_sR, am_rfs, if_true, if_false, am_rdL_sI, am_rR_sL, am_rt_cq, am_kd_cq, am_tc_cq, am_len_cq, am_rd_sL, am_rd_sR, am_rdL_sR, c1', not_true]
  have c1' := eq_false (fun w => c1 (q1.mp w))
  rw [if_neg c1]
  by_cases c2 : W = 7104869
  · have c2' := eq_true (q2.mpr c2)
    rw [if_pos c2]
    simp only [e188_0, e188_1, e188_4, e188_5, e188_8, e188_9, e188_12, e188_13, e188_16, e188_17, e188_20, e188_21, e188_24, e188_25, e188_28, e188_29, e188_32, e188_33, e188_36, e188_37, e188_40, e188_41, e188_44, e188_45, e188_48, e188_49, e188_53, e188_54, e188_57, e188_58, e188_61, e188_62, e188_63, e188_64, e188_66, e188_67, e188_70, e188_71, e188_74, e188_75, e188_78, e188_79, e188_80, e188_81, e188_83, e188_86, e188_87, e188_88, e188_89, e188_90, e188_93, e188_96, e188_97, e188_98, e188_99, e188_102, e188_103, e188_105, e188_106, e188_107, e188_108, e188_110, e188_113, e188_114, am_bd_some, Option.toList_some, Option.toList_none, List.cons_append, List.nil_append, am_w8_0, am_w8_1, am_w8_2, am_w8_3, am_w8_4, eq_self, or_true, true_or, am_kd_sI, am_kd_sL, am_kd_sR, am_tc_sI, am_tc_sL, am_tc_sR, am_len_sI, am_len_sL, am_len_sR, am_rfs, if_true, if_false, am_rdL_sI, am_rR_sL, am_rt_cq, am_kd_cq, am_tc_cq, am_len_cq, am_rd_sL, am_rd_sR, am_rdL_sR, c1', c2', not_true, not_false_eq_true]
  have c2' := eq_false (fun w => c2 (q2.mp w))
  rw [if_neg c2]
  by_cases c3 : W = 495873781348
  · have c3' := eq_true (q3.mpr c3)
    rw [if_pos c3]
    simp only [e188_0, e188_1, e188_4, e188_5, e188_8, e188_9, e188_12, e188_13, e188_16, e188_17, e188_20, e188_21, e188_24, e188_25, e188_28, e188_29, e188_32, e188_33, e188_36, e188_37, e188_40, e188_41, e188_44, e188_45, e188_48, e188_49, e188_53, e188_54, e188_57, e188_58, e188_61, e188_62, e188_63, e188_64, e188_66, e188_67, e188_70, e188_71, e188_74, e188_75, e188_78, e188_79, e188_80, e188_81, e188_83, e188_86, e188_87, e188_88, e188_89, e188_90, e188_93, e188_96, e188_97, e188_98, e188_99, e188_102, e188_103, e188_105, e188_106, e188_107, e188_108, e188_110, e188_113, e188_114, am_bd_some, Option.toList_some, Option.toList_none, List.cons_append, List.nil_append, am_w8_0, am_w8_1, am_w8_2, am_w8_3, am_w8_4, eq_self, or_true, true_or, am_kd_sI, am_kd_sL, am_kd_sR, am_tc_sI, am_tc_sL, am_tc_sR, am_len_sI, am_len_sL, am_len_sR, am_rfs, if_true, if_false, am_rdL_sI, am_rR_sL, am_rt_cq, am_kd_cq, am_tc_cq, am_len_cq, am_rd_sL, am_rd_sR, am_rdL_sR, c1', c2', c3', not_true, not_false_eq_true]
  have c3' := eq_false (fun w => c3 (q3.mp w))
  rw [if_neg c3]
  by_cases c4 : W = 1650549611
  · have c4' := eq_true (q4.mpr c4)
    rw [if_pos c4]
    simp only [e188_0, e188_1, e188_4, e188_5, e188_8, e188_9, e188_12, e188_13, e188_16, e188_17, e188_20, e188_21, e188_24, e188_25, e188_28, e188_29, e188_32, e188_33, e188_36, e188_37, e188_40, e188_41, e188_44, e188_45, e188_48, e188_49, e188_53, e188_54, e188_57, e188_58, e188_61, e188_62, e188_63, e188_64, e188_66, e188_67, e188_70, e188_71, e188_74, e188_75, e188_78, e188_79, e188_80, e188_81, e188_83, e188_86, e188_87, e188_88, e188_89, e188_90, e188_93, e188_96, e188_97, e188_98, e188_99, e188_102, e188_103, e188_105, e188_106, e188_107, e188_108, e188_110, e188_113, e188_114, am_bd_some, Option.toList_some, Option.toList_none, List.cons_append, List.nil_append, am_w8_0, am_w8_1, am_w8_2, am_w8_3, am_w8_4, eq_self, or_true, true_or, am_kd_sI, am_kd_sL, am_kd_sR, am_tc_sI, am_tc_sL, am_tc_sR, am_len_sI, am_len_sL, am_len_sR, am_rfs, if_true, if_false, am_rdL_sI, am_rR_sL, am_rt_cq, am_kd_cq, am_tc_cq, am_len_cq, am_rd_sL, am_rd_sR, am_rdL_sR, c1', c2', c3', c4', not_true, not_false_eq_true]
  have c4' := eq_false (fun w => c4 (q4.mp w))
  rw [if_neg c4]
  simp only [e188_0, e188_1, e188_4, e188_5, e188_8, e188_9, e188_12, e188_13, e188_16, e188_17, e188_20, e188_21, e188_24, e188_25, e188_28, e188_29, e188_32, e188_33, e188_36, e188_37, e188_40, e188_41, e188_44, e188_45, e188_48, e188_49, e188_53, e188_54, e188_57, e188_58, e188_61, e188_62, e188_63, e188_64, e188_66, e188_67, e188_70, e188_71, e188_74, e188_75, e188_78, e188_79, e188_80, e188_81, e188_83, e188_86, e188_87, e188_88, e188_89, e188_90, e188_93, e188_96, e188_97, e188_98, e188_99, e188_102, e188_103, e188_105, e188_106, e188_107, e188_108, e188_110, e188_113, e188_114, am_bd_some, Option.toList_some, Option.toList_none, List.cons_append, List.nil_append, am_w8_0, am_w8_1, am_w8_2, am_w8_3, am_w8_4, eq_self, or_true, true_or, am_kd_sI, am_kd_sL, am_kd_sR, am_tc_sI, am_tc_sL, am_tc_sR, am_len_sI, am_len_sL, am_len_sR, am_rfs, if_true, if_false, am_rdL_sI, am_rR_sL, am_rt_cq, am_kd_cq, am_tc_cq, am_len_cq, am_rd_sL, am_rd_sR, am_rdL_sR, c1', c2', c3', c4', not_false_eq_true]
def d_de (c : Nat) : Nat := if c < 4 then 0 else c - 3
theorem d_Wk : ∀ i, i < 18 → ln_s i = 1 → d_W (ln_k i) = nI (d_de (ln_c i)) := by decide +kernel
theorem m_dl_n {t : Nat → Nat} {L : Nat} {g h : am_H} {s : Nat} {q : Nat × Nat} (H : m_st t L g h s q s) (W : Nat) (hW : W < 2 ^ 64) (hn : ∀ j, j < 18 → ln_s j = 1 → W ≠ ln_k j) : ∃ h' : am_H, am_den 188 [.ref 211, .long (lN W), .int (nI s)] h = some (some (.int 0), h') ∧ m_bk g h' s := by
  have ok := H.1.1
  obtain ⟨h', d, b⟩ := m_fails H
  have n0 : W ≠ 26479 := hn 8 (by decide) (by decide +kernel)
  have n1 : W ≠ 7104869 := hn 9 (by decide) (by decide +kernel)
  have n2 : W ≠ 495873781348 := hn 10 (by decide) (by decide +kernel)
  have n3 : W ≠ 1650549611 := hn 11 (by decide) (by decide +kernel)
  have kb : d_W W = -1 := by
    unfold d_W
    rw [if_neg n0, if_neg n1, if_neg n2, if_neg n3]
  have y : ((-1 : Int32) = -1) = True := eq_true rfl
  have o0 : (0 : Int32) = 0 ∨ (0 : Int32) = 1 := Or.inl rfl
  refine ⟨h', ?_, b⟩
  show am_ev 188 0 [some (.ref 211), some (.long (lN W)), some (.retAddr 0), some (.int (nI s)), none] [] h = _
  rw [m_d0 W hW, kb]
  simp only [e188_0, e188_1, e188_4, e188_5, e188_8, e188_9, e188_12, e188_13, e188_16, e188_17, e188_20, e188_21, e188_24, e188_25, e188_28, e188_29, e188_32, e188_33, e188_36, e188_37, e188_40, e188_41, e188_44, e188_45, e188_48, e188_49, e188_51, e188_53, e188_54, e188_57, e188_58, e188_61, e188_62, e188_63, e188_64, e188_66, e188_67, e188_70, e188_71, e188_74, e188_75, e188_78, e188_79, e188_80, e188_81, e188_83, e188_86, e188_87, e188_88, e188_89, e188_90, e188_93, e188_96, e188_97, e188_98, e188_99, e188_102, e188_103, e188_105, e188_106, e188_107, e188_108, e188_110, e188_113, e188_114, am_bd_some, Option.toList_some, Option.toList_none, List.cons_append, List.nil_append, am_w8_0, am_w8_1, am_w8_2, am_w8_3, am_w8_4, eq_self, or_true, true_or, am_kd_sI, am_kd_sL, am_kd_sR, am_tc_sI, am_tc_sL, am_tc_sR, am_len_sI, am_len_sL, am_len_sR, am_rfs, if_true, if_false, am_rdL_sI, am_rR_sL, am_rt_cq, am_kd_cq, am_tc_cq, am_len_cq, am_rd_sL, am_rd_sR, am_rdL_sR, y, not_true, okK_211 ok, d, o0]
theorem m_dl {t : Nat → Nat} {L : Nat} {g h : am_H} {s : Nat} {q : Nat × Nat} (H : m_st t L g h s q s) (hs : s < L) (G : h.1 211 23 = 1) (d : q_Dr) (R : q.1 = 0 → d_mr h d) (Rw : d_mw h) (i : Nat) (hi : i < 18) (is : ln_s i = 1) : m_lr d_mr d_mw d_full d_upd t L g 188 (ln_k i) h s q d i := by
  have ok := H.1.1
  obtain ⟨n, n40, e0⟩ := Rw
  obtain ⟨⟨rr1, rr2⟩, rr3⟩ := d_rr i hi is
  have dd := d_Wk i hi is
  have de4 : d_de (ln_c i) < 4 := by unfold d_de; split <;> omega
  have nm : ¬ nI (d_de (ln_c i)) = -1 := q_m1_n _ (by omega)
  have dz : nI (d_de (ln_c i)) = 0 ↔ ln_c i < 4 := by
    refine (show nI (d_de (ln_c i)) = 0 ↔ d_de (ln_c i) = 0 from nI_eq (b := 0) (by omega) (by decide)).trans ?_
    unfold d_de
    split <;> omega
  have fi : q.1 = 0 → d.1 = n := fun w => by
    have a := (R w).1.1
    have b := (R w).2
    exact (nI_eq (by omega) (by omega)).mp (a.symm.trans e0)
  obtain ⟨h1, d1, S1, a1, a2, a3⟩ := m_full H 0 40 n (by decide) (by decide) n40 e0 (d_full i d) (fun w => by
    have := fi w
    unfold d_full
    rw [decide_eq_true_eq]
    omega)
  have ok1 := S1.1.1
  obtain ⟨h2, d2, H2', -⟩ := m_beg S1 hs ((a3 23 (by decide)).trans G) (ln_r i) 1
  have ok2 := H2'.1.1.1
  have H3 := H2'.r 1 (-1) (by omega)
  have ok3 := H3.1.1.1
  have d1' : am_den 180 [.ref 211, .int 0, .int 40, .int (nI s)] h = some (none, h1) := d1
  have x1 : am_ix 1 6 = true := by decide
  have z1 : (1 : Int32).toNatClampNeg = 1 := rfl
  have x0 : am_ix 0 6 = true := by decide
  have z0 : (0 : Int32).toNatClampNeg = 0 := rfl
  have o0 : (0 : Int32) = 0 ∨ (0 : Int32) = 1 := Or.inl rfl
  have o1 : (1 : Int32) = 0 ∨ (1 : Int32) = 1 := Or.inr rfl
  have y : ¬ (1 : Int32) = 0 := by decide
  have s1 : am_ev 188 0 [some (.ref 211), some (.long (lN (ln_k i))), some (.retAddr 0), some (.int (nI s)), none] [] h = am_ev 188 81 [some (.ref 211), some (.long (lN (ln_k i))), some (.retAddr 0), some (.int (nI s)), some (.int (nI (d_de (ln_c i))))] [] (am_sI h2 222 1 (-1)) := by
    rw [m_d0 _ (ln_wk hi).2.2.2.2, dd]
    simp only [e188_0, e188_1, e188_4, e188_5, e188_8, e188_9, e188_12, e188_13, e188_16, e188_17, e188_20, e188_21, e188_24, e188_25, e188_28, e188_29, e188_32, e188_33, e188_36, e188_37, e188_40, e188_41, e188_44, e188_45, e188_48, e188_49, e188_51, e188_53, e188_54, e188_57, e188_58, e188_61, e188_62, e188_63, e188_64, e188_66, e188_67, e188_70, e188_71, e188_74, e188_75, e188_78, e188_79, e188_80, e188_83, e188_86, e188_87, e188_88, e188_89, e188_90, e188_93, e188_96, e188_97, e188_98, e188_99, e188_102, e188_103, e188_105, e188_106, e188_107, e188_108, e188_110, e188_113, e188_114, am_bd_some, Option.toList_some, Option.toList_none, List.cons_append, List.nil_append, am_w8_0, am_w8_1, am_w8_2, am_w8_3, am_w8_4, eq_self, or_true, true_or, am_kd_sI, am_kd_sL, am_kd_sR, am_tc_sI, am_tc_sL, am_tc_sR, am_len_sI, am_len_sL, am_len_sR, am_rfs, if_true, if_false, am_rdL_sI, am_rR_sL, am_rt_cq, am_kd_cq, am_tc_cq, am_len_cq, am_rd_sL, am_rd_sR, am_rdL_sR, nm, not_false_eq_true, okK_211 ok, d1', okK_211 ok1, d2, okK_211 ok2, okR_211_20 ok2, okT_222 ok2, okL_222 ok2, x1, z1]
  have fin : ∀ (h4 : am_H) (m : Nat) (w : Int32), m_nm t L g (t_E t L s) (ln_r i) (if d_full i d = true then t_nt q 3 s else q) 1 (fun k => h1.1 221 k) (h1.1 211 21) (h1.1 211 22) h4 m → h4.1 222 1 = w → m = (ln_r i).length → (∀ z3 : ∀ j, j < m → t_can ((ln_r i).getD j 0) (t_va t L (t_E t L s) j) (t_va t L (t_E t L s)) = true, w = (if d_wh i (t_va t L (t_E t L s)) < 4 then nI (d_wh i (t_va t L (t_E t L s))) else -1) ∧ d_de (ln_c i) = (if d_wh i (t_va t L (t_E t L s)) < 4 then 0 else d_wh i (t_va t L (t_E t L s)) - 3)) →
      ∃ h' : am_H, am_ev 188 98 [some (.ref 211), some (.long (lN (ln_k i))), some (.retAddr 0), some (.int (nI s)), some (.int (nI (d_de (ln_c i))))] [] h4 = some (some (.int 1), h') ∧ m_st t L g h' (t_nx t L (t_E t L s) (ln_r i).length) (t_rq (ln_r i) (t_va t L (t_E t L s)) (t_nx t L (t_E t L s)) (ln_r i).length (if d_full i d = true then t_nt q 3 s else q)) (t_nx t L (t_E t L s) (ln_r i).length) ∧ ((t_rq (ln_r i) (t_va t L (t_E t L s)) (t_nx t L (t_E t L s)) (ln_r i).length (if d_full i d = true then t_nt q 3 s else q)).1 = 0 → d_mr h' (d_upd i (t_va t L (t_E t L s)) d)) ∧ d_mw h' := by
    intro h4 m w H4 e1 em hz
    have ok4 := H4.1.1.1
    have H5 := H4.r 0 (nI (d_de (ln_c i))) (by omega)
    have ok5 := H5.1.1.1
    obtain ⟨h6, d6, H6⟩ := m_keep H5 2 40 n (by decide) n40 (by decide) (fun w => by omega) ((a1 0).trans e0) (fun j => if j = 0 then nI (d_de (ln_c i)) else w) (fun j hj => by
      show (am_sI h4 222 0 (nI (d_de (ln_c i)))).1 222 j = if j = 0 then nI (d_de (ln_c i)) else w
      rw [c_rw]
      by_cases c : j = 0
      · rw [if_pos c, if_pos c]
      · rw [if_neg c, if_neg c, show j = 1 by omega]; exact e1)
    have d6' : am_den 189 [.ref 211, .int 2, .int 40] (am_sI h4 222 0 (nI (d_de (ln_c i)))) = some (none, h6) := d6
    refine ⟨h6, ?_, by rw [← em]; exact H6.1, fun z => ?_, ?_⟩
    · simp only [e188_0, e188_1, e188_4, e188_5, e188_8, e188_9, e188_12, e188_13, e188_16, e188_17, e188_20, e188_21, e188_24, e188_25, e188_28, e188_29, e188_32, e188_33, e188_36, e188_37, e188_40, e188_41, e188_44, e188_45, e188_48, e188_49, e188_51, e188_53, e188_54, e188_57, e188_58, e188_61, e188_62, e188_63, e188_64, e188_66, e188_67, e188_70, e188_71, e188_74, e188_75, e188_78, e188_79, e188_80, e188_81, e188_83, e188_86, e188_87, e188_88, e188_89, e188_90, e188_93, e188_96, e188_97, e188_98, e188_99, e188_102, e188_103, e188_105, e188_106, e188_107, e188_108, e188_110, e188_113, e188_114, am_bd_some, Option.toList_some, Option.toList_none, List.cons_append, List.nil_append, am_w8_0, am_w8_1, am_w8_2, am_w8_3, am_w8_4, eq_self, or_true, true_or, am_kd_sI, am_kd_sL, am_kd_sR, am_tc_sI, am_tc_sL, am_tc_sR, am_len_sI, am_len_sL, am_len_sR, am_rfs, if_true, if_false, am_rdL_sI, am_rR_sL, am_rt_cq, am_kd_cq, am_tc_cq, am_len_cq, am_rd_sL, am_rd_sR, am_rdL_sR, okK_211 ok4, okR_211_20 ok4, okT_222 ok4, okL_222 ok4, x0, z0, okK_211 ok5, d6', o1]
    · obtain ⟨q1, -, q3⟩ := t_rq_0 z
      have ff := c_q0 q1
      rw [ff, if_neg (by decide)] at q1
      obtain ⟨M, m40⟩ := R q1
      have en := fi q1
      have n39 : n < 40 := by
        have := of_decide_eq_false ff
        omega
      obtain ⟨w1, w2⟩ := hz (fun j hj => q3 j (by omega))
      rw [if_neg (show ¬ n = 40 by omega)] at H6
      have E6 := H6.2.2.2.1
      refine ⟨⟨?_, fun k hk => ?_⟩, ?_⟩
      · show h6.1 221 0 = nI (d.1 + 1)
        rw [E6 0, en]
        rfl
      · have hk' : k < d.1 + 1 := hk
        show h6.1 221 (1 + 2 * k) = nI (if (if k = d.1 then d_wh i (t_va t L (t_E t L s)) else d.2 k) < 4 then 0 else (if k = d.1 then d_wh i (t_va t L (t_E t L s)) else d.2 k) - 3) ∧ h6.1 221 (2 + 2 * k) = if (if k = d.1 then d_wh i (t_va t L (t_E t L s)) else d.2 k) < 4 then nI (if k = d.1 then d_wh i (t_va t L (t_E t L s)) else d.2 k) else -1
        refine ⟨(E6 _).trans ?_, (E6 _).trans ?_⟩
        · by_cases c : k = d.1
          · rw [show 1 + 2 * k = 1 + 2 * n + 0 by omega, k_T_in _ _ _ _ _ (by decide), if_pos c, ← w2]
            rfl
          · rw [k_T_out _ _ _ _ _ (by omega) (by omega), if_neg c]
            exact (a1 _).trans (M.2 k (by omega)).1
        · by_cases c : k = d.1
          · rw [show 2 + 2 * k = 1 + 2 * n + 1 by omega, k_T_in _ _ _ _ _ (by decide), if_pos c, ← w1]
            rfl
          · rw [k_T_out _ _ _ _ _ (by omega) (by omega), if_neg c]
            exact (a1 _).trans (M.2 k (by omega)).2
      · show d.1 + 1 ≤ 40; omega
    · by_cases c : n = 40
      · rw [if_pos c] at H6
        exact ⟨n, n40, (H6.2.2.2.1 0).trans ((a1 0).trans e0)⟩
      · rw [if_neg c] at H6
        exact ⟨n + 1, by omega, H6.2.2.2.1 0⟩
  unfold m_lr
  by_cases c : ln_c i < 4
  · have c' := eq_true (dz.mpr c)
    obtain ⟨l1, r1⟩ := rr1 c
    obtain ⟨A, B⟩ := m_nu H3 (by decide) 0 3 (-1) (by decide) (by decide) (fun k => r_d r1 (t_v_lt k))
    have fb : t_fb t L (t_E t L s) (ln_r i).length 0 = if t_K t L (t_nx t L (t_E t L s) 0) = 3 then none else some (t_nx t L (t_E t L s) 0) := by rw [l1]; rfl
    rw [fb]
    by_cases k0 : t_K t L (t_nx t L (t_E t L s) 0) = 3
    · rw [if_pos k0]
      obtain ⟨h4, d4, H4, -⟩ := B k0
      have d4' := den_take _ ok3 1 0 3 1 h4 d4 o1
      obtain ⟨h6, s6, r6⟩ := fin h4 1 (nI (t_va t L (t_E t L s) 0)) H4 (H4.2.1 0 (by decide)).2 l1.symm (fun z3 => by
        have e : d_wh i (t_va t L (t_E t L s)) = t_va t L (t_E t L s) 0 := if_pos c
        have v4 : t_va t L (t_E t L s) 0 < 4 := t_can_d (by have := z3 0 (by decide); rw [r1] at this; exact this)
        rw [e, if_pos v4, if_pos v4]
        exact ⟨rfl, if_pos c⟩)
      refine ⟨h6, ?_, r6⟩
      show am_ev 188 0 [some (.ref 211), some (.long (lN (ln_k i))), some (.retAddr 0), some (.int (nI s)), none] [] h = _
      rw [s1, ← s6]
      simp only [e188_0, e188_1, e188_4, e188_5, e188_8, e188_9, e188_12, e188_13, e188_16, e188_17, e188_20, e188_21, e188_24, e188_25, e188_28, e188_29, e188_32, e188_33, e188_36, e188_37, e188_40, e188_41, e188_44, e188_45, e188_48, e188_49, e188_51, e188_53, e188_54, e188_57, e188_58, e188_61, e188_62, e188_63, e188_64, e188_66, e188_67, e188_70, e188_71, e188_74, e188_75, e188_78, e188_79, e188_80, e188_81, e188_83, e188_86, e188_87, e188_88, e188_89, e188_90, e188_93, e188_96, e188_97, e188_99, e188_102, e188_103, e188_105, e188_106, e188_107, e188_108, e188_110, e188_113, e188_114, am_bd_some, Option.toList_some, Option.toList_none, List.cons_append, List.nil_append, am_w8_0, am_w8_1, am_w8_2, am_w8_3, am_w8_4, eq_self, or_true, true_or, am_kd_sI, am_kd_sL, am_kd_sR, am_tc_sI, am_tc_sL, am_tc_sR, am_len_sI, am_len_sL, am_len_sR, am_rfs, if_true, if_false, am_rdL_sI, am_rR_sL, am_rt_cq, am_kd_cq, am_tc_cq, am_len_cq, am_rd_sL, am_rd_sR, am_rdL_sR, c', not_true, okK_211 ok3, d4', y, not_false_eq_true]
    · rw [if_neg k0]
      obtain ⟨h4, d4, b4⟩ := A k0
      have d4' := den_take _ ok3 1 0 3 0 h4 d4 o0
      refine ⟨h4, ?_, b4⟩
      show am_ev 188 0 [some (.ref 211), some (.long (lN (ln_k i))), some (.retAddr 0), some (.int (nI s)), none] [] h = _
      rw [s1]
      simp only [e188_0, e188_1, e188_4, e188_5, e188_8, e188_9, e188_12, e188_13, e188_16, e188_17, e188_20, e188_21, e188_24, e188_25, e188_28, e188_29, e188_32, e188_33, e188_36, e188_37, e188_40, e188_41, e188_44, e188_45, e188_48, e188_49, e188_51, e188_53, e188_54, e188_57, e188_58, e188_61, e188_62, e188_63, e188_64, e188_66, e188_67, e188_70, e188_71, e188_74, e188_75, e188_78, e188_79, e188_80, e188_81, e188_83, e188_86, e188_87, e188_88, e188_89, e188_90, e188_93, e188_96, e188_97, e188_98, e188_99, e188_102, e188_103, e188_105, e188_106, e188_107, e188_108, e188_110, e188_113, e188_114, am_bd_some, Option.toList_some, Option.toList_none, List.cons_append, List.nil_append, am_w8_0, am_w8_1, am_w8_2, am_w8_3, am_w8_4, eq_self, or_true, true_or, am_kd_sI, am_kd_sL, am_kd_sR, am_tc_sI, am_tc_sL, am_tc_sR, am_len_sI, am_len_sL, am_len_sR, am_rfs, if_true, if_false, am_rdL_sI, am_rR_sL, am_rt_cq, am_kd_cq, am_tc_cq, am_len_cq, am_rd_sL, am_rd_sR, am_rdL_sR, c', not_true, okK_211 ok3, d4', o0]
  · have c' := eq_false (fun w => c (dz.mp w))
    obtain ⟨l0, c7⟩ := rr2 c
    have fb : t_fb t L (t_E t L s) (ln_r i).length 0 = none := by rw [l0]; rfl
    rw [fb]
    obtain ⟨h6, s6, r6⟩ := fin _ 0 (-1) H3 (c_eq _ _ _ _) l0.symm (fun _ => by
      have e : d_wh i (t_va t L (t_E t L s)) = ln_c i := if_neg c
      rw [e, if_neg c, if_neg c]
      exact ⟨rfl, if_neg c⟩)
    refine ⟨h6, ?_, r6⟩
    show am_ev 188 0 [some (.ref 211), some (.long (lN (ln_k i))), some (.retAddr 0), some (.int (nI s)), none] [] h = _
    rw [s1, ← s6]
    simp only [e188_0, e188_1, e188_4, e188_5, e188_8, e188_9, e188_12, e188_13, e188_16, e188_17, e188_20, e188_21, e188_24, e188_25, e188_28, e188_29, e188_32, e188_33, e188_36, e188_37, e188_40, e188_41, e188_44, e188_45, e188_48, e188_49, e188_51, e188_53, e188_54, e188_57, e188_58, e188_61, e188_62, e188_63, e188_64, e188_66, e188_67, e188_70, e188_71, e188_74, e188_75, e188_78, e188_79, e188_80, e188_81, e188_83, e188_86, e188_87, e188_88, e188_89, e188_90, e188_93, e188_96, e188_97, e188_99, e188_102, e188_103, e188_105, e188_106, e188_107, e188_108, e188_110, e188_113, e188_114, am_bd_some, Option.toList_some, Option.toList_none, List.cons_append, List.nil_append, am_w8_0, am_w8_1, am_w8_2, am_w8_3, am_w8_4, eq_self, or_true, true_or, am_kd_sI, am_kd_sL, am_kd_sR, am_tc_sI, am_tc_sL, am_tc_sR, am_len_sI, am_len_sL, am_len_sR, am_rfs, if_true, if_false, am_rdL_sI, am_rR_sL, am_rt_cq, am_kd_cq, am_tc_cq, am_len_cq, am_rd_sL, am_rd_sR, am_rdL_sR, c', not_false_eq_true]
