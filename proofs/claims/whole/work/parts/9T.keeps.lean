/-! part 9T: what a line of a drive, a book, a log tells: the class -/
theorem e48_0 {ls : List (Option Value)} {st : List Value} {h : am_H} {a : Nat} : am_ev 48 0 (some (.ref a) :: ls) (st) h = am_ev 48 1 (some (.ref a) :: ls) (.ref a :: st) h := am_ev_step (q := (1, some (.ref a) :: ls, .ref a :: st, h)) _ (.aload_n 0) 1 am_my_48 (by decide +kernel) rfl
theorem e48_1 {ls : List (Option Value)} {st : List Value} {h : am_H} {o : Nat} (hk : am_kd h o = some (.inl 2)) : am_ev 48 1 ls (.ref o :: st) h = am_ev 48 4 ls (.int (h.1 o 0) :: st) h := am_u_gfI (idx := 15) (wn := 1103) am_my_48 (by decide +kernel) (by decide +kernel) (by decide +kernel) hk
theorem e48_4 {ls : List (Option Value)} {st : List Value} {h : am_H} : am_ev 48 4 (ls) (st) h = am_ev 48 6 (ls) (.int (40) :: st) h := am_ev_step (q := (6, ls, .int (40) :: st, h)) _ (.bipush (40)) 2 am_my_48 (by decide +kernel) rfl
theorem e48_6 {ls : List (Option Value)} {st : List Value} {h : am_H} {a b : Int32} : am_ev 48 6 ls (.int b :: .int a :: st) h = if b ≤ a then am_ev 48 40 ls st h else am_ev 48 9 ls st h := am_u_if2 (c := .ge) (off := 34) am_my_48 (by decide +kernel) (by decide)
theorem e48_9 {ls : List (Option Value)} {st : List Value} {h : am_H} {a : Nat} : am_ev 48 9 (some (.ref a) :: ls) (st) h = am_ev 48 10 (some (.ref a) :: ls) (.ref a :: st) h := am_ev_step (q := (10, some (.ref a) :: ls, .ref a :: st, h)) _ (.aload_n 0) 1 am_my_48 (by decide +kernel) rfl
theorem e48_10 {ls : List (Option Value)} {st : List Value} {h : am_H} {o : Nat} (hk : am_kd h o = some (.inl 2)) : am_ev 48 10 ls (.ref o :: st) h = am_ev 48 13 ls (va_rf (h.2.2.1 o 1) :: st) h := am_u_gfR (idx := 9) (wn := 1107) (a := 0) am_my_48 (by decide +kernel) (by decide +kernel) (by decide +kernel) hk
theorem e48_13 {ls : List (Option Value)} {st : List Value} {h : am_H} {a : Nat} : am_ev 48 13 (some (.ref a) :: ls) (st) h = am_ev 48 14 (some (.ref a) :: ls) (.ref a :: st) h := am_ev_step (q := (14, some (.ref a) :: ls, .ref a :: st, h)) _ (.aload_n 0) 1 am_my_48 (by decide +kernel) rfl
theorem e48_14 {ls : List (Option Value)} {st : List Value} {h : am_H} {o : Nat} (hk : am_kd h o = some (.inl 2)) : am_ev 48 14 ls (.ref o :: st) h = am_ev 48 17 ls (.int (h.1 o 0) :: st) h := am_u_gfI (idx := 15) (wn := 1103) am_my_48 (by decide +kernel) (by decide +kernel) (by decide +kernel) hk
theorem e48_17 {ls : List (Option Value)} {st : List Value} {h : am_H} {l0 : Option Value} {a : Int32} : am_ev 48 17 (l0 :: some (.int a) :: ls) (st) h = am_ev 48 18 (l0 :: some (.int a) :: ls) (.int a :: st) h := am_ev_step (q := (18, l0 :: some (.int a) :: ls, .int a :: st, h)) _ (.iload_n 1) 1 am_my_48 (by decide +kernel) rfl
theorem e48_18 {ls : List (Option Value)} {st : List Value} {h : am_H} : am_ev 48 18 (ls) (st) h = am_ev 48 19 (ls) (.int (4) :: st) h := am_ev_step (q := (19, ls, .int (4) :: st, h)) _ (.iconst (4)) 1 am_my_48 (by decide +kernel) rfl
theorem e48_19 {ls : List (Option Value)} {st : List Value} {h : am_H} {a b : Int32} : am_ev 48 19 ls (.int b :: .int a :: st) h = if b ≤ a then am_ev 48 28 ls st h else am_ev 48 22 ls st h := am_u_if2 (c := .ge) (off := 9) am_my_48 (by decide +kernel) (by decide)
theorem e48_22 {ls : List (Option Value)} {st : List Value} {h : am_H} {l0 l1 : Option Value} {a : Nat} : am_ev 48 22 (l0 :: l1 :: some (.ref a) :: ls) (st) h = am_ev 48 23 (l0 :: l1 :: some (.ref a) :: ls) (.ref a :: st) h := am_ev_step (q := (23, l0 :: l1 :: some (.ref a) :: ls, .ref a :: st, h)) _ (.aload_n 2) 1 am_my_48 (by decide +kernel) rfl
theorem e48_23 {ls : List (Option Value)} {st : List Value} {h : am_H} : am_ev 48 23 (ls) (st) h = am_ev 48 24 (ls) (.int (0) :: st) h := am_ev_step (q := (24, ls, .int (0) :: st, h)) _ (.iconst (0)) 1 am_my_48 (by decide +kernel) rfl
theorem e48_24 {ls : List (Option Value)} {st : List Value} {h : am_H} {i : Int32} {a : Nat} (ht : am_tc h a = some 0) : am_ev 48 24 ls (.int i :: .ref a :: st) h = if am_ix i (am_len h a) = true then am_ev 48 25 ls (.int (h.1 a i.toNatClampNeg) :: st) h else none := am_u_rI am_my_48 (by decide +kernel) ht
theorem e48_25 {ls : List (Option Value)} {st : List Value} {h : am_H} : am_ev 48 25 (ls) (st) h = am_ev 48 29 (ls) (st) h := am_ev_step (q := (29, ls, st, h)) _ (.goto (4)) 3 am_my_48 (by decide +kernel) rfl
theorem e48_28 {ls : List (Option Value)} {st : List Value} {h : am_H} {l0 : Option Value} {a : Int32} : am_ev 48 28 (l0 :: some (.int a) :: ls) (st) h = am_ev 48 29 (l0 :: some (.int a) :: ls) (.int a :: st) h := am_ev_step (q := (29, l0 :: some (.int a) :: ls, .int a :: st, h)) _ (.iload_n 1) 1 am_my_48 (by decide +kernel) rfl
theorem e48_29 {ls : List (Option Value)} {st : List Value} {h : am_H} {v i : Int32} {a : Nat} (ht : am_tc h a = some 0) : am_ev 48 29 ls (.int v :: .int i :: .ref a :: st) h = if am_ix i (am_len h a) = true then am_ev 48 30 ls st (am_sI h a i.toNatClampNeg v) else none := am_u_wI am_my_48 (by decide +kernel) ht
theorem e48_30 {ls : List (Option Value)} {st : List Value} {h : am_H} {a : Nat} : am_ev 48 30 (some (.ref a) :: ls) (st) h = am_ev 48 31 (some (.ref a) :: ls) (.ref a :: st) h := am_ev_step (q := (31, some (.ref a) :: ls, .ref a :: st, h)) _ (.aload_n 0) 1 am_my_48 (by decide +kernel) rfl
theorem e48_31 {ls : List (Option Value)} {st : List Value} {h : am_H} {a : Nat} : am_ev 48 31 (ls) (.ref a :: st) h = am_ev 48 32 (ls) (.ref a :: .ref a :: st) h := am_ev_step (q := (32, ls, .ref a :: .ref a :: st, h)) _ (.dup) 1 am_my_48 (by decide +kernel) rfl
theorem e48_31i {ls : List (Option Value)} {st : List Value} {h : am_H} {a : Int32} : am_ev 48 31 (ls) (.int a :: st) h = am_ev 48 32 (ls) (.int a :: .int a :: st) h := am_ev_step (q := (32, ls, .int a :: .int a :: st, h)) _ (.dup) 1 am_my_48 (by decide +kernel) rfl
theorem e48_32 {ls : List (Option Value)} {st : List Value} {h : am_H} {o : Nat} (hk : am_kd h o = some (.inl 2)) : am_ev 48 32 ls (.ref o :: st) h = am_ev 48 35 ls (.int (h.1 o 0) :: st) h := am_u_gfI (idx := 15) (wn := 1103) am_my_48 (by decide +kernel) (by decide +kernel) (by decide +kernel) hk
theorem e48_35 {ls : List (Option Value)} {st : List Value} {h : am_H} : am_ev 48 35 (ls) (st) h = am_ev 48 36 (ls) (.int (1) :: st) h := am_ev_step (q := (36, ls, .int (1) :: st, h)) _ (.iconst (1)) 1 am_my_48 (by decide +kernel) rfl
theorem e48_36 {ls : List (Option Value)} {st : List Value} {h : am_H} {a b : Int32} : am_ev 48 36 (ls) (.int b :: .int a :: st) h = am_ev 48 37 (ls) (.int (a + b) :: st) h := am_ev_step (q := (37, ls, .int (a + b) :: st, h)) _ (.iadd) 1 am_my_48 (by decide +kernel) rfl
theorem e48_37 {ls : List (Option Value)} {st : List Value} {h : am_H} {o : Nat} {v : Int32} (hk : am_kd h o = some (.inl 2)) : am_ev 48 37 ls (.int v :: .ref o :: st) h = am_ev 48 40 ls st (am_sI h o 0 v) := am_u_pfI (idx := 15) (wn := 1103) am_my_48 (by decide +kernel) (by decide +kernel) (by decide +kernel) (by decide +kernel) hk
theorem e48_40 {ls : List (Option Value)} {h : am_H} : am_ev 48 40 ls [] h = some (none, h) := am_u_rtV am_my_48 (by decide +kernel) rfl
theorem e49_0 {ls : List (Option Value)} {st : List Value} {h : am_H} {l0 : Option Value} {a : Int32} : am_ev 49 0 (l0 :: some (.int a) :: ls) (st) h = am_ev 49 1 (l0 :: some (.int a) :: ls) (.int a :: st) h := am_ev_step (q := (1, l0 :: some (.int a) :: ls, .int a :: st, h)) _ (.iload_n 1) 1 am_my_49 (by decide +kernel) rfl
theorem e49_1 {ls : List (Option Value)} {st : List Value} {h : am_H} : am_ev 49 1 ls st h = am_ev 49 4 ls (.ref 1048590 :: st) h := am_u_gs (idx := 43) (z := 2) (wn := 3072) (q := ("DogNotary$Line", "HELPER", "LDogNotary$Line;", .ref 1048590)) am_my_49 (by decide +kernel) (by decide +kernel) (by decide +kernel) (by decide +kernel)
theorem e49_4 {ls : List (Option Value)} {st : List Value} {h : am_H} {o : Nat} : am_ev 49 4 ls (.ref o :: st) h = am_ob (kOv o 15) (fun v => am_ev 49 7 ls (v :: st) h) := am_u_gfK (idx := 49) (wn := 8138) am_my_49 (by decide +kernel) (by decide +kernel) (by decide +kernel)
theorem e49_7 {ls : List (Option Value)} {st : List Value} {h : am_H} {a b : Int32} : am_ev 49 7 ls (.int b :: .int a :: st) h = if ¬ a = b then am_ev 49 55 ls st h else am_ev 49 10 ls st h := am_u_if2 (c := .ne) (off := 48) am_my_49 (by decide +kernel) (by decide)
theorem e49_10 {ls : List (Option Value)} {st : List Value} {h : am_H} {a : Nat} : am_ev 49 10 (some (.ref a) :: ls) (st) h = am_ev 49 11 (some (.ref a) :: ls) (.ref a :: st) h := am_ev_step (q := (11, some (.ref a) :: ls, .ref a :: st, h)) _ (.aload_n 0) 1 am_my_49 (by decide +kernel) rfl
theorem e49_11 {ls : List (Option Value)} {st : List Value} {h : am_H} {o : Nat} (hk : am_kd h o = some (.inl 0)) : am_ev 49 11 ls (.ref o :: st) h = am_ev 49 14 ls (.int (h.1 o 0) :: st) h := am_u_gfI (idx := 27) (wn := 1120) am_my_49 (by decide +kernel) (by decide +kernel) (by decide +kernel) hk
theorem e49_14 {ls : List (Option Value)} {st : List Value} {h : am_H} : am_ev 49 14 (ls) (st) h = am_ev 49 15 (ls) (.int (5) :: st) h := am_ev_step (q := (15, ls, .int (5) :: st, h)) _ (.iconst (5)) 1 am_my_49 (by decide +kernel) rfl
theorem e49_15 {ls : List (Option Value)} {st : List Value} {h : am_H} {a b : Int32} : am_ev 49 15 ls (.int b :: .int a :: st) h = if b ≤ a then am_ev 49 55 ls st h else am_ev 49 18 ls st h := am_u_if2 (c := .ge) (off := 40) am_my_49 (by decide +kernel) (by decide)
theorem e49_18 {ls : List (Option Value)} {st : List Value} {h : am_H} {a : Nat} : am_ev 49 18 (some (.ref a) :: ls) (st) h = am_ev 49 19 (some (.ref a) :: ls) (.ref a :: st) h := am_ev_step (q := (19, some (.ref a) :: ls, .ref a :: st, h)) _ (.aload_n 0) 1 am_my_49 (by decide +kernel) rfl
theorem e49_19 {ls : List (Option Value)} {st : List Value} {h : am_H} {o : Nat} (hk : am_kd h o = some (.inl 0)) : am_ev 49 19 ls (.ref o :: st) h = am_ev 49 22 ls (va_rf (h.2.2.1 o 3) :: st) h := am_u_gfR (idx := 9) (wn := 1129) (a := 0) am_my_49 (by decide +kernel) (by decide +kernel) (by decide +kernel) hk
theorem e49_22 {ls : List (Option Value)} {st : List Value} {h : am_H} {a : Nat} : am_ev 49 22 (some (.ref a) :: ls) (st) h = am_ev 49 23 (some (.ref a) :: ls) (.ref a :: st) h := am_ev_step (q := (23, some (.ref a) :: ls, .ref a :: st, h)) _ (.aload_n 0) 1 am_my_49 (by decide +kernel) rfl
theorem e49_23 {ls : List (Option Value)} {st : List Value} {h : am_H} {o : Nat} (hk : am_kd h o = some (.inl 0)) : am_ev 49 23 ls (.ref o :: st) h = am_ev 49 26 ls (.int (h.1 o 0) :: st) h := am_u_gfI (idx := 27) (wn := 1120) am_my_49 (by decide +kernel) (by decide +kernel) (by decide +kernel) hk
theorem e49_26 {ls : List (Option Value)} {st : List Value} {h : am_H} {l0 l1 : Option Value} {a : Nat} : am_ev 49 26 (l0 :: l1 :: some (.ref a) :: ls) (st) h = am_ev 49 27 (l0 :: l1 :: some (.ref a) :: ls) (.ref a :: st) h := am_ev_step (q := (27, l0 :: l1 :: some (.ref a) :: ls, .ref a :: st, h)) _ (.aload_n 2) 1 am_my_49 (by decide +kernel) rfl
theorem e49_27 {ls : List (Option Value)} {st : List Value} {h : am_H} : am_ev 49 27 (ls) (st) h = am_ev 49 28 (ls) (.int (0) :: st) h := am_ev_step (q := (28, ls, .int (0) :: st, h)) _ (.iconst (0)) 1 am_my_49 (by decide +kernel) rfl
theorem e49_28 {ls : List (Option Value)} {st : List Value} {h : am_H} {i : Int32} {a : Nat} (ht : am_tc h a = some 0) : am_ev 49 28 ls (.int i :: .ref a :: st) h = if am_ix i (am_len h a) = true then am_ev 49 29 ls (.int (h.1 a i.toNatClampNeg) :: st) h else none := am_u_rI am_my_49 (by decide +kernel) ht
theorem e49_29 {ls : List (Option Value)} {st : List Value} {h : am_H} {v i : Int32} {a : Nat} (ht : am_tc h a = some 0) : am_ev 49 29 ls (.int v :: .int i :: .ref a :: st) h = if am_ix i (am_len h a) = true then am_ev 49 30 ls st (am_sI h a i.toNatClampNeg v) else none := am_u_wI am_my_49 (by decide +kernel) ht
theorem e49_30 {ls : List (Option Value)} {st : List Value} {h : am_H} {a : Nat} : am_ev 49 30 (some (.ref a) :: ls) (st) h = am_ev 49 31 (some (.ref a) :: ls) (.ref a :: st) h := am_ev_step (q := (31, some (.ref a) :: ls, .ref a :: st, h)) _ (.aload_n 0) 1 am_my_49 (by decide +kernel) rfl
theorem e49_31 {ls : List (Option Value)} {st : List Value} {h : am_H} {o : Nat} (hk : am_kd h o = some (.inl 0)) : am_ev 49 31 ls (.ref o :: st) h = am_ev 49 34 ls (va_rf (h.2.2.1 o 4) :: st) h := am_u_gfR (idx := 15) (wn := 1131) (a := 0) am_my_49 (by decide +kernel) (by decide +kernel) (by decide +kernel) hk
theorem e49_34 {ls : List (Option Value)} {st : List Value} {h : am_H} {a : Nat} : am_ev 49 34 (some (.ref a) :: ls) (st) h = am_ev 49 35 (some (.ref a) :: ls) (.ref a :: st) h := am_ev_step (q := (35, some (.ref a) :: ls, .ref a :: st, h)) _ (.aload_n 0) 1 am_my_49 (by decide +kernel) rfl
theorem e49_35 {ls : List (Option Value)} {st : List Value} {h : am_H} {o : Nat} (hk : am_kd h o = some (.inl 0)) : am_ev 49 35 ls (.ref o :: st) h = am_ev 49 38 ls (.int (h.1 o 0) :: st) h := am_u_gfI (idx := 27) (wn := 1120) am_my_49 (by decide +kernel) (by decide +kernel) (by decide +kernel) hk
theorem e49_38 {ls : List (Option Value)} {st : List Value} {h : am_H} {l0 l1 : Option Value} {a : Nat} : am_ev 49 38 (l0 :: l1 :: some (.ref a) :: ls) (st) h = am_ev 49 39 (l0 :: l1 :: some (.ref a) :: ls) (.ref a :: st) h := am_ev_step (q := (39, l0 :: l1 :: some (.ref a) :: ls, .ref a :: st, h)) _ (.aload_n 2) 1 am_my_49 (by decide +kernel) rfl
theorem e49_39 {ls : List (Option Value)} {st : List Value} {h : am_H} : am_ev 49 39 (ls) (st) h = am_ev 49 40 (ls) (.int (1) :: st) h := am_ev_step (q := (40, ls, .int (1) :: st, h)) _ (.iconst (1)) 1 am_my_49 (by decide +kernel) rfl
theorem e49_40 {ls : List (Option Value)} {st : List Value} {h : am_H} {i : Int32} {a : Nat} (ht : am_tc h a = some 0) : am_ev 49 40 ls (.int i :: .ref a :: st) h = if am_ix i (am_len h a) = true then am_ev 49 41 ls (.int (h.1 a i.toNatClampNeg) :: st) h else none := am_u_rI am_my_49 (by decide +kernel) ht
theorem e49_41 {ls : List (Option Value)} {st : List Value} {h : am_H} {v i : Int32} {a : Nat} (ht : am_tc h a = some 0) : am_ev 49 41 ls (.int v :: .int i :: .ref a :: st) h = if am_ix i (am_len h a) = true then am_ev 49 42 ls st (am_sI h a i.toNatClampNeg v) else none := am_u_wI am_my_49 (by decide +kernel) ht
theorem e49_42 {ls : List (Option Value)} {st : List Value} {h : am_H} {a : Nat} : am_ev 49 42 (some (.ref a) :: ls) (st) h = am_ev 49 43 (some (.ref a) :: ls) (.ref a :: st) h := am_ev_step (q := (43, some (.ref a) :: ls, .ref a :: st, h)) _ (.aload_n 0) 1 am_my_49 (by decide +kernel) rfl
theorem e49_43 {ls : List (Option Value)} {st : List Value} {h : am_H} {a : Nat} : am_ev 49 43 (ls) (.ref a :: st) h = am_ev 49 44 (ls) (.ref a :: .ref a :: st) h := am_ev_step (q := (44, ls, .ref a :: .ref a :: st, h)) _ (.dup) 1 am_my_49 (by decide +kernel) rfl
theorem e49_43i {ls : List (Option Value)} {st : List Value} {h : am_H} {a : Int32} : am_ev 49 43 (ls) (.int a :: st) h = am_ev 49 44 (ls) (.int a :: .int a :: st) h := am_ev_step (q := (44, ls, .int a :: .int a :: st, h)) _ (.dup) 1 am_my_49 (by decide +kernel) rfl
theorem e49_44 {ls : List (Option Value)} {st : List Value} {h : am_H} {o : Nat} (hk : am_kd h o = some (.inl 0)) : am_ev 49 44 ls (.ref o :: st) h = am_ev 49 47 ls (.int (h.1 o 0) :: st) h := am_u_gfI (idx := 27) (wn := 1120) am_my_49 (by decide +kernel) (by decide +kernel) (by decide +kernel) hk
theorem e49_47 {ls : List (Option Value)} {st : List Value} {h : am_H} : am_ev 49 47 (ls) (st) h = am_ev 49 48 (ls) (.int (1) :: st) h := am_ev_step (q := (48, ls, .int (1) :: st, h)) _ (.iconst (1)) 1 am_my_49 (by decide +kernel) rfl
theorem e49_48 {ls : List (Option Value)} {st : List Value} {h : am_H} {a b : Int32} : am_ev 49 48 (ls) (.int b :: .int a :: st) h = am_ev 49 49 (ls) (.int (a + b) :: st) h := am_ev_step (q := (49, ls, .int (a + b) :: st, h)) _ (.iadd) 1 am_my_49 (by decide +kernel) rfl
theorem e49_49 {ls : List (Option Value)} {st : List Value} {h : am_H} {o : Nat} {v : Int32} (hk : am_kd h o = some (.inl 0)) : am_ev 49 49 ls (.int v :: .ref o :: st) h = am_ev 49 52 ls st (am_sI h o 0 v) := am_u_pfI (idx := 27) (wn := 1120) am_my_49 (by decide +kernel) (by decide +kernel) (by decide +kernel) (by decide +kernel) hk
theorem e49_52 {ls : List (Option Value)} {st : List Value} {h : am_H} : am_ev 49 52 (ls) (st) h = am_ev 49 152 (ls) (st) h := am_ev_step (q := (152, ls, st, h)) _ (.goto (100)) 3 am_my_49 (by decide +kernel) rfl
theorem e49_55 {ls : List (Option Value)} {st : List Value} {h : am_H} {l0 : Option Value} {a : Int32} : am_ev 49 55 (l0 :: some (.int a) :: ls) (st) h = am_ev 49 56 (l0 :: some (.int a) :: ls) (.int a :: st) h := am_ev_step (q := (56, l0 :: some (.int a) :: ls, .int a :: st, h)) _ (.iload_n 1) 1 am_my_49 (by decide +kernel) rfl
theorem e49_56 {ls : List (Option Value)} {st : List Value} {h : am_H} : am_ev 49 56 ls st h = am_ev 49 59 ls (.ref 1048591 :: st) h := am_u_gs (idx := 52) (z := 3) (wn := 3074) (q := ("DogNotary$Line", "BARGAIN", "LDogNotary$Line;", .ref 1048591)) am_my_49 (by decide +kernel) (by decide +kernel) (by decide +kernel) (by decide +kernel)
theorem e49_59 {ls : List (Option Value)} {st : List Value} {h : am_H} {o : Nat} : am_ev 49 59 ls (.ref o :: st) h = am_ob (kOv o 15) (fun v => am_ev 49 62 ls (v :: st) h) := am_u_gfK (idx := 49) (wn := 8138) am_my_49 (by decide +kernel) (by decide +kernel) (by decide +kernel)
theorem e49_62 {ls : List (Option Value)} {st : List Value} {h : am_H} {a b : Int32} : am_ev 49 62 ls (.int b :: .int a :: st) h = if ¬ a = b then am_ev 49 111 ls st h else am_ev 49 65 ls st h := am_u_if2 (c := .ne) (off := 49) am_my_49 (by decide +kernel) (by decide)
theorem e49_65 {ls : List (Option Value)} {st : List Value} {h : am_H} {a : Nat} : am_ev 49 65 (some (.ref a) :: ls) (st) h = am_ev 49 66 (some (.ref a) :: ls) (.ref a :: st) h := am_ev_step (q := (66, some (.ref a) :: ls, .ref a :: st, h)) _ (.aload_n 0) 1 am_my_49 (by decide +kernel) rfl
theorem e49_66 {ls : List (Option Value)} {st : List Value} {h : am_H} {o : Nat} (hk : am_kd h o = some (.inl 0)) : am_ev 49 66 ls (.ref o :: st) h = am_ev 49 69 ls (.int (h.1 o 1) :: st) h := am_u_gfI (idx := 31) (wn := 1123) am_my_49 (by decide +kernel) (by decide +kernel) (by decide +kernel) hk
theorem e49_69 {ls : List (Option Value)} {st : List Value} {h : am_H} : am_ev 49 69 (ls) (st) h = am_ev 49 71 (ls) (.int (8) :: st) h := am_ev_step (q := (71, ls, .int (8) :: st, h)) _ (.bipush (8)) 2 am_my_49 (by decide +kernel) rfl
theorem e49_71 {ls : List (Option Value)} {st : List Value} {h : am_H} {a b : Int32} : am_ev 49 71 ls (.int b :: .int a :: st) h = if b ≤ a then am_ev 49 111 ls st h else am_ev 49 74 ls st h := am_u_if2 (c := .ge) (off := 40) am_my_49 (by decide +kernel) (by decide)
theorem e49_74 {ls : List (Option Value)} {st : List Value} {h : am_H} {a : Nat} : am_ev 49 74 (some (.ref a) :: ls) (st) h = am_ev 49 75 (some (.ref a) :: ls) (.ref a :: st) h := am_ev_step (q := (75, some (.ref a) :: ls, .ref a :: st, h)) _ (.aload_n 0) 1 am_my_49 (by decide +kernel) rfl
theorem e49_75 {ls : List (Option Value)} {st : List Value} {h : am_H} {o : Nat} (hk : am_kd h o = some (.inl 0)) : am_ev 49 75 ls (.ref o :: st) h = am_ev 49 78 ls (va_rf (h.2.2.1 o 5) :: st) h := am_u_gfR (idx := 18) (wn := 1133) (a := 0) am_my_49 (by decide +kernel) (by decide +kernel) (by decide +kernel) hk
theorem e49_78 {ls : List (Option Value)} {st : List Value} {h : am_H} {a : Nat} : am_ev 49 78 (some (.ref a) :: ls) (st) h = am_ev 49 79 (some (.ref a) :: ls) (.ref a :: st) h := am_ev_step (q := (79, some (.ref a) :: ls, .ref a :: st, h)) _ (.aload_n 0) 1 am_my_49 (by decide +kernel) rfl
theorem e49_79 {ls : List (Option Value)} {st : List Value} {h : am_H} {o : Nat} (hk : am_kd h o = some (.inl 0)) : am_ev 49 79 ls (.ref o :: st) h = am_ev 49 82 ls (.int (h.1 o 1) :: st) h := am_u_gfI (idx := 31) (wn := 1123) am_my_49 (by decide +kernel) (by decide +kernel) (by decide +kernel) hk
theorem e49_82 {ls : List (Option Value)} {st : List Value} {h : am_H} {l0 l1 : Option Value} {a : Nat} : am_ev 49 82 (l0 :: l1 :: some (.ref a) :: ls) (st) h = am_ev 49 83 (l0 :: l1 :: some (.ref a) :: ls) (.ref a :: st) h := am_ev_step (q := (83, l0 :: l1 :: some (.ref a) :: ls, .ref a :: st, h)) _ (.aload_n 2) 1 am_my_49 (by decide +kernel) rfl
theorem e49_83 {ls : List (Option Value)} {st : List Value} {h : am_H} : am_ev 49 83 (ls) (st) h = am_ev 49 84 (ls) (.int (0) :: st) h := am_ev_step (q := (84, ls, .int (0) :: st, h)) _ (.iconst (0)) 1 am_my_49 (by decide +kernel) rfl
theorem e49_84 {ls : List (Option Value)} {st : List Value} {h : am_H} {i : Int32} {a : Nat} (ht : am_tc h a = some 0) : am_ev 49 84 ls (.int i :: .ref a :: st) h = if am_ix i (am_len h a) = true then am_ev 49 85 ls (.int (h.1 a i.toNatClampNeg) :: st) h else none := am_u_rI am_my_49 (by decide +kernel) ht
theorem e49_85 {ls : List (Option Value)} {st : List Value} {h : am_H} {v i : Int32} {a : Nat} (ht : am_tc h a = some 0) : am_ev 49 85 ls (.int v :: .int i :: .ref a :: st) h = if am_ix i (am_len h a) = true then am_ev 49 86 ls st (am_sI h a i.toNatClampNeg v) else none := am_u_wI am_my_49 (by decide +kernel) ht
theorem e49_86 {ls : List (Option Value)} {st : List Value} {h : am_H} {a : Nat} : am_ev 49 86 (some (.ref a) :: ls) (st) h = am_ev 49 87 (some (.ref a) :: ls) (.ref a :: st) h := am_ev_step (q := (87, some (.ref a) :: ls, .ref a :: st, h)) _ (.aload_n 0) 1 am_my_49 (by decide +kernel) rfl
theorem e49_87 {ls : List (Option Value)} {st : List Value} {h : am_H} {o : Nat} (hk : am_kd h o = some (.inl 0)) : am_ev 49 87 ls (.ref o :: st) h = am_ev 49 90 ls (va_rf (h.2.2.1 o 6) :: st) h := am_u_gfR (idx := 21) (wn := 1135) (a := 0) am_my_49 (by decide +kernel) (by decide +kernel) (by decide +kernel) hk
theorem e49_90 {ls : List (Option Value)} {st : List Value} {h : am_H} {a : Nat} : am_ev 49 90 (some (.ref a) :: ls) (st) h = am_ev 49 91 (some (.ref a) :: ls) (.ref a :: st) h := am_ev_step (q := (91, some (.ref a) :: ls, .ref a :: st, h)) _ (.aload_n 0) 1 am_my_49 (by decide +kernel) rfl
theorem e49_91 {ls : List (Option Value)} {st : List Value} {h : am_H} {o : Nat} (hk : am_kd h o = some (.inl 0)) : am_ev 49 91 ls (.ref o :: st) h = am_ev 49 94 ls (.int (h.1 o 1) :: st) h := am_u_gfI (idx := 31) (wn := 1123) am_my_49 (by decide +kernel) (by decide +kernel) (by decide +kernel) hk
theorem e49_94 {ls : List (Option Value)} {st : List Value} {h : am_H} {l0 l1 : Option Value} {a : Nat} : am_ev 49 94 (l0 :: l1 :: some (.ref a) :: ls) (st) h = am_ev 49 95 (l0 :: l1 :: some (.ref a) :: ls) (.ref a :: st) h := am_ev_step (q := (95, l0 :: l1 :: some (.ref a) :: ls, .ref a :: st, h)) _ (.aload_n 2) 1 am_my_49 (by decide +kernel) rfl
theorem e49_95 {ls : List (Option Value)} {st : List Value} {h : am_H} : am_ev 49 95 (ls) (st) h = am_ev 49 96 (ls) (.int (1) :: st) h := am_ev_step (q := (96, ls, .int (1) :: st, h)) _ (.iconst (1)) 1 am_my_49 (by decide +kernel) rfl
theorem e49_96 {ls : List (Option Value)} {st : List Value} {h : am_H} {i : Int32} {a : Nat} (ht : am_tc h a = some 0) : am_ev 49 96 ls (.int i :: .ref a :: st) h = if am_ix i (am_len h a) = true then am_ev 49 97 ls (.int (h.1 a i.toNatClampNeg) :: st) h else none := am_u_rI am_my_49 (by decide +kernel) ht
theorem e49_97 {ls : List (Option Value)} {st : List Value} {h : am_H} {v i : Int32} {a : Nat} (ht : am_tc h a = some 0) : am_ev 49 97 ls (.int v :: .int i :: .ref a :: st) h = if am_ix i (am_len h a) = true then am_ev 49 98 ls st (am_sI h a i.toNatClampNeg v) else none := am_u_wI am_my_49 (by decide +kernel) ht
theorem e49_98 {ls : List (Option Value)} {st : List Value} {h : am_H} {a : Nat} : am_ev 49 98 (some (.ref a) :: ls) (st) h = am_ev 49 99 (some (.ref a) :: ls) (.ref a :: st) h := am_ev_step (q := (99, some (.ref a) :: ls, .ref a :: st, h)) _ (.aload_n 0) 1 am_my_49 (by decide +kernel) rfl
theorem e49_99 {ls : List (Option Value)} {st : List Value} {h : am_H} {a : Nat} : am_ev 49 99 (ls) (.ref a :: st) h = am_ev 49 100 (ls) (.ref a :: .ref a :: st) h := am_ev_step (q := (100, ls, .ref a :: .ref a :: st, h)) _ (.dup) 1 am_my_49 (by decide +kernel) rfl
theorem e49_99i {ls : List (Option Value)} {st : List Value} {h : am_H} {a : Int32} : am_ev 49 99 (ls) (.int a :: st) h = am_ev 49 100 (ls) (.int a :: .int a :: st) h := am_ev_step (q := (100, ls, .int a :: .int a :: st, h)) _ (.dup) 1 am_my_49 (by decide +kernel) rfl
theorem e49_100 {ls : List (Option Value)} {st : List Value} {h : am_H} {o : Nat} (hk : am_kd h o = some (.inl 0)) : am_ev 49 100 ls (.ref o :: st) h = am_ev 49 103 ls (.int (h.1 o 1) :: st) h := am_u_gfI (idx := 31) (wn := 1123) am_my_49 (by decide +kernel) (by decide +kernel) (by decide +kernel) hk
theorem e49_103 {ls : List (Option Value)} {st : List Value} {h : am_H} : am_ev 49 103 (ls) (st) h = am_ev 49 104 (ls) (.int (1) :: st) h := am_ev_step (q := (104, ls, .int (1) :: st, h)) _ (.iconst (1)) 1 am_my_49 (by decide +kernel) rfl
theorem e49_104 {ls : List (Option Value)} {st : List Value} {h : am_H} {a b : Int32} : am_ev 49 104 (ls) (.int b :: .int a :: st) h = am_ev 49 105 (ls) (.int (a + b) :: st) h := am_ev_step (q := (105, ls, .int (a + b) :: st, h)) _ (.iadd) 1 am_my_49 (by decide +kernel) rfl
theorem e49_105 {ls : List (Option Value)} {st : List Value} {h : am_H} {o : Nat} {v : Int32} (hk : am_kd h o = some (.inl 0)) : am_ev 49 105 ls (.int v :: .ref o :: st) h = am_ev 49 108 ls st (am_sI h o 1 v) := am_u_pfI (idx := 31) (wn := 1123) am_my_49 (by decide +kernel) (by decide +kernel) (by decide +kernel) (by decide +kernel) hk
theorem e49_108 {ls : List (Option Value)} {st : List Value} {h : am_H} : am_ev 49 108 (ls) (st) h = am_ev 49 152 (ls) (st) h := am_ev_step (q := (152, ls, st, h)) _ (.goto (44)) 3 am_my_49 (by decide +kernel) rfl
theorem e49_111 {ls : List (Option Value)} {st : List Value} {h : am_H} {l0 : Option Value} {a : Int32} : am_ev 49 111 (l0 :: some (.int a) :: ls) (st) h = am_ev 49 112 (l0 :: some (.int a) :: ls) (.int a :: st) h := am_ev_step (q := (112, l0 :: some (.int a) :: ls, .int a :: st, h)) _ (.iload_n 1) 1 am_my_49 (by decide +kernel) rfl
theorem e49_112 {ls : List (Option Value)} {st : List Value} {h : am_H} : am_ev 49 112 ls st h = am_ev 49 115 ls (.ref 1048592 :: st) h := am_u_gs (idx := 55) (z := 7) (wn := 3110) (q := ("DogNotary$Line", "FIELD", "LDogNotary$Line;", .ref 1048592)) am_my_49 (by decide +kernel) (by decide +kernel) (by decide +kernel) (by decide +kernel)
theorem e49_115 {ls : List (Option Value)} {st : List Value} {h : am_H} {o : Nat} : am_ev 49 115 ls (.ref o :: st) h = am_ob (kOv o 15) (fun v => am_ev 49 118 ls (v :: st) h) := am_u_gfK (idx := 49) (wn := 8138) am_my_49 (by decide +kernel) (by decide +kernel) (by decide +kernel)
theorem e49_118 {ls : List (Option Value)} {st : List Value} {h : am_H} {a b : Int32} : am_ev 49 118 ls (.int b :: .int a :: st) h = if ¬ a = b then am_ev 49 152 ls st h else am_ev 49 121 ls st h := am_u_if2 (c := .ne) (off := 34) am_my_49 (by decide +kernel) (by decide)
theorem e49_121 {ls : List (Option Value)} {st : List Value} {h : am_H} {a : Nat} : am_ev 49 121 (some (.ref a) :: ls) (st) h = am_ev 49 122 (some (.ref a) :: ls) (.ref a :: st) h := am_ev_step (q := (122, some (.ref a) :: ls, .ref a :: st, h)) _ (.aload_n 0) 1 am_my_49 (by decide +kernel) rfl
theorem e49_122 {ls : List (Option Value)} {st : List Value} {h : am_H} {o : Nat} (hk : am_kd h o = some (.inl 0)) : am_ev 49 122 ls (.ref o :: st) h = am_ev 49 125 ls (.int (h.1 o 2) :: st) h := am_u_gfI (idx := 34) (wn := 1126) am_my_49 (by decide +kernel) (by decide +kernel) (by decide +kernel) hk
theorem e49_125 {ls : List (Option Value)} {st : List Value} {h : am_H} : am_ev 49 125 (ls) (st) h = am_ev 49 127 (ls) (.int (10) :: st) h := am_ev_step (q := (127, ls, .int (10) :: st, h)) _ (.bipush (10)) 2 am_my_49 (by decide +kernel) rfl
theorem e49_127 {ls : List (Option Value)} {st : List Value} {h : am_H} {a b : Int32} : am_ev 49 127 ls (.int b :: .int a :: st) h = if b ≤ a then am_ev 49 152 ls st h else am_ev 49 130 ls st h := am_u_if2 (c := .ge) (off := 25) am_my_49 (by decide +kernel) (by decide)
theorem e49_130 {ls : List (Option Value)} {st : List Value} {h : am_H} {a : Nat} : am_ev 49 130 (some (.ref a) :: ls) (st) h = am_ev 49 131 (some (.ref a) :: ls) (.ref a :: st) h := am_ev_step (q := (131, some (.ref a) :: ls, .ref a :: st, h)) _ (.aload_n 0) 1 am_my_49 (by decide +kernel) rfl
theorem e49_131 {ls : List (Option Value)} {st : List Value} {h : am_H} {o : Nat} (hk : am_kd h o = some (.inl 0)) : am_ev 49 131 ls (.ref o :: st) h = am_ev 49 134 ls (va_rf (h.2.2.1 o 7) :: st) h := am_u_gfR (idx := 24) (wn := 1137) (a := 0) am_my_49 (by decide +kernel) (by decide +kernel) (by decide +kernel) hk
theorem e49_134 {ls : List (Option Value)} {st : List Value} {h : am_H} {a : Nat} : am_ev 49 134 (some (.ref a) :: ls) (st) h = am_ev 49 135 (some (.ref a) :: ls) (.ref a :: st) h := am_ev_step (q := (135, some (.ref a) :: ls, .ref a :: st, h)) _ (.aload_n 0) 1 am_my_49 (by decide +kernel) rfl
theorem e49_135 {ls : List (Option Value)} {st : List Value} {h : am_H} {o : Nat} (hk : am_kd h o = some (.inl 0)) : am_ev 49 135 ls (.ref o :: st) h = am_ev 49 138 ls (.int (h.1 o 2) :: st) h := am_u_gfI (idx := 34) (wn := 1126) am_my_49 (by decide +kernel) (by decide +kernel) (by decide +kernel) hk
theorem e49_138 {ls : List (Option Value)} {st : List Value} {h : am_H} {l0 l1 : Option Value} {a : Nat} : am_ev 49 138 (l0 :: l1 :: some (.ref a) :: ls) (st) h = am_ev 49 139 (l0 :: l1 :: some (.ref a) :: ls) (.ref a :: st) h := am_ev_step (q := (139, l0 :: l1 :: some (.ref a) :: ls, .ref a :: st, h)) _ (.aload_n 2) 1 am_my_49 (by decide +kernel) rfl
theorem e49_139 {ls : List (Option Value)} {st : List Value} {h : am_H} : am_ev 49 139 (ls) (st) h = am_ev 49 140 (ls) (.int (0) :: st) h := am_ev_step (q := (140, ls, .int (0) :: st, h)) _ (.iconst (0)) 1 am_my_49 (by decide +kernel) rfl
theorem e49_140 {ls : List (Option Value)} {st : List Value} {h : am_H} {i : Int32} {a : Nat} (ht : am_tc h a = some 0) : am_ev 49 140 ls (.int i :: .ref a :: st) h = if am_ix i (am_len h a) = true then am_ev 49 141 ls (.int (h.1 a i.toNatClampNeg) :: st) h else none := am_u_rI am_my_49 (by decide +kernel) ht
theorem e49_141 {ls : List (Option Value)} {st : List Value} {h : am_H} {v i : Int32} {a : Nat} (ht : am_tc h a = some 0) : am_ev 49 141 ls (.int v :: .int i :: .ref a :: st) h = if am_ix i (am_len h a) = true then am_ev 49 142 ls st (am_sI h a i.toNatClampNeg v) else none := am_u_wI am_my_49 (by decide +kernel) ht
theorem e49_142 {ls : List (Option Value)} {st : List Value} {h : am_H} {a : Nat} : am_ev 49 142 (some (.ref a) :: ls) (st) h = am_ev 49 143 (some (.ref a) :: ls) (.ref a :: st) h := am_ev_step (q := (143, some (.ref a) :: ls, .ref a :: st, h)) _ (.aload_n 0) 1 am_my_49 (by decide +kernel) rfl
theorem e49_143 {ls : List (Option Value)} {st : List Value} {h : am_H} {a : Nat} : am_ev 49 143 (ls) (.ref a :: st) h = am_ev 49 144 (ls) (.ref a :: .ref a :: st) h := am_ev_step (q := (144, ls, .ref a :: .ref a :: st, h)) _ (.dup) 1 am_my_49 (by decide +kernel) rfl
theorem e49_143i {ls : List (Option Value)} {st : List Value} {h : am_H} {a : Int32} : am_ev 49 143 (ls) (.int a :: st) h = am_ev 49 144 (ls) (.int a :: .int a :: st) h := am_ev_step (q := (144, ls, .int a :: .int a :: st, h)) _ (.dup) 1 am_my_49 (by decide +kernel) rfl
theorem e49_144 {ls : List (Option Value)} {st : List Value} {h : am_H} {o : Nat} (hk : am_kd h o = some (.inl 0)) : am_ev 49 144 ls (.ref o :: st) h = am_ev 49 147 ls (.int (h.1 o 2) :: st) h := am_u_gfI (idx := 34) (wn := 1126) am_my_49 (by decide +kernel) (by decide +kernel) (by decide +kernel) hk
theorem e49_147 {ls : List (Option Value)} {st : List Value} {h : am_H} : am_ev 49 147 (ls) (st) h = am_ev 49 148 (ls) (.int (1) :: st) h := am_ev_step (q := (148, ls, .int (1) :: st, h)) _ (.iconst (1)) 1 am_my_49 (by decide +kernel) rfl
theorem e49_148 {ls : List (Option Value)} {st : List Value} {h : am_H} {a b : Int32} : am_ev 49 148 (ls) (.int b :: .int a :: st) h = am_ev 49 149 (ls) (.int (a + b) :: st) h := am_ev_step (q := (149, ls, .int (a + b) :: st, h)) _ (.iadd) 1 am_my_49 (by decide +kernel) rfl
theorem e49_149 {ls : List (Option Value)} {st : List Value} {h : am_H} {o : Nat} {v : Int32} (hk : am_kd h o = some (.inl 0)) : am_ev 49 149 ls (.int v :: .ref o :: st) h = am_ev 49 152 ls st (am_sI h o 2 v) := am_u_pfI (idx := 34) (wn := 1126) am_my_49 (by decide +kernel) (by decide +kernel) (by decide +kernel) (by decide +kernel) hk
theorem e49_152 {ls : List (Option Value)} {h : am_H} : am_ev 49 152 ls [] h = some (none, h) := am_u_rtV am_my_49 (by decide +kernel) rfl
theorem e50_0 {ls : List (Option Value)} {st : List Value} {h : am_H} {a : Nat} : am_ev 50 0 (some (.ref a) :: ls) (st) h = am_ev 50 1 (some (.ref a) :: ls) (.ref a :: st) h := am_ev_step (q := (1, some (.ref a) :: ls, .ref a :: st, h)) _ (.aload_n 0) 1 am_my_50 (by decide +kernel) rfl
theorem e50_1 {ls : List (Option Value)} {st : List Value} {h : am_H} {o : Nat} (hk : am_kd h o = some (.inl 5)) : am_ev 50 1 ls (.ref o :: st) h = am_ev 50 4 ls (.int (h.1 o 0) :: st) h := am_u_gfI (idx := 24) (wn := 1160) am_my_50 (by decide +kernel) (by decide +kernel) (by decide +kernel) hk
theorem e50_4 {ls : List (Option Value)} {st : List Value} {h : am_H} : am_ev 50 4 (ls) (st) h = am_ev 50 6 (ls) (.int (8) :: st) h := am_ev_step (q := (6, ls, .int (8) :: st, h)) _ (.bipush (8)) 2 am_my_50 (by decide +kernel) rfl
theorem e50_6 {ls : List (Option Value)} {st : List Value} {h : am_H} {a b : Int32} : am_ev 50 6 ls (.int b :: .int a :: st) h = if b ≤ a then am_ev 50 88 ls st h else am_ev 50 9 ls st h := am_u_if2 (c := .ge) (off := 82) am_my_50 (by decide +kernel) (by decide)
theorem e50_9 {ls : List (Option Value)} {st : List Value} {h : am_H} {a : Nat} : am_ev 50 9 (some (.ref a) :: ls) (st) h = am_ev 50 10 (some (.ref a) :: ls) (.ref a :: st) h := am_ev_step (q := (10, some (.ref a) :: ls, .ref a :: st, h)) _ (.aload_n 0) 1 am_my_50 (by decide +kernel) rfl
theorem e50_10 {ls : List (Option Value)} {st : List Value} {h : am_H} {o : Nat} (hk : am_kd h o = some (.inl 5)) : am_ev 50 10 ls (.ref o :: st) h = am_ev 50 13 ls (va_rf (h.2.2.1 o 1) :: st) h := am_u_gfR (idx := 9) (wn := 1163) (a := 0) am_my_50 (by decide +kernel) (by decide +kernel) (by decide +kernel) hk
theorem e50_13 {ls : List (Option Value)} {st : List Value} {h : am_H} {a : Nat} : am_ev 50 13 (some (.ref a) :: ls) (st) h = am_ev 50 14 (some (.ref a) :: ls) (.ref a :: st) h := am_ev_step (q := (14, some (.ref a) :: ls, .ref a :: st, h)) _ (.aload_n 0) 1 am_my_50 (by decide +kernel) rfl
theorem e50_14 {ls : List (Option Value)} {st : List Value} {h : am_H} {o : Nat} (hk : am_kd h o = some (.inl 5)) : am_ev 50 14 ls (.ref o :: st) h = am_ev 50 17 ls (.int (h.1 o 0) :: st) h := am_u_gfI (idx := 24) (wn := 1160) am_my_50 (by decide +kernel) (by decide +kernel) (by decide +kernel) hk
theorem e50_17 {ls : List (Option Value)} {st : List Value} {h : am_H} {l0 : Option Value} {a : Int32} : am_ev 50 17 (l0 :: some (.int a) :: ls) (st) h = am_ev 50 18 (l0 :: some (.int a) :: ls) (.int a :: st) h := am_ev_step (q := (18, l0 :: some (.int a) :: ls, .int a :: st, h)) _ (.iload_n 1) 1 am_my_50 (by decide +kernel) rfl
theorem e50_18 {ls : List (Option Value)} {st : List Value} {h : am_H} {v i : Int32} {a : Nat} (ht : am_tc h a = some 0) : am_ev 50 18 ls (.int v :: .int i :: .ref a :: st) h = if am_ix i (am_len h a) = true then am_ev 50 19 ls st (am_sI h a i.toNatClampNeg v) else none := am_u_wI am_my_50 (by decide +kernel) ht
theorem e50_19 {ls : List (Option Value)} {st : List Value} {h : am_H} {a : Nat} : am_ev 50 19 (some (.ref a) :: ls) (st) h = am_ev 50 20 (some (.ref a) :: ls) (.ref a :: st) h := am_ev_step (q := (20, some (.ref a) :: ls, .ref a :: st, h)) _ (.aload_n 0) 1 am_my_50 (by decide +kernel) rfl
theorem e50_20 {ls : List (Option Value)} {st : List Value} {h : am_H} {o : Nat} (hk : am_kd h o = some (.inl 5)) : am_ev 50 20 ls (.ref o :: st) h = am_ev 50 23 ls (va_rf (h.2.2.1 o 2) :: st) h := am_u_gfR (idx := 15) (wn := 1164) (a := 0) am_my_50 (by decide +kernel) (by decide +kernel) (by decide +kernel) hk
theorem e50_23 {ls : List (Option Value)} {st : List Value} {h : am_H} {a : Nat} : am_ev 50 23 (some (.ref a) :: ls) (st) h = am_ev 50 24 (some (.ref a) :: ls) (.ref a :: st) h := am_ev_step (q := (24, some (.ref a) :: ls, .ref a :: st, h)) _ (.aload_n 0) 1 am_my_50 (by decide +kernel) rfl
theorem e50_24 {ls : List (Option Value)} {st : List Value} {h : am_H} {o : Nat} (hk : am_kd h o = some (.inl 5)) : am_ev 50 24 ls (.ref o :: st) h = am_ev 50 27 ls (.int (h.1 o 0) :: st) h := am_u_gfI (idx := 24) (wn := 1160) am_my_50 (by decide +kernel) (by decide +kernel) (by decide +kernel) hk
theorem e50_27 {ls : List (Option Value)} {st : List Value} {h : am_H} : am_ev 50 27 (ls) (st) h = am_ev 50 29 (ls) (.int (8) :: st) h := am_ev_step (q := (29, ls, .int (8) :: st, h)) _ (.bipush (8)) 2 am_my_50 (by decide +kernel) rfl
theorem e50_29 {ls : List (Option Value)} {st : List Value} {h : am_H} {l0 l1 : Option Value} {a : Nat} : am_ev 50 29 (l0 :: l1 :: some (.ref a) :: ls) (st) h = am_ev 50 30 (l0 :: l1 :: some (.ref a) :: ls) (.ref a :: st) h := am_ev_step (q := (30, l0 :: l1 :: some (.ref a) :: ls, .ref a :: st, h)) _ (.aload_n 2) 1 am_my_50 (by decide +kernel) rfl
theorem e50_30 {ls : List (Option Value)} {st : List Value} {h : am_H} : am_ev 50 30 (ls) (st) h = am_ev 50 31 (ls) (.int (1) :: st) h := am_ev_step (q := (31, ls, .int (1) :: st, h)) _ (.iconst (1)) 1 am_my_50 (by decide +kernel) rfl
theorem e50_31 {ls : List (Option Value)} {st : List Value} {h : am_H} {i : Int32} {a : Nat} (ht : am_tc h a = some 0) : am_ev 50 31 ls (.int i :: .ref a :: st) h = if am_ix i (am_len h a) = true then am_ev 50 32 ls (.int (h.1 a i.toNatClampNeg) :: st) h else none := am_u_rI am_my_50 (by decide +kernel) ht
theorem e50_32 {ls : List (Option Value)} {st : List Value} {h : am_H} {a b : Int32} : am_ev 50 32 (ls) (.int b :: .int a :: st) h = am_ev 50 33 (ls) (.int (a * b) :: st) h := am_ev_step (q := (33, ls, .int (a * b) :: st, h)) _ (.imul) 1 am_my_50 (by decide +kernel) rfl
theorem e50_33 {ls : List (Option Value)} {st : List Value} {h : am_H} {l0 l1 : Option Value} {a : Nat} : am_ev 50 33 (l0 :: l1 :: some (.ref a) :: ls) (st) h = am_ev 50 34 (l0 :: l1 :: some (.ref a) :: ls) (.ref a :: st) h := am_ev_step (q := (34, l0 :: l1 :: some (.ref a) :: ls, .ref a :: st, h)) _ (.aload_n 2) 1 am_my_50 (by decide +kernel) rfl
theorem e50_34 {ls : List (Option Value)} {st : List Value} {h : am_H} : am_ev 50 34 (ls) (st) h = am_ev 50 35 (ls) (.int (0) :: st) h := am_ev_step (q := (35, ls, .int (0) :: st, h)) _ (.iconst (0)) 1 am_my_50 (by decide +kernel) rfl
theorem e50_35 {ls : List (Option Value)} {st : List Value} {h : am_H} {i : Int32} {a : Nat} (ht : am_tc h a = some 0) : am_ev 50 35 ls (.int i :: .ref a :: st) h = if am_ix i (am_len h a) = true then am_ev 50 36 ls (.int (h.1 a i.toNatClampNeg) :: st) h else none := am_u_rI am_my_50 (by decide +kernel) ht
theorem e50_36 {ls : List (Option Value)} {st : List Value} {h : am_H} {a b : Int32} : am_ev 50 36 (ls) (.int b :: .int a :: st) h = am_ev 50 37 (ls) (.int (a + b) :: st) h := am_ev_step (q := (37, ls, .int (a + b) :: st, h)) _ (.iadd) 1 am_my_50 (by decide +kernel) rfl
theorem e50_37 {ls : List (Option Value)} {st : List Value} {h : am_H} {v i : Int32} {a : Nat} (ht : am_tc h a = some 0) : am_ev 50 37 ls (.int v :: .int i :: .ref a :: st) h = if am_ix i (am_len h a) = true then am_ev 50 38 ls st (am_sI h a i.toNatClampNeg v) else none := am_u_wI am_my_50 (by decide +kernel) ht
theorem e50_38 {ls : List (Option Value)} {st : List Value} {h : am_H} {a : Nat} : am_ev 50 38 (some (.ref a) :: ls) (st) h = am_ev 50 39 (some (.ref a) :: ls) (.ref a :: st) h := am_ev_step (q := (39, some (.ref a) :: ls, .ref a :: st, h)) _ (.aload_n 0) 1 am_my_50 (by decide +kernel) rfl
theorem e50_39 {ls : List (Option Value)} {st : List Value} {h : am_H} {o : Nat} (hk : am_kd h o = some (.inl 5)) : am_ev 50 39 ls (.ref o :: st) h = am_ev 50 42 ls (va_rf (h.2.2.1 o 3) :: st) h := am_u_gfR (idx := 18) (wn := 1166) (a := 0) am_my_50 (by decide +kernel) (by decide +kernel) (by decide +kernel) hk
theorem e50_42 {ls : List (Option Value)} {st : List Value} {h : am_H} {a : Nat} : am_ev 50 42 (some (.ref a) :: ls) (st) h = am_ev 50 43 (some (.ref a) :: ls) (.ref a :: st) h := am_ev_step (q := (43, some (.ref a) :: ls, .ref a :: st, h)) _ (.aload_n 0) 1 am_my_50 (by decide +kernel) rfl
theorem e50_43 {ls : List (Option Value)} {st : List Value} {h : am_H} {o : Nat} (hk : am_kd h o = some (.inl 5)) : am_ev 50 43 ls (.ref o :: st) h = am_ev 50 46 ls (.int (h.1 o 0) :: st) h := am_u_gfI (idx := 24) (wn := 1160) am_my_50 (by decide +kernel) (by decide +kernel) (by decide +kernel) hk
theorem e50_46 {ls : List (Option Value)} {st : List Value} {h : am_H} : am_ev 50 46 (ls) (st) h = am_ev 50 48 (ls) (.int (8) :: st) h := am_ev_step (q := (48, ls, .int (8) :: st, h)) _ (.bipush (8)) 2 am_my_50 (by decide +kernel) rfl
theorem e50_48 {ls : List (Option Value)} {st : List Value} {h : am_H} {l0 l1 : Option Value} {a : Nat} : am_ev 50 48 (l0 :: l1 :: some (.ref a) :: ls) (st) h = am_ev 50 49 (l0 :: l1 :: some (.ref a) :: ls) (.ref a :: st) h := am_ev_step (q := (49, l0 :: l1 :: some (.ref a) :: ls, .ref a :: st, h)) _ (.aload_n 2) 1 am_my_50 (by decide +kernel) rfl
theorem e50_49 {ls : List (Option Value)} {st : List Value} {h : am_H} : am_ev 50 49 (ls) (st) h = am_ev 50 50 (ls) (.int (3) :: st) h := am_ev_step (q := (50, ls, .int (3) :: st, h)) _ (.iconst (3)) 1 am_my_50 (by decide +kernel) rfl
theorem e50_50 {ls : List (Option Value)} {st : List Value} {h : am_H} {i : Int32} {a : Nat} (ht : am_tc h a = some 0) : am_ev 50 50 ls (.int i :: .ref a :: st) h = if am_ix i (am_len h a) = true then am_ev 50 51 ls (.int (h.1 a i.toNatClampNeg) :: st) h else none := am_u_rI am_my_50 (by decide +kernel) ht
theorem e50_51 {ls : List (Option Value)} {st : List Value} {h : am_H} {a b : Int32} : am_ev 50 51 (ls) (.int b :: .int a :: st) h = am_ev 50 52 (ls) (.int (a * b) :: st) h := am_ev_step (q := (52, ls, .int (a * b) :: st, h)) _ (.imul) 1 am_my_50 (by decide +kernel) rfl
theorem e50_52 {ls : List (Option Value)} {st : List Value} {h : am_H} {l0 l1 : Option Value} {a : Nat} : am_ev 50 52 (l0 :: l1 :: some (.ref a) :: ls) (st) h = am_ev 50 53 (l0 :: l1 :: some (.ref a) :: ls) (.ref a :: st) h := am_ev_step (q := (53, l0 :: l1 :: some (.ref a) :: ls, .ref a :: st, h)) _ (.aload_n 2) 1 am_my_50 (by decide +kernel) rfl
theorem e50_53 {ls : List (Option Value)} {st : List Value} {h : am_H} : am_ev 50 53 (ls) (st) h = am_ev 50 54 (ls) (.int (2) :: st) h := am_ev_step (q := (54, ls, .int (2) :: st, h)) _ (.iconst (2)) 1 am_my_50 (by decide +kernel) rfl
theorem e50_54 {ls : List (Option Value)} {st : List Value} {h : am_H} {i : Int32} {a : Nat} (ht : am_tc h a = some 0) : am_ev 50 54 ls (.int i :: .ref a :: st) h = if am_ix i (am_len h a) = true then am_ev 50 55 ls (.int (h.1 a i.toNatClampNeg) :: st) h else none := am_u_rI am_my_50 (by decide +kernel) ht
theorem e50_55 {ls : List (Option Value)} {st : List Value} {h : am_H} {a b : Int32} : am_ev 50 55 (ls) (.int b :: .int a :: st) h = am_ev 50 56 (ls) (.int (a + b) :: st) h := am_ev_step (q := (56, ls, .int (a + b) :: st, h)) _ (.iadd) 1 am_my_50 (by decide +kernel) rfl
theorem e50_56 {ls : List (Option Value)} {st : List Value} {h : am_H} {v i : Int32} {a : Nat} (ht : am_tc h a = some 0) : am_ev 50 56 ls (.int v :: .int i :: .ref a :: st) h = if am_ix i (am_len h a) = true then am_ev 50 57 ls st (am_sI h a i.toNatClampNeg v) else none := am_u_wI am_my_50 (by decide +kernel) ht
theorem e50_57 {ls : List (Option Value)} {st : List Value} {h : am_H} {a : Nat} : am_ev 50 57 (some (.ref a) :: ls) (st) h = am_ev 50 58 (some (.ref a) :: ls) (.ref a :: st) h := am_ev_step (q := (58, some (.ref a) :: ls, .ref a :: st, h)) _ (.aload_n 0) 1 am_my_50 (by decide +kernel) rfl
theorem e50_58 {ls : List (Option Value)} {st : List Value} {h : am_H} {o : Nat} (hk : am_kd h o = some (.inl 5)) : am_ev 50 58 ls (.ref o :: st) h = am_ev 50 61 ls (va_rf (h.2.2.1 o 4) :: st) h := am_u_gfR (idx := 21) (wn := 1168) (a := 0) am_my_50 (by decide +kernel) (by decide +kernel) (by decide +kernel) hk
theorem e50_61 {ls : List (Option Value)} {st : List Value} {h : am_H} {a : Nat} : am_ev 50 61 (some (.ref a) :: ls) (st) h = am_ev 50 62 (some (.ref a) :: ls) (.ref a :: st) h := am_ev_step (q := (62, some (.ref a) :: ls, .ref a :: st, h)) _ (.aload_n 0) 1 am_my_50 (by decide +kernel) rfl
theorem e50_62 {ls : List (Option Value)} {st : List Value} {h : am_H} {o : Nat} (hk : am_kd h o = some (.inl 5)) : am_ev 50 62 ls (.ref o :: st) h = am_ev 50 65 ls (.int (h.1 o 0) :: st) h := am_u_gfI (idx := 24) (wn := 1160) am_my_50 (by decide +kernel) (by decide +kernel) (by decide +kernel) hk
theorem e50_65 {ls : List (Option Value)} {st : List Value} {h : am_H} {l0 : Option Value} {a : Int32} : am_ev 50 65 (l0 :: some (.int a) :: ls) (st) h = am_ev 50 66 (l0 :: some (.int a) :: ls) (.int a :: st) h := am_ev_step (q := (66, l0 :: some (.int a) :: ls, .int a :: st, h)) _ (.iload_n 1) 1 am_my_50 (by decide +kernel) rfl
theorem e50_66 {ls : List (Option Value)} {st : List Value} {h : am_H} : am_ev 50 66 (ls) (st) h = am_ev 50 67 (ls) (.int (2) :: st) h := am_ev_step (q := (67, ls, .int (2) :: st, h)) _ (.iconst (2)) 1 am_my_50 (by decide +kernel) rfl
theorem e50_67 {ls : List (Option Value)} {st : List Value} {h : am_H} {a b : Int32} : am_ev 50 67 ls (.int b :: .int a :: st) h = if ¬ a = b then am_ev 50 74 ls st h else am_ev 50 70 ls st h := am_u_if2 (c := .ne) (off := 7) am_my_50 (by decide +kernel) (by decide)
theorem e50_70 {ls : List (Option Value)} {st : List Value} {h : am_H} : am_ev 50 70 (ls) (st) h = am_ev 50 71 (ls) (.int (-1) :: st) h := am_ev_step (q := (71, ls, .int (-1) :: st, h)) _ (.iconst (-1)) 1 am_my_50 (by decide +kernel) rfl
theorem e50_71 {ls : List (Option Value)} {st : List Value} {h : am_H} : am_ev 50 71 (ls) (st) h = am_ev 50 77 (ls) (st) h := am_ev_step (q := (77, ls, st, h)) _ (.goto (6)) 3 am_my_50 (by decide +kernel) rfl
theorem e50_74 {ls : List (Option Value)} {st : List Value} {h : am_H} {l0 l1 : Option Value} {a : Nat} : am_ev 50 74 (l0 :: l1 :: some (.ref a) :: ls) (st) h = am_ev 50 75 (l0 :: l1 :: some (.ref a) :: ls) (.ref a :: st) h := am_ev_step (q := (75, l0 :: l1 :: some (.ref a) :: ls, .ref a :: st, h)) _ (.aload_n 2) 1 am_my_50 (by decide +kernel) rfl
theorem e50_75 {ls : List (Option Value)} {st : List Value} {h : am_H} : am_ev 50 75 (ls) (st) h = am_ev 50 76 (ls) (.int (4) :: st) h := am_ev_step (q := (76, ls, .int (4) :: st, h)) _ (.iconst (4)) 1 am_my_50 (by decide +kernel) rfl
theorem e50_76 {ls : List (Option Value)} {st : List Value} {h : am_H} {i : Int32} {a : Nat} (ht : am_tc h a = some 0) : am_ev 50 76 ls (.int i :: .ref a :: st) h = if am_ix i (am_len h a) = true then am_ev 50 77 ls (.int (h.1 a i.toNatClampNeg) :: st) h else none := am_u_rI am_my_50 (by decide +kernel) ht
theorem e50_77 {ls : List (Option Value)} {st : List Value} {h : am_H} {v i : Int32} {a : Nat} (ht : am_tc h a = some 0) : am_ev 50 77 ls (.int v :: .int i :: .ref a :: st) h = if am_ix i (am_len h a) = true then am_ev 50 78 ls st (am_sI h a i.toNatClampNeg v) else none := am_u_wI am_my_50 (by decide +kernel) ht
theorem e50_78 {ls : List (Option Value)} {st : List Value} {h : am_H} {a : Nat} : am_ev 50 78 (some (.ref a) :: ls) (st) h = am_ev 50 79 (some (.ref a) :: ls) (.ref a :: st) h := am_ev_step (q := (79, some (.ref a) :: ls, .ref a :: st, h)) _ (.aload_n 0) 1 am_my_50 (by decide +kernel) rfl
theorem e50_79 {ls : List (Option Value)} {st : List Value} {h : am_H} {a : Nat} : am_ev 50 79 (ls) (.ref a :: st) h = am_ev 50 80 (ls) (.ref a :: .ref a :: st) h := am_ev_step (q := (80, ls, .ref a :: .ref a :: st, h)) _ (.dup) 1 am_my_50 (by decide +kernel) rfl
theorem e50_79i {ls : List (Option Value)} {st : List Value} {h : am_H} {a : Int32} : am_ev 50 79 (ls) (.int a :: st) h = am_ev 50 80 (ls) (.int a :: .int a :: st) h := am_ev_step (q := (80, ls, .int a :: .int a :: st, h)) _ (.dup) 1 am_my_50 (by decide +kernel) rfl
theorem e50_80 {ls : List (Option Value)} {st : List Value} {h : am_H} {o : Nat} (hk : am_kd h o = some (.inl 5)) : am_ev 50 80 ls (.ref o :: st) h = am_ev 50 83 ls (.int (h.1 o 0) :: st) h := am_u_gfI (idx := 24) (wn := 1160) am_my_50 (by decide +kernel) (by decide +kernel) (by decide +kernel) hk
theorem e50_83 {ls : List (Option Value)} {st : List Value} {h : am_H} : am_ev 50 83 (ls) (st) h = am_ev 50 84 (ls) (.int (1) :: st) h := am_ev_step (q := (84, ls, .int (1) :: st, h)) _ (.iconst (1)) 1 am_my_50 (by decide +kernel) rfl
theorem e50_84 {ls : List (Option Value)} {st : List Value} {h : am_H} {a b : Int32} : am_ev 50 84 (ls) (.int b :: .int a :: st) h = am_ev 50 85 (ls) (.int (a + b) :: st) h := am_ev_step (q := (85, ls, .int (a + b) :: st, h)) _ (.iadd) 1 am_my_50 (by decide +kernel) rfl
theorem e50_85 {ls : List (Option Value)} {st : List Value} {h : am_H} {o : Nat} {v : Int32} (hk : am_kd h o = some (.inl 5)) : am_ev 50 85 ls (.int v :: .ref o :: st) h = am_ev 50 88 ls st (am_sI h o 0 v) := am_u_pfI (idx := 24) (wn := 1160) am_my_50 (by decide +kernel) (by decide +kernel) (by decide +kernel) (by decide +kernel) hk
theorem e50_88 {ls : List (Option Value)} {h : am_H} : am_ev 50 88 ls [] h = some (none, h) := am_u_rtV am_my_50 (by decide +kernel) rfl
theorem e45_0 {ls : List (Option Value)} {st : List Value} {h : am_H} {l0 : Option Value} {a : Nat} : am_ev 45 0 (l0 :: some (.ref a) :: ls) (st) h = am_ev 45 1 (l0 :: some (.ref a) :: ls) (.ref a :: st) h := am_ev_step (q := (1, l0 :: some (.ref a) :: ls, .ref a :: st, h)) _ (.aload_n 1) 1 am_my_45 (by decide +kernel) rfl
theorem e45_0n {ls : List (Option Value)} {st : List Value} {h : am_H} {l0 : Option Value} : am_ev 45 0 (l0 :: some .null :: ls) (st) h = am_ev 45 1 (l0 :: some .null :: ls) (.null :: st) h := am_ev_step (q := (1, l0 :: some .null :: ls, .null :: st, h)) _ (.aload_n 1) 1 am_my_45 (by decide +kernel) rfl
theorem e45_1 {ls : List (Option Value)} {st : List Value} {h : am_H} {o : Nat} : am_ev 45 1 ls (.ref o :: st) h = am_ob (kOv o 11) (fun v => am_ev 45 4 ls (v :: st) h) := am_u_gfK (idx := 140) (wn := 8133) am_my_45 (by decide +kernel) (by decide +kernel) (by decide +kernel)
theorem e45_4 {ls : List (Option Value)} {st : List Value} {h : am_H} {a : Int32} : am_ev 45 4 ls (.int a :: st) h = if ¬ a = 0 then am_ev 45 25 ls st h else am_ev 45 7 ls st h := am_u_if1 (c := .ne) (off := 21) am_my_45 (by decide +kernel) (by decide)
theorem e45_7 {ls : List (Option Value)} {st : List Value} {h : am_H} {a : Nat} : am_ev 45 7 (some (.ref a) :: ls) (st) h = am_ev 45 8 (some (.ref a) :: ls) (.ref a :: st) h := am_ev_step (q := (8, some (.ref a) :: ls, .ref a :: st, h)) _ (.aload_n 0) 1 am_my_45 (by decide +kernel) rfl
theorem e45_7n {ls : List (Option Value)} {st : List Value} {h : am_H} : am_ev 45 7 (some .null :: ls) (st) h = am_ev 45 8 (some .null :: ls) (.null :: st) h := am_ev_step (q := (8, some .null :: ls, .null :: st, h)) _ (.aload_n 0) 1 am_my_45 (by decide +kernel) rfl
theorem e45_8 {ls : List (Option Value)} {st : List Value} {h : am_H} {o : Nat} (hk : am_kd h o = some (.inl 7)) : am_ev 45 8 ls (.ref o :: st) h = am_ev 45 11 ls (va_rf (h.2.2.1 o 0) :: st) h := am_u_gfR (idx := 12) (wn := 1232) (a := 0) am_my_45 (by decide +kernel) (by decide +kernel) (by decide +kernel) hk
theorem e45_11 {ls : List (Option Value)} {st : List Value} {h : am_H} {l0 : Option Value} {a : Nat} : am_ev 45 11 (l0 :: some (.ref a) :: ls) (st) h = am_ev 45 12 (l0 :: some (.ref a) :: ls) (.ref a :: st) h := am_ev_step (q := (12, l0 :: some (.ref a) :: ls, .ref a :: st, h)) _ (.aload_n 1) 1 am_my_45 (by decide +kernel) rfl
theorem e45_11n {ls : List (Option Value)} {st : List Value} {h : am_H} {l0 : Option Value} : am_ev 45 11 (l0 :: some .null :: ls) (st) h = am_ev 45 12 (l0 :: some .null :: ls) (.null :: st) h := am_ev_step (q := (12, l0 :: some .null :: ls, .null :: st, h)) _ (.aload_n 1) 1 am_my_45 (by decide +kernel) rfl
theorem e45_12 {ls : List (Option Value)} {st : List Value} {h : am_H} {o : Nat} : am_ev 45 12 ls (.ref o :: st) h = am_ob (kOv o 15) (fun v => am_ev 45 15 ls (v :: st) h) := am_u_gfK (idx := 150) (wn := 8137) am_my_45 (by decide +kernel) (by decide +kernel) (by decide +kernel)
theorem e45_15 {ls : List (Option Value)} {st : List Value} {h : am_H} {a : Nat} : am_ev 45 15 (some (.ref a) :: ls) (st) h = am_ev 45 16 (some (.ref a) :: ls) (.ref a :: st) h := am_ev_step (q := (16, some (.ref a) :: ls, .ref a :: st, h)) _ (.aload_n 0) 1 am_my_45 (by decide +kernel) rfl
theorem e45_15n {ls : List (Option Value)} {st : List Value} {h : am_H} : am_ev 45 15 (some .null :: ls) (st) h = am_ev 45 16 (some .null :: ls) (.null :: st) h := am_ev_step (q := (16, some .null :: ls, .null :: st, h)) _ (.aload_n 0) 1 am_my_45 (by decide +kernel) rfl
theorem e45_16 {ls : List (Option Value)} {st : List Value} {h : am_H} {o : Nat} (hk : am_kd h o = some (.inl 7)) : am_ev 45 16 ls (.ref o :: st) h = am_ev 45 19 ls (va_rf (h.2.2.1 o 6) :: st) h := am_u_gfR (idx := 39) (wn := 2004) (a := 0) am_my_45 (by decide +kernel) (by decide +kernel) (by decide +kernel) hk
theorem e45_19 {ls : List (Option Value)} {st : List Value} {h : am_H} {p0 : Int32} {p1 : Nat} {o : Nat} (hw : am_w8 st ≤ 8) (hk : am_kd h o = some (.inl 3)) : am_ev 45 19 ls (.ref p1 :: .int p0 :: .ref o :: st) h = am_bd (am_den 46 [.ref o, .int p0, .ref p1] h) (fun v h1 => am_ev 45 22 ls (v.toList ++ st) h1) := am_u_cV (idx := 159) (wn := 3088) (as := [.int p0, .ref p1]) am_my_45 (by decide +kernel) (Or.inl (by decide +kernel)) am_my_46 (by decide +kernel) rfl ⟨Nat.le_of_ble_eq_true rfl, rfl⟩ (by decide +kernel) hw hk
theorem e45_22 {ls : List (Option Value)} {st : List Value} {h : am_H} : am_ev 45 22 (ls) (st) h = am_ev 45 92 (ls) (st) h := am_ev_step (q := (92, ls, st, h)) _ (.goto (70)) 3 am_my_45 (by decide +kernel) rfl
theorem e45_25 {ls : List (Option Value)} {st : List Value} {h : am_H} {l0 : Option Value} {a : Nat} : am_ev 45 25 (l0 :: some (.ref a) :: ls) (st) h = am_ev 45 26 (l0 :: some (.ref a) :: ls) (.ref a :: st) h := am_ev_step (q := (26, l0 :: some (.ref a) :: ls, .ref a :: st, h)) _ (.aload_n 1) 1 am_my_45 (by decide +kernel) rfl
theorem e45_25n {ls : List (Option Value)} {st : List Value} {h : am_H} {l0 : Option Value} : am_ev 45 25 (l0 :: some .null :: ls) (st) h = am_ev 45 26 (l0 :: some .null :: ls) (.null :: st) h := am_ev_step (q := (26, l0 :: some .null :: ls, .null :: st, h)) _ (.aload_n 1) 1 am_my_45 (by decide +kernel) rfl
theorem e45_26 {ls : List (Option Value)} {st : List Value} {h : am_H} {o : Nat} : am_ev 45 26 ls (.ref o :: st) h = am_ob (kOv o 11) (fun v => am_ev 45 29 ls (v :: st) h) := am_u_gfK (idx := 140) (wn := 8133) am_my_45 (by decide +kernel) (by decide +kernel) (by decide +kernel)
theorem e45_29 {ls : List (Option Value)} {st : List Value} {h : am_H} : am_ev 45 29 (ls) (st) h = am_ev 45 30 (ls) (.int (1) :: st) h := am_ev_step (q := (30, ls, .int (1) :: st, h)) _ (.iconst (1)) 1 am_my_45 (by decide +kernel) rfl
theorem e45_30 {ls : List (Option Value)} {st : List Value} {h : am_H} {a b : Int32} : am_ev 45 30 ls (.int b :: .int a :: st) h = if ¬ a = b then am_ev 45 51 ls st h else am_ev 45 33 ls st h := am_u_if2 (c := .ne) (off := 21) am_my_45 (by decide +kernel) (by decide)
theorem e45_33 {ls : List (Option Value)} {st : List Value} {h : am_H} {a : Nat} : am_ev 45 33 (some (.ref a) :: ls) (st) h = am_ev 45 34 (some (.ref a) :: ls) (.ref a :: st) h := am_ev_step (q := (34, some (.ref a) :: ls, .ref a :: st, h)) _ (.aload_n 0) 1 am_my_45 (by decide +kernel) rfl
theorem e45_33n {ls : List (Option Value)} {st : List Value} {h : am_H} : am_ev 45 33 (some .null :: ls) (st) h = am_ev 45 34 (some .null :: ls) (.null :: st) h := am_ev_step (q := (34, some .null :: ls, .null :: st, h)) _ (.aload_n 0) 1 am_my_45 (by decide +kernel) rfl
theorem e45_34 {ls : List (Option Value)} {st : List Value} {h : am_H} {o : Nat} (hk : am_kd h o = some (.inl 7)) : am_ev 45 34 ls (.ref o :: st) h = am_ev 45 37 ls (va_rf (h.2.2.1 o 1) :: st) h := am_u_gfR (idx := 21) (wn := 1234) (a := 0) am_my_45 (by decide +kernel) (by decide +kernel) (by decide +kernel) hk
theorem e45_37 {ls : List (Option Value)} {st : List Value} {h : am_H} {l0 : Option Value} {a : Nat} : am_ev 45 37 (l0 :: some (.ref a) :: ls) (st) h = am_ev 45 38 (l0 :: some (.ref a) :: ls) (.ref a :: st) h := am_ev_step (q := (38, l0 :: some (.ref a) :: ls, .ref a :: st, h)) _ (.aload_n 1) 1 am_my_45 (by decide +kernel) rfl
theorem e45_37n {ls : List (Option Value)} {st : List Value} {h : am_H} {l0 : Option Value} : am_ev 45 37 (l0 :: some .null :: ls) (st) h = am_ev 45 38 (l0 :: some .null :: ls) (.null :: st) h := am_ev_step (q := (38, l0 :: some .null :: ls, .null :: st, h)) _ (.aload_n 1) 1 am_my_45 (by decide +kernel) rfl
theorem e45_38 {ls : List (Option Value)} {st : List Value} {h : am_H} {o : Nat} : am_ev 45 38 ls (.ref o :: st) h = am_ob (kOv o 15) (fun v => am_ev 45 41 ls (v :: st) h) := am_u_gfK (idx := 150) (wn := 8137) am_my_45 (by decide +kernel) (by decide +kernel) (by decide +kernel)
theorem e45_41 {ls : List (Option Value)} {st : List Value} {h : am_H} {a : Nat} : am_ev 45 41 (some (.ref a) :: ls) (st) h = am_ev 45 42 (some (.ref a) :: ls) (.ref a :: st) h := am_ev_step (q := (42, some (.ref a) :: ls, .ref a :: st, h)) _ (.aload_n 0) 1 am_my_45 (by decide +kernel) rfl
theorem e45_41n {ls : List (Option Value)} {st : List Value} {h : am_H} : am_ev 45 41 (some .null :: ls) (st) h = am_ev 45 42 (some .null :: ls) (.null :: st) h := am_ev_step (q := (42, some .null :: ls, .null :: st, h)) _ (.aload_n 0) 1 am_my_45 (by decide +kernel) rfl
theorem e45_42 {ls : List (Option Value)} {st : List Value} {h : am_H} {o : Nat} (hk : am_kd h o = some (.inl 7)) : am_ev 45 42 ls (.ref o :: st) h = am_ev 45 45 ls (va_rf (h.2.2.1 o 6) :: st) h := am_u_gfR (idx := 39) (wn := 2004) (a := 0) am_my_45 (by decide +kernel) (by decide +kernel) (by decide +kernel) hk
theorem e45_45 {ls : List (Option Value)} {st : List Value} {h : am_H} {p0 : Int32} {p1 : Nat} {o : Nat} (hw : am_w8 st ≤ 8) (hk : am_kd h o = some (.inl 2)) : am_ev 45 45 ls (.ref p1 :: .int p0 :: .ref o :: st) h = am_bd (am_den 48 [.ref o, .int p0, .ref p1] h) (fun v h1 => am_ev 45 48 ls (v.toList ++ st) h1) := am_u_cV (idx := 162) (wn := 3102) (as := [.int p0, .ref p1]) am_my_45 (by decide +kernel) (Or.inl (by decide +kernel)) am_my_48 (by decide +kernel) rfl ⟨Nat.le_of_ble_eq_true rfl, rfl⟩ (by decide +kernel) hw hk
theorem e45_48 {ls : List (Option Value)} {st : List Value} {h : am_H} : am_ev 45 48 (ls) (st) h = am_ev 45 92 (ls) (st) h := am_ev_step (q := (92, ls, st, h)) _ (.goto (44)) 3 am_my_45 (by decide +kernel) rfl
theorem e45_51 {ls : List (Option Value)} {st : List Value} {h : am_H} {l0 : Option Value} {a : Nat} : am_ev 45 51 (l0 :: some (.ref a) :: ls) (st) h = am_ev 45 52 (l0 :: some (.ref a) :: ls) (.ref a :: st) h := am_ev_step (q := (52, l0 :: some (.ref a) :: ls, .ref a :: st, h)) _ (.aload_n 1) 1 am_my_45 (by decide +kernel) rfl
theorem e45_51n {ls : List (Option Value)} {st : List Value} {h : am_H} {l0 : Option Value} : am_ev 45 51 (l0 :: some .null :: ls) (st) h = am_ev 45 52 (l0 :: some .null :: ls) (.null :: st) h := am_ev_step (q := (52, l0 :: some .null :: ls, .null :: st, h)) _ (.aload_n 1) 1 am_my_45 (by decide +kernel) rfl
theorem e45_52 {ls : List (Option Value)} {st : List Value} {h : am_H} {o : Nat} : am_ev 45 52 ls (.ref o :: st) h = am_ob (kOv o 11) (fun v => am_ev 45 55 ls (v :: st) h) := am_u_gfK (idx := 140) (wn := 8133) am_my_45 (by decide +kernel) (by decide +kernel) (by decide +kernel)
theorem e45_55 {ls : List (Option Value)} {st : List Value} {h : am_H} : am_ev 45 55 (ls) (st) h = am_ev 45 56 (ls) (.int (2) :: st) h := am_ev_step (q := (56, ls, .int (2) :: st, h)) _ (.iconst (2)) 1 am_my_45 (by decide +kernel) rfl
theorem e45_56 {ls : List (Option Value)} {st : List Value} {h : am_H} {a b : Int32} : am_ev 45 56 ls (.int b :: .int a :: st) h = if ¬ a = b then am_ev 45 77 ls st h else am_ev 45 59 ls st h := am_u_if2 (c := .ne) (off := 21) am_my_45 (by decide +kernel) (by decide)
theorem e45_59 {ls : List (Option Value)} {st : List Value} {h : am_H} {a : Nat} : am_ev 45 59 (some (.ref a) :: ls) (st) h = am_ev 45 60 (some (.ref a) :: ls) (.ref a :: st) h := am_ev_step (q := (60, some (.ref a) :: ls, .ref a :: st, h)) _ (.aload_n 0) 1 am_my_45 (by decide +kernel) rfl
theorem e45_59n {ls : List (Option Value)} {st : List Value} {h : am_H} : am_ev 45 59 (some .null :: ls) (st) h = am_ev 45 60 (some .null :: ls) (.null :: st) h := am_ev_step (q := (60, some .null :: ls, .null :: st, h)) _ (.aload_n 0) 1 am_my_45 (by decide +kernel) rfl
theorem e45_60 {ls : List (Option Value)} {st : List Value} {h : am_H} {o : Nat} (hk : am_kd h o = some (.inl 7)) : am_ev 45 60 ls (.ref o :: st) h = am_ev 45 63 ls (va_rf (h.2.2.1 o 2) :: st) h := am_u_gfR (idx := 28) (wn := 1236) (a := 0) am_my_45 (by decide +kernel) (by decide +kernel) (by decide +kernel) hk
theorem e45_63 {ls : List (Option Value)} {st : List Value} {h : am_H} {l0 : Option Value} {a : Nat} : am_ev 45 63 (l0 :: some (.ref a) :: ls) (st) h = am_ev 45 64 (l0 :: some (.ref a) :: ls) (.ref a :: st) h := am_ev_step (q := (64, l0 :: some (.ref a) :: ls, .ref a :: st, h)) _ (.aload_n 1) 1 am_my_45 (by decide +kernel) rfl
theorem e45_63n {ls : List (Option Value)} {st : List Value} {h : am_H} {l0 : Option Value} : am_ev 45 63 (l0 :: some .null :: ls) (st) h = am_ev 45 64 (l0 :: some .null :: ls) (.null :: st) h := am_ev_step (q := (64, l0 :: some .null :: ls, .null :: st, h)) _ (.aload_n 1) 1 am_my_45 (by decide +kernel) rfl
theorem e45_64 {ls : List (Option Value)} {st : List Value} {h : am_H} {o : Nat} : am_ev 45 64 ls (.ref o :: st) h = am_ob (kOv o 15) (fun v => am_ev 45 67 ls (v :: st) h) := am_u_gfK (idx := 150) (wn := 8137) am_my_45 (by decide +kernel) (by decide +kernel) (by decide +kernel)
theorem e45_67 {ls : List (Option Value)} {st : List Value} {h : am_H} {a : Nat} : am_ev 45 67 (some (.ref a) :: ls) (st) h = am_ev 45 68 (some (.ref a) :: ls) (.ref a :: st) h := am_ev_step (q := (68, some (.ref a) :: ls, .ref a :: st, h)) _ (.aload_n 0) 1 am_my_45 (by decide +kernel) rfl
theorem e45_67n {ls : List (Option Value)} {st : List Value} {h : am_H} : am_ev 45 67 (some .null :: ls) (st) h = am_ev 45 68 (some .null :: ls) (.null :: st) h := am_ev_step (q := (68, some .null :: ls, .null :: st, h)) _ (.aload_n 0) 1 am_my_45 (by decide +kernel) rfl
theorem e45_68 {ls : List (Option Value)} {st : List Value} {h : am_H} {o : Nat} (hk : am_kd h o = some (.inl 7)) : am_ev 45 68 ls (.ref o :: st) h = am_ev 45 71 ls (va_rf (h.2.2.1 o 6) :: st) h := am_u_gfR (idx := 39) (wn := 2004) (a := 0) am_my_45 (by decide +kernel) (by decide +kernel) (by decide +kernel) hk
theorem e45_71 {ls : List (Option Value)} {st : List Value} {h : am_H} {p0 : Int32} {p1 : Nat} {o : Nat} (hw : am_w8 st ≤ 8) (hk : am_kd h o = some (.inl 0)) : am_ev 45 71 ls (.ref p1 :: .int p0 :: .ref o :: st) h = am_bd (am_den 49 [.ref o, .int p0, .ref p1] h) (fun v h1 => am_ev 45 74 ls (v.toList ++ st) h1) := am_u_cV (idx := 163) (wn := 3106) (as := [.int p0, .ref p1]) am_my_45 (by decide +kernel) (Or.inl (by decide +kernel)) am_my_49 (by decide +kernel) rfl ⟨Nat.le_of_ble_eq_true rfl, rfl⟩ (by decide +kernel) hw hk
theorem e45_74 {ls : List (Option Value)} {st : List Value} {h : am_H} : am_ev 45 74 (ls) (st) h = am_ev 45 92 (ls) (st) h := am_ev_step (q := (92, ls, st, h)) _ (.goto (18)) 3 am_my_45 (by decide +kernel) rfl
theorem e45_77 {ls : List (Option Value)} {st : List Value} {h : am_H} {a : Nat} : am_ev 45 77 (some (.ref a) :: ls) (st) h = am_ev 45 78 (some (.ref a) :: ls) (.ref a :: st) h := am_ev_step (q := (78, some (.ref a) :: ls, .ref a :: st, h)) _ (.aload_n 0) 1 am_my_45 (by decide +kernel) rfl
theorem e45_77n {ls : List (Option Value)} {st : List Value} {h : am_H} : am_ev 45 77 (some .null :: ls) (st) h = am_ev 45 78 (some .null :: ls) (.null :: st) h := am_ev_step (q := (78, some .null :: ls, .null :: st, h)) _ (.aload_n 0) 1 am_my_45 (by decide +kernel) rfl
theorem e45_78 {ls : List (Option Value)} {st : List Value} {h : am_H} {o : Nat} (hk : am_kd h o = some (.inl 7)) : am_ev 45 78 ls (.ref o :: st) h = am_ev 45 81 ls (va_rf (h.2.2.1 o 3) :: st) h := am_u_gfR (idx := 35) (wn := 1238) (a := 0) am_my_45 (by decide +kernel) (by decide +kernel) (by decide +kernel) hk
theorem e45_81 {ls : List (Option Value)} {st : List Value} {h : am_H} {l0 : Option Value} {a : Nat} : am_ev 45 81 (l0 :: some (.ref a) :: ls) (st) h = am_ev 45 82 (l0 :: some (.ref a) :: ls) (.ref a :: st) h := am_ev_step (q := (82, l0 :: some (.ref a) :: ls, .ref a :: st, h)) _ (.aload_n 1) 1 am_my_45 (by decide +kernel) rfl
theorem e45_81n {ls : List (Option Value)} {st : List Value} {h : am_H} {l0 : Option Value} : am_ev 45 81 (l0 :: some .null :: ls) (st) h = am_ev 45 82 (l0 :: some .null :: ls) (.null :: st) h := am_ev_step (q := (82, l0 :: some .null :: ls, .null :: st, h)) _ (.aload_n 1) 1 am_my_45 (by decide +kernel) rfl
theorem e45_82 {ls : List (Option Value)} {st : List Value} {h : am_H} {o : Nat} : am_ev 45 82 ls (.ref o :: st) h = am_ob (kOv o 15) (fun v => am_ev 45 85 ls (v :: st) h) := am_u_gfK (idx := 150) (wn := 8137) am_my_45 (by decide +kernel) (by decide +kernel) (by decide +kernel)
theorem e45_85 {ls : List (Option Value)} {st : List Value} {h : am_H} {a : Nat} : am_ev 45 85 (some (.ref a) :: ls) (st) h = am_ev 45 86 (some (.ref a) :: ls) (.ref a :: st) h := am_ev_step (q := (86, some (.ref a) :: ls, .ref a :: st, h)) _ (.aload_n 0) 1 am_my_45 (by decide +kernel) rfl
theorem e45_85n {ls : List (Option Value)} {st : List Value} {h : am_H} : am_ev 45 85 (some .null :: ls) (st) h = am_ev 45 86 (some .null :: ls) (.null :: st) h := am_ev_step (q := (86, some .null :: ls, .null :: st, h)) _ (.aload_n 0) 1 am_my_45 (by decide +kernel) rfl
theorem e45_86 {ls : List (Option Value)} {st : List Value} {h : am_H} {o : Nat} (hk : am_kd h o = some (.inl 7)) : am_ev 45 86 ls (.ref o :: st) h = am_ev 45 89 ls (va_rf (h.2.2.1 o 6) :: st) h := am_u_gfR (idx := 39) (wn := 2004) (a := 0) am_my_45 (by decide +kernel) (by decide +kernel) (by decide +kernel) hk
theorem e45_89 {ls : List (Option Value)} {st : List Value} {h : am_H} {p0 : Int32} {p1 : Nat} {o : Nat} (hw : am_w8 st ≤ 8) (hk : am_kd h o = some (.inl 5)) : am_ev 45 89 ls (.ref p1 :: .int p0 :: .ref o :: st) h = am_bd (am_den 50 [.ref o, .int p0, .ref p1] h) (fun v h1 => am_ev 45 92 ls (v.toList ++ st) h1) := am_u_cV (idx := 164) (wn := 3112) (as := [.int p0, .ref p1]) am_my_45 (by decide +kernel) (Or.inl (by decide +kernel)) am_my_50 (by decide +kernel) rfl ⟨Nat.le_of_ble_eq_true rfl, rfl⟩ (by decide +kernel) hw hk
theorem e45_92 {ls : List (Option Value)} {h : am_H} : am_ev 45 92 ls [] h = some (none, h) := am_u_rtV am_my_45 (by decide +kernel) rfl
theorem c_ne (h : am_H) (o k : Nat) (v : Int32) (a b : Nat) (hn : a ≠ o) : (am_sI h o k v).1 a b = h.1 a b := by rw [am_rd_sI, if_neg (fun q => hn q.1)]
theorem c_eq (h : am_H) (o k : Nat) (v : Int32) : (am_sI h o k v).1 o k = v := by rw [am_rd_sI, if_pos ⟨rfl, rfl⟩]
theorem c_rw (h : am_H) (o k : Nat) (v : Int32) (b : Nat) : (am_sI h o k v).1 o b = if b = k then v else h.1 o b := by
  rw [am_rd_sI]
  by_cases c : b = k
  · rw [if_pos ⟨rfl, c⟩, if_pos c]
  · rw [if_neg (fun q => c q.2), if_neg c]
/-! drives -/
def d_dr (h : am_H) (d : q_Dr) : Prop := D_cls h.1 163 d ∧ d.1 ≤ 40
def d_full (_ : Nat) (d : q_Dr) : Bool := decide (¬ d.1 < 40)
def d_wh (i : Nat) (v : Nat → Nat) : Nat := if ln_c i < 4 then v 0 else ln_c i
def d_upd (i : Nat) (v : Nat → Nat) (d : q_Dr) : q_Dr := (d.1 + 1, fun k => if k = d.1 then d_wh i v else d.2 k)
theorem d_rr : ∀ i, i < 18 → ln_s i = 1 → ((ln_c i < 4 → (ln_r i).length = 1 ∧ (ln_r i).getD 0 0 = 100) ∧ (¬ ln_c i < 4 → (ln_r i).length = 0 ∧ ln_c i < 7)) ∧ (ln_c i = 0 ∨ ln_c i = 4 ∨ ln_c i = 5 ∨ ln_c i = 6) := by decide +kernel
theorem den_dkeep {h : am_H} (ok : am_okH h) {d : q_Dr} (H : d_dr h d) (i : Nat) (hi : i < 18) (is : ln_s i = 1) (v : Nat → Nat) (hv : ∀ j, j < (ln_r i).length → h.1 176 j = nI (v j) ∧ t_can ((ln_r i).getD j 0) (v j) v = true ∧ v j < 100) (hf : d_full i d = false) : ∃ h2 : am_H, am_den 48 [.ref 163, .int (nI (ln_c i)), .ref 176] h = some (none, h2) ∧ (∀ (t : Nat → Nat) (L : Nat) (g : am_H) (a : Nat) (q : Nat × Nat), c_st t L g h a q → c_st t L g h2 a q) ∧ d_dr h2 (d_upd i v d) := by
  obtain ⟨⟨e0, e1⟩, n40⟩ := H
  obtain ⟨⟨r1, r2⟩, r3⟩ := d_rr i hi is
  have nl : d.1 < 40 := by
    have := of_decide_eq_false hf
    omega
  have h1 : ¬ (40 : Int32) ≤ nI d.1 := nI_ge (b := 40) (by omega) (by decide)
  have x : am_ix (nI d.1) 40 = true := am_ix_nI nl (by decide)
  have z : (nI d.1).toNatClampNeg = d.1 := nI_clamp (by omega)
  have x0 : am_ix 0 5 = true := by decide
  have z0 : (0 : Int32).toNatClampNeg = 0 := rfl
  have m1 : ∀ w, (am_sI h 164 d.1 w).1 163 0 = nI d.1 := fun w => by rw [c_ne _ _ _ _ _ _ (by decide)]; exact e0
  have q4 : (4 : Int32) ≤ nI (ln_c i) ↔ 4 ≤ ln_c i := nI_leI (a := 4) (by decide) (by omega)
  refine ⟨am_sI (am_sI h 164 d.1 (nI (d_wh i v))) 163 0 (nI (d.1 + 1)), ?_, fun t L g a q S => (S.sI 164 _ _ (by omega)).sI 163 _ _ (by omega), ⟨c_eq _ _ _ _, fun k hk => ?_⟩, nl⟩
  · show am_ev 48 0 [some (.ref 163), some (.int (nI (ln_c i))), some (.ref 176)] [] h = _
    unfold d_wh
    by_cases c : ln_c i < 4
    · obtain ⟨v0, -, -⟩ := hv 0 (by have := (r1 c).1; omega)
      have c' : ¬ (4 : Int32) ≤ nI (ln_c i) := fun w => absurd (q4.mp w) (by omega)
      rw [if_pos c]
      simp only [e48_0, e48_1, e48_4, e48_6, e48_9, e48_10, e48_13, e48_14, e48_17, e48_18, e48_19, e48_22, e48_23, e48_24, e48_25, e48_28, e48_29, e48_30, e48_31, e48_31i, e48_32, e48_35, e48_36, e48_37, e48_40, am_bd_some, Option.toList_some, Option.toList_none, List.cons_append, List.nil_append, am_w8_0, am_w8_1, am_w8_2, am_w8_3, am_w8_4, eq_self, or_true, true_or, am_kd_sI, am_kd_sL, am_kd_sR, am_tc_sI, am_tc_sL, am_tc_sR, am_len_sI, am_len_sL, am_len_sR, am_rfs, if_true, if_false, am_rdL_sI, am_rR_sL, am_rt_cq, am_kd_cq, am_tc_cq, am_len_cq, am_rd_sL, am_rd_sR, am_rdL_sR, okK_163 ok, e0, h1, okR_163_1 ok, c', okT_176 ok, okL_176 ok, x0, z0, v0, okT_164 ok, okL_164 ok, x, z, m1, nI_1]
    · have c' : (4 : Int32) ≤ nI (ln_c i) := q4.mpr (by omega)
      rw [if_neg c]
      simp only [e48_0, e48_1, e48_4, e48_6, e48_9, e48_10, e48_13, e48_14, e48_17, e48_18, e48_19, e48_22, e48_23, e48_24, e48_25, e48_28, e48_29, e48_30, e48_31, e48_31i, e48_32, e48_35, e48_36, e48_37, e48_40, am_bd_some, Option.toList_some, Option.toList_none, List.cons_append, List.nil_append, am_w8_0, am_w8_1, am_w8_2, am_w8_3, am_w8_4, eq_self, or_true, true_or, am_kd_sI, am_kd_sL, am_kd_sR, am_tc_sI, am_tc_sL, am_tc_sR, am_len_sI, am_len_sL, am_len_sR, am_rfs, if_true, if_false, am_rdL_sI, am_rR_sL, am_rt_cq, am_kd_cq, am_tc_cq, am_len_cq, am_rd_sL, am_rd_sR, am_rdL_sR, okK_163 ok, e0, h1, okR_163_1 ok, c', okT_164 ok, okL_164 ok, x, z, m1, nI_1]
  · have hk' : k < d.1 + 1 := hk
    show _ = nI (if k = d.1 then d_wh i v else d.2 k)
    rw [c_ne _ _ _ _ _ _ (by decide), c_rw]
    by_cases c : k = d.1
    · rw [if_pos c, if_pos c]
    · rw [if_neg c, if_neg c]; exact e1 k (by omega)
/-! books -/
def b_dr (h : am_H) (b : q_Bk) : Prop := B_cls h.1 165 b ∧ B_d b ≤ 5 ∧ B_b b ≤ 8 ∧ B_f b ≤ 10
def b_full (i : Nat) (b : q_Bk) : Bool := if ln_c i = 0 then decide (¬ B_d b < 5) else if ln_c i = 1 then decide (¬ B_b b < 8) else decide (¬ B_f b < 10)
def b_upd (i : Nat) (v : Nat → Nat) (b : q_Bk) : q_Bk :=
  if ln_c i = 0 then (B_d b + 1, B_b b, B_f b, (fun k => if k = B_d b then v 0 else B_eye b k), (fun k => if k = B_d b then v 1 else B_turns b k), B_need b, B_worth b, B_field b)
  else if ln_c i = 1 then (B_d b, B_b b + 1, B_f b, B_eye b, B_turns b, (fun k => if k = B_b b then v 0 else B_need b k), (fun k => if k = B_b b then v 1 else B_worth b k), B_field b)
  else (B_d b, B_b b, B_f b + 1, B_eye b, B_turns b, B_need b, B_worth b, (fun k => if k = B_f b then v 0 else B_field b k))
theorem b_r0 : ∀ i, i < 18 → ln_s i = 2 → ln_c i = 0 → (ln_r i).length = 2 ∧ (ln_r i).getD 0 0 = 101 ∧ (ln_r i).getD 1 0 = 100 := by decide +kernel
theorem b_r1 : ∀ i, i < 18 → ln_s i = 2 → ln_c i = 1 → (ln_r i).length = 2 ∧ (ln_r i).getD 0 0 = 101 := by decide +kernel
theorem b_r2 : ∀ i, i < 18 → ln_s i = 2 → ln_c i = 2 → (ln_r i).length = 1 := by decide +kernel
theorem b_r3 : ∀ i, i < 18 → ln_s i = 2 → ln_c i = 0 ∨ ln_c i = 1 ∨ ln_c i = 2 := by decide +kernel
theorem b_rr (i : Nat) (h : i < 18) (s : ln_s i = 2) : (ln_c i = 0 → (ln_r i).length = 2 ∧ (ln_r i).getD 0 0 = 101 ∧ (ln_r i).getD 1 0 = 100) ∧ (ln_c i = 1 → (ln_r i).length = 2 ∧ (ln_r i).getD 0 0 = 101) ∧ (ln_c i = 2 → (ln_r i).length = 1) ∧ (ln_c i = 0 ∨ ln_c i = 1 ∨ ln_c i = 2) := ⟨b_r0 i h s, b_r1 i h s, b_r2 i h s, b_r3 i h s⟩
theorem den_bkeep {h : am_H} (ok : am_okH h) {b : q_Bk} (H : b_dr h b) (i : Nat) (hi : i < 18) (is : ln_s i = 2) (v : Nat → Nat) (hv : ∀ j, j < (ln_r i).length → h.1 176 j = nI (v j) ∧ t_can ((ln_r i).getD j 0) (v j) v = true ∧ v j < 100) (hf : b_full i b = false) : ∃ h2 : am_H, am_den 49 [.ref 165, .int (nI (ln_c i)), .ref 176] h = some (none, h2) ∧ (∀ (t : Nat → Nat) (L : Nat) (g : am_H) (a : Nat) (q : Nat × Nat), c_st t L g h a q → c_st t L g h2 a q) ∧ b_dr h2 (b_upd i v b) := by
  obtain ⟨⟨e0, e1, e2, e3, e4, e5⟩, l1, l2, l3⟩ := H
  obtain ⟨r0, r1, r2, r3⟩ := b_rr i hi is
  have x0 : am_ix 0 5 = true := by decide
  have z0 : (0 : Int32).toNatClampNeg = 0 := rfl
  have x1 : am_ix 1 5 = true := by decide
  have z1 : (1 : Int32).toNatClampNeg = 1 := rfl
  have k0 : kOv 1048590 15 = some (.int 0) := by decide +kernel
  have k1 : kOv 1048591 15 = some (.int 1) := by decide +kernel
  have k2 : kOv 1048592 15 = some (.int 2) := by decide +kernel
  have q0 : nI (ln_c i) = 0 ↔ ln_c i = 0 := nI_eq (b := 0) (by omega) (by decide)
  have q1 : nI (ln_c i) = 1 ↔ ln_c i = 1 := nI_eq (b := 1) (by omega) (by decide)
  have q2 : nI (ln_c i) = 2 ↔ ln_c i = 2 := nI_eq (b := 2) (by omega) (by decide)
  have den0 : ∀ h2 : am_H, am_ev 49 0 [some (.ref 165), some (.int (nI (ln_c i))), some (.ref 176)] [] h = some (none, h2) → am_den 49 [.ref 165, .int (nI (ln_c i)), .ref 176] h = some (none, h2) := fun _ q => q
  unfold b_upd
  unfold b_full at hf
  by_cases c0 : ln_c i = 0
  · rw [if_pos c0] at hf ⊢
    have nl : B_d b < 5 := by
      have := of_decide_eq_false hf
      omega
    obtain ⟨v0, -, -⟩ := hv 0 (by have := (r0 c0).1; omega)
    obtain ⟨v1, -, -⟩ := hv 1 (by have := (r0 c0).1; omega)
    have c0' := eq_true (q0.mpr c0)
    have h1 : ¬ (5 : Int32) ≤ nI (B_d b) := nI_ge (b := 5) (by omega) (by decide)
    have x : am_ix (nI (B_d b)) 5 = true := am_ix_nI nl (by decide)
    have z : (nI (B_d b)).toNatClampNeg = B_d b := nI_clamp (by omega)
    have m1 : ∀ w, (am_sI h 166 (B_d b) w).1 165 0 = nI (B_d b) := fun w => by rw [c_ne _ _ _ _ _ _ (by decide)]; exact e0
    have m2 : ∀ w, (am_sI h 166 (B_d b) w).1 176 1 = nI (v 1) := fun w => by rw [c_ne _ _ _ _ _ _ (by decide)]; exact v1
    have m3 : ∀ w u, (am_sI (am_sI h 166 (B_d b) w) 167 (B_d b) u).1 165 0 = nI (B_d b) := fun w u => by rw [c_ne _ _ _ _ _ _ (by decide)]; exact m1 w
    refine ⟨am_sI (am_sI (am_sI h 166 (B_d b) (nI (v 0))) 167 (B_d b) (nI (v 1))) 165 0 (nI (B_d b + 1)), den0 _ ?_, fun t L g a q S => ((S.sI 166 _ _ (by omega)).sI 167 _ _ (by omega)).sI 165 _ _ (by omega), ⟨c_eq _ _ _ _, ?_, ?_, fun k hk => ⟨?_, ?_⟩, fun k hk => ⟨?_, ?_⟩, fun k hk => ?_⟩, nl, l2, l3⟩
    · simp only [e49_0, e49_1, e49_4, e49_7, e49_10, e49_11, e49_14, e49_15, e49_18, e49_19, e49_22, e49_23, e49_26, e49_27, e49_28, e49_29, e49_30, e49_31, e49_34, e49_35, e49_38, e49_39, e49_40, e49_41, e49_42, e49_43, e49_43i, e49_44, e49_47, e49_48, e49_49, e49_52, e49_55, e49_56, e49_59, e49_62, e49_65, e49_66, e49_69, e49_71, e49_74, e49_75, e49_78, e49_79, e49_82, e49_83, e49_84, e49_85, e49_86, e49_87, e49_90, e49_91, e49_94, e49_95, e49_96, e49_97, e49_98, e49_99, e49_99i, e49_100, e49_103, e49_104, e49_105, e49_108, e49_111, e49_112, e49_115, e49_118, e49_121, e49_122, e49_125, e49_127, e49_130, e49_131, e49_134, e49_135, e49_138, e49_139, e49_140, e49_141, e49_142, e49_143, e49_143i, e49_144, e49_147, e49_148, e49_149, e49_152, am_bd_some, Option.toList_some, Option.toList_none, List.cons_append, List.nil_append, am_w8_0, am_w8_1, am_w8_2, am_w8_3, am_w8_4, eq_self, or_true, true_or, am_kd_sI, am_kd_sL, am_kd_sR, am_tc_sI, am_tc_sL, am_tc_sR, am_len_sI, am_len_sL, am_len_sR, am_rfs, if_true, if_false, am_rdL_sI, am_rR_sL, am_rt_cq, am_kd_cq, am_tc_cq, am_len_cq, am_rd_sL, am_rd_sR, am_rdL_sR, k0, am_ob_some, c0', not_true, okK_165 ok, e0, h1, okR_165_3 ok, okR_165_4 ok, okT_176 ok, okL_176 ok, x0, z0, v0, x1, z1, okT_166 ok, okL_166 ok, okT_167 ok, okL_167 ok, x, z, m1, m2, m3, nI_1]
    · rw [c_rw, if_neg (by decide), c_ne _ _ _ _ _ _ (by decide), c_ne _ _ _ _ _ _ (by decide)]; exact e1
    · rw [c_rw, if_neg (by decide), c_ne _ _ _ _ _ _ (by decide), c_ne _ _ _ _ _ _ (by decide)]; exact e2
    · have hk' : k < B_d b + 1 := hk
      show _ = nI (if k = B_d b then v 0 else B_eye b k)
      rw [c_ne _ _ _ _ _ _ (by decide), c_ne _ _ _ _ _ _ (by decide), c_rw]
      by_cases c : k = B_d b
      · rw [if_pos c, if_pos c]
      · rw [if_neg c, if_neg c]; exact (e3 k (by omega)).1
    · have hk' : k < B_d b + 1 := hk
      show _ = nI (if k = B_d b then v 1 else B_turns b k)
      rw [c_ne _ _ _ _ _ _ (by decide), c_rw]
      by_cases c : k = B_d b
      · rw [if_pos c, if_pos c]
      · rw [if_neg c, if_neg c, c_ne _ _ _ _ _ _ (by decide)]; exact (e3 k (by omega)).2
    · rw [c_ne _ _ _ _ _ _ (by decide), c_ne _ _ _ _ _ _ (by decide), c_ne _ _ _ _ _ _ (by decide)]; exact (e4 k hk).1
    · rw [c_ne _ _ _ _ _ _ (by decide), c_ne _ _ _ _ _ _ (by decide), c_ne _ _ _ _ _ _ (by decide)]; exact (e4 k hk).2
    · rw [c_ne _ _ _ _ _ _ (by decide), c_ne _ _ _ _ _ _ (by decide), c_ne _ _ _ _ _ _ (by decide)]; exact e5 k hk
  rw [if_neg c0] at hf ⊢
  have c0' := eq_false (fun w => c0 (q0.mp w))
  by_cases c1 : ln_c i = 1
  · rw [if_pos c1] at hf ⊢
    have nl : B_b b < 8 := by
      have := of_decide_eq_false hf
      omega
    obtain ⟨v0, -, -⟩ := hv 0 (by have := (r1 c1).1; omega)
    obtain ⟨v1, -, -⟩ := hv 1 (by have := (r1 c1).1; omega)
    have c1' := eq_true (q1.mpr c1)
    have h1 : ¬ (8 : Int32) ≤ nI (B_b b) := nI_ge (b := 8) (by omega) (by decide)
    have x : am_ix (nI (B_b b)) 8 = true := am_ix_nI nl (by decide)
    have z : (nI (B_b b)).toNatClampNeg = B_b b := nI_clamp (by omega)
    have m1 : ∀ w, (am_sI h 168 (B_b b) w).1 165 1 = nI (B_b b) := fun w => by rw [c_ne _ _ _ _ _ _ (by decide)]; exact e1
    have m2 : ∀ w, (am_sI h 168 (B_b b) w).1 176 1 = nI (v 1) := fun w => by rw [c_ne _ _ _ _ _ _ (by decide)]; exact v1
    have m3 : ∀ w u, (am_sI (am_sI h 168 (B_b b) w) 169 (B_b b) u).1 165 1 = nI (B_b b) := fun w u => by rw [c_ne _ _ _ _ _ _ (by decide)]; exact m1 w
    refine ⟨am_sI (am_sI (am_sI h 168 (B_b b) (nI (v 0))) 169 (B_b b) (nI (v 1))) 165 1 (nI (B_b b + 1)), den0 _ ?_, fun t L g a q S => ((S.sI 168 _ _ (by omega)).sI 169 _ _ (by omega)).sI 165 _ _ (by omega), ⟨?_, c_eq _ _ _ _, ?_, fun k hk => ⟨?_, ?_⟩, fun k hk => ⟨?_, ?_⟩, fun k hk => ?_⟩, l1, nl, l3⟩
    · simp only [e49_0, e49_1, e49_4, e49_7, e49_10, e49_11, e49_14, e49_15, e49_18, e49_19, e49_22, e49_23, e49_26, e49_27, e49_28, e49_29, e49_30, e49_31, e49_34, e49_35, e49_38, e49_39, e49_40, e49_41, e49_42, e49_43, e49_43i, e49_44, e49_47, e49_48, e49_49, e49_52, e49_55, e49_56, e49_59, e49_62, e49_65, e49_66, e49_69, e49_71, e49_74, e49_75, e49_78, e49_79, e49_82, e49_83, e49_84, e49_85, e49_86, e49_87, e49_90, e49_91, e49_94, e49_95, e49_96, e49_97, e49_98, e49_99, e49_99i, e49_100, e49_103, e49_104, e49_105, e49_108, e49_111, e49_112, e49_115, e49_118, e49_121, e49_122, e49_125, e49_127, e49_130, e49_131, e49_134, e49_135, e49_138, e49_139, e49_140, e49_141, e49_142, e49_143, e49_143i, e49_144, e49_147, e49_148, e49_149, e49_152, am_bd_some, Option.toList_some, Option.toList_none, List.cons_append, List.nil_append, am_w8_0, am_w8_1, am_w8_2, am_w8_3, am_w8_4, eq_self, or_true, true_or, am_kd_sI, am_kd_sL, am_kd_sR, am_tc_sI, am_tc_sL, am_tc_sR, am_len_sI, am_len_sL, am_len_sR, am_rfs, if_true, if_false, am_rdL_sI, am_rR_sL, am_rt_cq, am_kd_cq, am_tc_cq, am_len_cq, am_rd_sL, am_rd_sR, am_rdL_sR, k0, k1, am_ob_some, c0', c1', not_true, not_false_eq_true, okK_165 ok, e1, h1, okR_165_5 ok, okR_165_6 ok, okT_176 ok, okL_176 ok, x0, z0, v0, x1, z1, okT_168 ok, okL_168 ok, okT_169 ok, okL_169 ok, x, z, m1, m2, m3, nI_1]
    · rw [c_rw, if_neg (by decide), c_ne _ _ _ _ _ _ (by decide), c_ne _ _ _ _ _ _ (by decide)]; exact e0
    · rw [c_rw, if_neg (by decide), c_ne _ _ _ _ _ _ (by decide), c_ne _ _ _ _ _ _ (by decide)]; exact e2
    · rw [c_ne _ _ _ _ _ _ (by decide), c_ne _ _ _ _ _ _ (by decide), c_ne _ _ _ _ _ _ (by decide)]; exact (e3 k hk).1
    · rw [c_ne _ _ _ _ _ _ (by decide), c_ne _ _ _ _ _ _ (by decide), c_ne _ _ _ _ _ _ (by decide)]; exact (e3 k hk).2
    · have hk' : k < B_b b + 1 := hk
      show _ = nI (if k = B_b b then v 0 else B_need b k)
      rw [c_ne _ _ _ _ _ _ (by decide), c_ne _ _ _ _ _ _ (by decide), c_rw]
      by_cases c : k = B_b b
      · rw [if_pos c, if_pos c]
      · rw [if_neg c, if_neg c]; exact (e4 k (by omega)).1
    · have hk' : k < B_b b + 1 := hk
      show _ = nI (if k = B_b b then v 1 else B_worth b k)
      rw [c_ne _ _ _ _ _ _ (by decide), c_rw]
      by_cases c : k = B_b b
      · rw [if_pos c, if_pos c]
      · rw [if_neg c, if_neg c, c_ne _ _ _ _ _ _ (by decide)]; exact (e4 k (by omega)).2
    · rw [c_ne _ _ _ _ _ _ (by decide), c_ne _ _ _ _ _ _ (by decide), c_ne _ _ _ _ _ _ (by decide)]; exact e5 k hk
  rw [if_neg c1] at hf ⊢
  have c1' := eq_false (fun w => c1 (q1.mp w))
  have c2 : ln_c i = 2 := by omega
  have c2' := eq_true (q2.mpr c2)
  have nl : B_f b < 10 := by
    have := of_decide_eq_false hf
    omega
  obtain ⟨v0, -, -⟩ := hv 0 (by have := r2 c2; omega)
  have h1 : ¬ (10 : Int32) ≤ nI (B_f b) := nI_ge (b := 10) (by omega) (by decide)
  have x : am_ix (nI (B_f b)) 10 = true := am_ix_nI nl (by decide)
  have z : (nI (B_f b)).toNatClampNeg = B_f b := nI_clamp (by omega)
  have m1 : ∀ w, (am_sI h 170 (B_f b) w).1 165 2 = nI (B_f b) := fun w => by rw [c_ne _ _ _ _ _ _ (by decide)]; exact e2
  refine ⟨am_sI (am_sI h 170 (B_f b) (nI (v 0))) 165 2 (nI (B_f b + 1)), den0 _ ?_, fun t L g a q S => (S.sI 170 _ _ (by omega)).sI 165 _ _ (by omega), ⟨?_, ?_, c_eq _ _ _ _, fun k hk => ⟨?_, ?_⟩, fun k hk => ⟨?_, ?_⟩, fun k hk => ?_⟩, l1, l2, nl⟩
  · simp only [e49_0, e49_1, e49_4, e49_7, e49_10, e49_11, e49_14, e49_15, e49_18, e49_19, e49_22, e49_23, e49_26, e49_27, e49_28, e49_29, e49_30, e49_31, e49_34, e49_35, e49_38, e49_39, e49_40, e49_41, e49_42, e49_43, e49_43i, e49_44, e49_47, e49_48, e49_49, e49_52, e49_55, e49_56, e49_59, e49_62, e49_65, e49_66, e49_69, e49_71, e49_74, e49_75, e49_78, e49_79, e49_82, e49_83, e49_84, e49_85, e49_86, e49_87, e49_90, e49_91, e49_94, e49_95, e49_96, e49_97, e49_98, e49_99, e49_99i, e49_100, e49_103, e49_104, e49_105, e49_108, e49_111, e49_112, e49_115, e49_118, e49_121, e49_122, e49_125, e49_127, e49_130, e49_131, e49_134, e49_135, e49_138, e49_139, e49_140, e49_141, e49_142, e49_143, e49_143i, e49_144, e49_147, e49_148, e49_149, e49_152, am_bd_some, Option.toList_some, Option.toList_none, List.cons_append, List.nil_append, am_w8_0, am_w8_1, am_w8_2, am_w8_3, am_w8_4, eq_self, or_true, true_or, am_kd_sI, am_kd_sL, am_kd_sR, am_tc_sI, am_tc_sL, am_tc_sR, am_len_sI, am_len_sL, am_len_sR, am_rfs, if_true, if_false, am_rdL_sI, am_rR_sL, am_rt_cq, am_kd_cq, am_tc_cq, am_len_cq, am_rd_sL, am_rd_sR, am_rdL_sR, k0, k1, k2, am_ob_some, c0', c1', c2', not_true, not_false_eq_true, okK_165 ok, e2, h1, okR_165_7 ok, okT_176 ok, okL_176 ok, x0, z0, v0, okT_170 ok, okL_170 ok, x, z, m1, nI_1]
  · rw [c_rw, if_neg (by decide), c_ne _ _ _ _ _ _ (by decide)]; exact e0
  · rw [c_rw, if_neg (by decide), c_ne _ _ _ _ _ _ (by decide)]; exact e1
  · rw [c_ne _ _ _ _ _ _ (by decide), c_ne _ _ _ _ _ _ (by decide)]; exact (e3 k hk).1
  · rw [c_ne _ _ _ _ _ _ (by decide), c_ne _ _ _ _ _ _ (by decide)]; exact (e3 k hk).2
  · rw [c_ne _ _ _ _ _ _ (by decide), c_ne _ _ _ _ _ _ (by decide)]; exact (e4 k hk).1
  · rw [c_ne _ _ _ _ _ _ (by decide), c_ne _ _ _ _ _ _ (by decide)]; exact (e4 k hk).2
  · have hk' : k < B_f b + 1 := hk
    show _ = nI (if k = B_f b then v 0 else B_field b k)
    rw [c_ne _ _ _ _ _ _ (by decide), c_rw]
    by_cases c : k = B_f b
    · rw [if_pos c, if_pos c]
    · rw [if_neg c, if_neg c]; exact e5 k (by omega)
/-! logs -/
def l_dr (h : am_H) (l : q_Lg) : Prop := L_cls h.1 171 l ∧ L_n l ≤ 8
def l_full (_ : Nat) (l : q_Lg) : Bool := decide (¬ L_n l < 8)
def l_dg (v : Nat → Nat) : Nat := 8 * v 3 + v 2
def l_di (i : Nat) (v : Nat → Nat) : Nat := if ln_c i = 2 then 0 else v 4
def l_upd (i : Nat) (v : Nat → Nat) (l : q_Lg) : q_Lg := (L_n l + 1, (fun k => if k = L_n l then ln_c i else L_did l k), (fun k => if k = L_n l then f_at v else L_beast l k), (fun k => if k = L_n l then l_dg v else L_dog l k), (fun k => if k = L_n l then l_di i v else L_dir l k))
theorem l_rr : ∀ i, i < 18 → ln_s i = 3 → ln_c i < 3 ∧ 4 ≤ (ln_r i).length ∧ (ln_c i ≠ 2 → (ln_r i).length = 5 ∧ (ln_r i).getD 4 0 = 100) ∧ (ln_c i = 2 → (ln_r i).length = 4) ∧ (ln_r i).getD 0 0 = 99 ∧ (ln_r i).getD 1 0 = 99 ∧ (ln_r i).getD 2 0 = 99 ∧ (ln_r i).getD 3 0 = 114 := by decide +kernel
theorem den_lkeep {h : am_H} (ok : am_okH h) {l : q_Lg} (H : l_dr h l) (i : Nat) (hi : i < 18) (is : ln_s i = 3) (v : Nat → Nat) (hv : ∀ j, j < (ln_r i).length → h.1 176 j = nI (v j) ∧ t_can ((ln_r i).getD j 0) (v j) v = true ∧ v j < 100) (hf : l_full i l = false) : ∃ h2 : am_H, am_den 50 [.ref 171, .int (nI (ln_c i)), .ref 176] h = some (none, h2) ∧ (∀ (t : Nat → Nat) (L : Nat) (g : am_H) (a : Nat) (q : Nat × Nat), c_st t L g h a q → c_st t L g h2 a q) ∧ l_dr h2 (l_upd i v l) := by
  obtain ⟨⟨e0, e1⟩, l8⟩ := H
  obtain ⟨c3, r1, r2, r3, -⟩ := l_rr i hi is
  have nl : L_n l < 8 := by
    have := of_decide_eq_false hf
    omega
  have h1 : ¬ (8 : Int32) ≤ nI (L_n l) := nI_ge (b := 8) (by omega) (by decide)
  have x : am_ix (nI (L_n l)) 8 = true := am_ix_nI nl (by decide)
  have z : (nI (L_n l)).toNatClampNeg = L_n l := nI_clamp (by omega)
  have x0 : am_ix 0 5 = true := by decide
  have x1 : am_ix 1 5 = true := by decide
  have x2 : am_ix 2 5 = true := by decide
  have x3 : am_ix 3 5 = true := by decide
  have x4 : am_ix 4 5 = true := by decide
  have z0 : (0 : Int32).toNatClampNeg = 0 := rfl
  have z1 : (1 : Int32).toNatClampNeg = 1 := rfl
  have z2 : (2 : Int32).toNatClampNeg = 2 := rfl
  have z3 : (3 : Int32).toNatClampNeg = 3 := rfl
  have z4 : (4 : Int32).toNatClampNeg = 4 := rfl
  obtain ⟨v0, -, -⟩ := hv 0 (by omega)
  obtain ⟨v1, -, -⟩ := hv 1 (by omega)
  obtain ⟨v2, -, -⟩ := hv 2 (by omega)
  obtain ⟨v3, -, -⟩ := hv 3 (by omega)
  let g1 : am_H := am_sI h 172 (L_n l) (nI (ln_c i))
  let g2 : am_H := am_sI g1 173 (L_n l) (nI (f_at v))
  let g3 : am_H := am_sI g2 174 (L_n l) (nI (l_dg v))
  have k1 : ∀ a b, a ≠ 172 → g1.1 a b = h.1 a b := fun a b q => c_ne _ _ _ _ _ _ q
  have k2 : ∀ a b, a ≠ 172 → a ≠ 173 → g2.1 a b = h.1 a b := fun a b q w => (c_ne _ _ _ _ _ _ w).trans (k1 a b q)
  have k3 : ∀ a b, a ≠ 172 → a ≠ 173 → a ≠ 174 → g3.1 a b = h.1 a b := fun a b q w y => (c_ne _ _ _ _ _ _ y).trans (k2 a b q w)
  have o1 : am_okH g1 := ok
  have o2 : am_okH g2 := ok
  have o3 : am_okH g3 := ok
  have n1 : g1.1 171 0 = nI (L_n l) := (k1 171 0 (by decide)).trans e0
  have n2 : g2.1 171 0 = nI (L_n l) := (k2 171 0 (by decide) (by decide)).trans e0
  have n3 : g3.1 171 0 = nI (L_n l) := (k3 171 0 (by decide) (by decide) (by decide)).trans e0
  have p10 := (k1 176 0 (by decide)).trans v0
  have p11 := (k1 176 1 (by decide)).trans v1
  have p22 := (k2 176 2 (by decide) (by decide)).trans v2
  have p23 := (k2 176 3 (by decide) (by decide)).trans v3
  have f1 := f_nat v
  have f2 : (8 : Int32) * nI (v 3) + nI (v 2) = nI (l_dg v) := q_81
  have s1 : am_ev 50 0 [some (.ref 171), some (.int (nI (ln_c i))), some (.ref 176)] [] h = am_ev 50 19 [some (.ref 171), some (.int (nI (ln_c i))), some (.ref 176)] [] g1 := by
    simp only [e50_0, e50_1, e50_4, e50_6, e50_9, e50_10, e50_13, e50_14, e50_17, e50_18, e50_20, e50_23, e50_24, e50_27, e50_29, e50_30, e50_31, e50_32, e50_33, e50_34, e50_35, e50_36, e50_37, e50_38, e50_39, e50_42, e50_43, e50_46, e50_48, e50_49, e50_50, e50_51, e50_52, e50_53, e50_54, e50_55, e50_56, e50_57, e50_58, e50_61, e50_62, e50_65, e50_66, e50_67, e50_70, e50_71, e50_74, e50_75, e50_76, e50_77, e50_78, e50_79, e50_79i, e50_80, e50_83, e50_84, e50_85, e50_88, am_bd_some, Option.toList_some, Option.toList_none, List.cons_append, List.nil_append, am_w8_0, am_w8_1, am_w8_2, am_w8_3, am_w8_4, eq_self, or_true, true_or, am_kd_sI, am_kd_sL, am_kd_sR, am_tc_sI, am_tc_sL, am_tc_sR, am_len_sI, am_len_sL, am_len_sR, am_rfs, if_true, if_false, am_rdL_sI, am_rR_sL, am_rt_cq, am_kd_cq, am_tc_cq, am_len_cq, am_rd_sL, am_rd_sR, am_rdL_sR, okK_171 ok, e0, h1, okR_171_1 ok, okT_172 ok, okL_172 ok, x, z]
    rfl
  have s2 : am_ev 50 19 [some (.ref 171), some (.int (nI (ln_c i))), some (.ref 176)] [] g1 = am_ev 50 38 [some (.ref 171), some (.int (nI (ln_c i))), some (.ref 176)] [] g2 := by
    simp only [e50_0, e50_1, e50_4, e50_6, e50_9, e50_10, e50_13, e50_14, e50_17, e50_18, e50_19, e50_20, e50_23, e50_24, e50_27, e50_29, e50_30, e50_31, e50_32, e50_33, e50_34, e50_35, e50_36, e50_37, e50_39, e50_42, e50_43, e50_46, e50_48, e50_49, e50_50, e50_51, e50_52, e50_53, e50_54, e50_55, e50_56, e50_57, e50_58, e50_61, e50_62, e50_65, e50_66, e50_67, e50_70, e50_71, e50_74, e50_75, e50_76, e50_77, e50_78, e50_79, e50_79i, e50_80, e50_83, e50_84, e50_85, e50_88, am_bd_some, Option.toList_some, Option.toList_none, List.cons_append, List.nil_append, am_w8_0, am_w8_1, am_w8_2, am_w8_3, am_w8_4, eq_self, or_true, true_or, am_kd_sI, am_kd_sL, am_kd_sR, am_tc_sI, am_tc_sL, am_tc_sR, am_len_sI, am_len_sL, am_len_sR, am_rfs, if_true, if_false, am_rdL_sI, am_rR_sL, am_rt_cq, am_kd_cq, am_tc_cq, am_len_cq, am_rd_sL, am_rd_sR, am_rdL_sR, okK_171 o1, n1, okR_171_2 o1, okT_173 o1, okL_173 o1, x, z, okT_176 o1, okL_176 o1, x0, x1, z0, z1, p10, p11, f1]
    rfl
  have s3 : am_ev 50 38 [some (.ref 171), some (.int (nI (ln_c i))), some (.ref 176)] [] g2 = am_ev 50 57 [some (.ref 171), some (.int (nI (ln_c i))), some (.ref 176)] [] g3 := by
    simp only [e50_0, e50_1, e50_4, e50_6, e50_9, e50_10, e50_13, e50_14, e50_17, e50_18, e50_19, e50_20, e50_23, e50_24, e50_27, e50_29, e50_30, e50_31, e50_32, e50_33, e50_34, e50_35, e50_36, e50_37, e50_38, e50_39, e50_42, e50_43, e50_46, e50_48, e50_49, e50_50, e50_51, e50_52, e50_53, e50_54, e50_55, e50_56, e50_58, e50_61, e50_62, e50_65, e50_66, e50_67, e50_70, e50_71, e50_74, e50_75, e50_76, e50_77, e50_78, e50_79, e50_79i, e50_80, e50_83, e50_84, e50_85, e50_88, am_bd_some, Option.toList_some, Option.toList_none, List.cons_append, List.nil_append, am_w8_0, am_w8_1, am_w8_2, am_w8_3, am_w8_4, eq_self, or_true, true_or, am_kd_sI, am_kd_sL, am_kd_sR, am_tc_sI, am_tc_sL, am_tc_sR, am_len_sI, am_len_sL, am_len_sR, am_rfs, if_true, if_false, am_rdL_sI, am_rR_sL, am_rt_cq, am_kd_cq, am_tc_cq, am_len_cq, am_rd_sL, am_rd_sR, am_rdL_sR, okK_171 o2, n2, okR_171_3 o2, okT_174 o2, okL_174 o2, x, z, okT_176 o2, okL_176 o2, x2, x3, z2, z3, p22, p23, f2]
    rfl
  have q2 : nI (ln_c i) = 2 ↔ ln_c i = 2 := nI_eq (b := 2) (by omega) (by decide)
  have wy : L_way (l_upd i v l) (L_n l) = if ln_c i = 2 then -1 else nI (l_di i v) := by
    show (if (if L_n l = L_n l then ln_c i else L_did l (L_n l)) = 2 then (-1 : Int32) else nI (if L_n l = L_n l then l_di i v else L_dir l (L_n l))) = _
    rw [if_pos rfl, if_pos rfl]
  have m4 : ∀ w, (am_sI g3 175 (L_n l) w).1 171 0 = nI (L_n l) := fun w => by rw [c_ne _ _ _ _ _ _ (by decide)]; exact n3
  refine ⟨am_sI (am_sI g3 175 (L_n l) (L_way (l_upd i v l) (L_n l))) 171 0 (nI (L_n l + 1)), ?_, fun t L g a q S => ((((S.sI 172 _ _ (by omega)).sI 173 _ _ (by omega)).sI 174 _ _ (by omega)).sI 175 _ _ (by omega)).sI 171 _ _ (by omega), ⟨c_eq _ _ _ _, fun k hk => ⟨?_, ?_, ?_, ?_⟩⟩, nl⟩
  · show am_ev 50 0 [some (.ref 171), some (.int (nI (ln_c i))), some (.ref 176)] [] h = _
    rw [s1, s2, s3, wy]
    by_cases c : ln_c i = 2
    · have c' := eq_true (q2.mpr c)
      rw [if_pos c]
      simp only [e50_0, e50_1, e50_4, e50_6, e50_9, e50_10, e50_13, e50_14, e50_17, e50_18, e50_19, e50_20, e50_23, e50_24, e50_27, e50_29, e50_30, e50_31, e50_32, e50_33, e50_34, e50_35, e50_36, e50_37, e50_38, e50_39, e50_42, e50_43, e50_46, e50_48, e50_49, e50_50, e50_51, e50_52, e50_53, e50_54, e50_55, e50_56, e50_57, e50_58, e50_61, e50_62, e50_65, e50_66, e50_67, e50_70, e50_71, e50_74, e50_75, e50_76, e50_77, e50_78, e50_79, e50_79i, e50_80, e50_83, e50_84, e50_85, e50_88, am_bd_some, Option.toList_some, Option.toList_none, List.cons_append, List.nil_append, am_w8_0, am_w8_1, am_w8_2, am_w8_3, am_w8_4, eq_self, or_true, true_or, am_kd_sI, am_kd_sL, am_kd_sR, am_tc_sI, am_tc_sL, am_tc_sR, am_len_sI, am_len_sL, am_len_sR, am_rfs, if_true, if_false, am_rdL_sI, am_rR_sL, am_rt_cq, am_kd_cq, am_tc_cq, am_len_cq, am_rd_sL, am_rd_sR, am_rdL_sR, okK_171 o3, n3, okR_171_4 o3, c', not_true, okT_175 o3, okL_175 o3, x, z, m4, nI_1]
    · have c' := eq_false (fun w => c (q2.mp w))
      obtain ⟨v4, -, -⟩ := hv 4 (by have := (r2 c).1; omega)
      have p34 := (k3 176 4 (by decide) (by decide) (by decide)).trans v4
      have ed : l_di i v = v 4 := if_neg c
      rw [if_neg c, ed]
      simp only [e50_0, e50_1, e50_4, e50_6, e50_9, e50_10, e50_13, e50_14, e50_17, e50_18, e50_19, e50_20, e50_23, e50_24, e50_27, e50_29, e50_30, e50_31, e50_32, e50_33, e50_34, e50_35, e50_36, e50_37, e50_38, e50_39, e50_42, e50_43, e50_46, e50_48, e50_49, e50_50, e50_51, e50_52, e50_53, e50_54, e50_55, e50_56, e50_57, e50_58, e50_61, e50_62, e50_65, e50_66, e50_67, e50_70, e50_71, e50_74, e50_75, e50_76, e50_77, e50_78, e50_79, e50_79i, e50_80, e50_83, e50_84, e50_85, e50_88, am_bd_some, Option.toList_some, Option.toList_none, List.cons_append, List.nil_append, am_w8_0, am_w8_1, am_w8_2, am_w8_3, am_w8_4, eq_self, or_true, true_or, am_kd_sI, am_kd_sL, am_kd_sR, am_tc_sI, am_tc_sL, am_tc_sR, am_len_sI, am_len_sL, am_len_sR, am_rfs, if_true, if_false, am_rdL_sI, am_rR_sL, am_rt_cq, am_kd_cq, am_tc_cq, am_len_cq, am_rd_sL, am_rd_sR, am_rdL_sR, okK_171 o3, n3, okR_171_4 o3, c', not_false_eq_true, okT_176 o3, okL_176 o3, x4, z4, p34, okT_175 o3, okL_175 o3, x, z, m4, nI_1]
  · have hk' : k < L_n l + 1 := hk
    show _ = nI (if k = L_n l then ln_c i else L_did l k)
    rw [c_ne _ _ _ _ _ _ (by decide), c_ne _ _ _ _ _ _ (by decide), c_ne _ _ _ _ _ _ (by decide), c_ne _ _ _ _ _ _ (by decide), c_rw]
    by_cases c : k = L_n l
    · rw [if_pos c, if_pos c]
    · rw [if_neg c, if_neg c]; exact (e1 k (by omega)).1
  · have hk' : k < L_n l + 1 := hk
    show _ = nI (if k = L_n l then f_at v else L_beast l k)
    rw [c_ne _ _ _ _ _ _ (by decide), c_ne _ _ _ _ _ _ (by decide), c_ne _ _ _ _ _ _ (by decide), c_rw]
    by_cases c : k = L_n l
    · rw [if_pos c, if_pos c]
    · rw [if_neg c, if_neg c, c_ne _ _ _ _ _ _ (by decide)]; exact (e1 k (by omega)).2.1
  · have hk' : k < L_n l + 1 := hk
    show _ = nI (if k = L_n l then l_dg v else L_dog l k)
    rw [c_ne _ _ _ _ _ _ (by decide), c_ne _ _ _ _ _ _ (by decide), c_rw]
    by_cases c : k = L_n l
    · rw [if_pos c, if_pos c]
    · rw [if_neg c, if_neg c, c_ne _ _ _ _ _ _ (by decide), c_ne _ _ _ _ _ _ (by decide)]; exact (e1 k (by omega)).2.2.1
  · have hk' : k < L_n l + 1 := hk
    rw [c_ne _ _ _ _ _ _ (by decide), c_rw]
    by_cases c : k = L_n l
    · rw [if_pos c, c]
    · have e : L_way (l_upd i v l) k = L_way l k := by
        show (if (if k = L_n l then ln_c i else L_did l k) = 2 then (-1 : Int32) else nI (if k = L_n l then l_di i v else L_dir l k)) = _
        rw [if_neg c, if_neg c]
        rfl
      rw [if_neg c, e, c_ne _ _ _ _ _ _ (by decide), c_ne _ _ _ _ _ _ (by decide), c_ne _ _ _ _ _ _ (by decide)]
      exact (e1 k (by omega)).2.2.2
