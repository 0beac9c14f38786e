/-! part 9S: what a line of a fell tells: the class -/
theorem e47_0 {ls : List (Option Value)} {st : List Value} {h : am_H} {a : Nat} : am_ev 47 0 (some (.ref a) :: ls) (st) h = am_ev 47 1 (some (.ref a) :: ls) (.ref a :: st) h := am_ev_step (q := (1, some (.ref a) :: ls, .ref a :: st, h)) _ (.aload_n 0) 1 am_my_47 (by decide +kernel) rfl
theorem e47_1 {ls : List (Option Value)} {st : List Value} {h : am_H} {o : Nat} (hk : am_kd h o = some (.inl 3)) : am_ev 47 1 ls (.ref o :: st) h = am_ev 47 4 ls (.int (h.1 o 5) :: st) h := am_u_gfI (idx := 37) (wn := 1064) am_my_47 (by decide +kernel) (by decide +kernel) (by decide +kernel) hk
theorem e47_4 {ls : List (Option Value)} {st : List Value} {h : am_H} : am_ev 47 4 (ls) (st) h = am_ev 47 6 (ls) (.int (6) :: st) h := am_ev_step (q := (6, ls, .int (6) :: st, h)) _ (.bipush (6)) 2 am_my_47 (by decide +kernel) rfl
theorem e47_6 {ls : List (Option Value)} {st : List Value} {h : am_H} {a b : Int32} : am_ev 47 6 ls (.int b :: .int a :: st) h = if b ≤ a then am_ev 47 39 ls st h else am_ev 47 9 ls st h := am_u_if2 (c := .ge) (off := 33) am_my_47 (by decide +kernel) (by decide)
theorem e47_9 {ls : List (Option Value)} {st : List Value} {h : am_H} {a : Nat} : am_ev 47 9 (some (.ref a) :: ls) (st) h = am_ev 47 10 (some (.ref a) :: ls) (.ref a :: st) h := am_ev_step (q := (10, some (.ref a) :: ls, .ref a :: st, h)) _ (.aload_n 0) 1 am_my_47 (by decide +kernel) rfl
theorem e47_10 {ls : List (Option Value)} {st : List Value} {h : am_H} {o : Nat} (hk : am_kd h o = some (.inl 3)) : am_ev 47 10 ls (.ref o :: st) h = am_ev 47 13 ls (va_rf (h.2.2.1 o 7) :: st) h := am_u_gfR (idx := 9) (wn := 1070) (a := 0) am_my_47 (by decide +kernel) (by decide +kernel) (by decide +kernel) hk
theorem e47_13 {ls : List (Option Value)} {st : List Value} {h : am_H} {a : Nat} : am_ev 47 13 (some (.ref a) :: ls) (st) h = am_ev 47 14 (some (.ref a) :: ls) (.ref a :: st) h := am_ev_step (q := (14, some (.ref a) :: ls, .ref a :: st, h)) _ (.aload_n 0) 1 am_my_47 (by decide +kernel) rfl
theorem e47_14 {ls : List (Option Value)} {st : List Value} {h : am_H} {o : Nat} (hk : am_kd h o = some (.inl 3)) : am_ev 47 14 ls (.ref o :: st) h = am_ev 47 17 ls (.int (h.1 o 5) :: st) h := am_u_gfI (idx := 37) (wn := 1064) am_my_47 (by decide +kernel) (by decide +kernel) (by decide +kernel) hk
theorem e47_17 {ls : List (Option Value)} {st : List Value} {h : am_H} {l0 : Option Value} {a : Int32} : am_ev 47 17 (l0 :: some (.int a) :: ls) (st) h = am_ev 47 18 (l0 :: some (.int a) :: ls) (.int a :: st) h := am_ev_step (q := (18, l0 :: some (.int a) :: ls, .int a :: st, h)) _ (.iload_n 1) 1 am_my_47 (by decide +kernel) rfl
theorem e47_18 {ls : List (Option Value)} {st : List Value} {h : am_H} {v i : Int32} {a : Nat} (ht : am_tc h a = some 0) : am_ev 47 18 ls (.int v :: .int i :: .ref a :: st) h = if am_ix i (am_len h a) = true then am_ev 47 19 ls st (am_sI h a i.toNatClampNeg v) else none := am_u_wI am_my_47 (by decide +kernel) ht
theorem e47_19 {ls : List (Option Value)} {st : List Value} {h : am_H} {a : Nat} : am_ev 47 19 (some (.ref a) :: ls) (st) h = am_ev 47 20 (some (.ref a) :: ls) (.ref a :: st) h := am_ev_step (q := (20, some (.ref a) :: ls, .ref a :: st, h)) _ (.aload_n 0) 1 am_my_47 (by decide +kernel) rfl
theorem e47_20 {ls : List (Option Value)} {st : List Value} {h : am_H} {o : Nat} (hk : am_kd h o = some (.inl 3)) : am_ev 47 20 ls (.ref o :: st) h = am_ev 47 23 ls (va_rf (h.2.2.1 o 8) :: st) h := am_u_gfR (idx := 15) (wn := 1072) (a := 0) am_my_47 (by decide +kernel) (by decide +kernel) (by decide +kernel) hk
theorem e47_23 {ls : List (Option Value)} {st : List Value} {h : am_H} {a : Nat} : am_ev 47 23 (some (.ref a) :: ls) (st) h = am_ev 47 24 (some (.ref a) :: ls) (.ref a :: st) h := am_ev_step (q := (24, some (.ref a) :: ls, .ref a :: st, h)) _ (.aload_n 0) 1 am_my_47 (by decide +kernel) rfl
theorem e47_24 {ls : List (Option Value)} {st : List Value} {h : am_H} {o : Nat} (hk : am_kd h o = some (.inl 3)) : am_ev 47 24 ls (.ref o :: st) h = am_ev 47 27 ls (.int (h.1 o 5) :: st) h := am_u_gfI (idx := 37) (wn := 1064) am_my_47 (by decide +kernel) (by decide +kernel) (by decide +kernel) hk
theorem e47_27 {ls : List (Option Value)} {st : List Value} {h : am_H} {l0 l1 : Option Value} {a : Int32} : am_ev 47 27 (l0 :: l1 :: some (.int a) :: ls) (st) h = am_ev 47 28 (l0 :: l1 :: some (.int a) :: ls) (.int a :: st) h := am_ev_step (q := (28, l0 :: l1 :: some (.int a) :: ls, .int a :: st, h)) _ (.iload_n 2) 1 am_my_47 (by decide +kernel) rfl
theorem e47_28 {ls : List (Option Value)} {st : List Value} {h : am_H} {v i : Int32} {a : Nat} (ht : am_tc h a = some 0) : am_ev 47 28 ls (.int v :: .int i :: .ref a :: st) h = if am_ix i (am_len h a) = true then am_ev 47 29 ls st (am_sI h a i.toNatClampNeg v) else none := am_u_wI am_my_47 (by decide +kernel) ht
theorem e47_29 {ls : List (Option Value)} {st : List Value} {h : am_H} {a : Nat} : am_ev 47 29 (some (.ref a) :: ls) (st) h = am_ev 47 30 (some (.ref a) :: ls) (.ref a :: st) h := am_ev_step (q := (30, some (.ref a) :: ls, .ref a :: st, h)) _ (.aload_n 0) 1 am_my_47 (by decide +kernel) rfl
theorem e47_30 {ls : List (Option Value)} {st : List Value} {h : am_H} {a : Nat} : am_ev 47 30 (ls) (.ref a :: st) h = am_ev 47 31 (ls) (.ref a :: .ref a :: st) h := am_ev_step (q := (31, ls, .ref a :: .ref a :: st, h)) _ (.dup) 1 am_my_47 (by decide +kernel) rfl
theorem e47_30i {ls : List (Option Value)} {st : List Value} {h : am_H} {a : Int32} : am_ev 47 30 (ls) (.int a :: st) h = am_ev 47 31 (ls) (.int a :: .int a :: st) h := am_ev_step (q := (31, ls, .int a :: .int a :: st, h)) _ (.dup) 1 am_my_47 (by decide +kernel) rfl
theorem e47_31 {ls : List (Option Value)} {st : List Value} {h : am_H} {o : Nat} (hk : am_kd h o = some (.inl 3)) : am_ev 47 31 ls (.ref o :: st) h = am_ev 47 34 ls (.int (h.1 o 5) :: st) h := am_u_gfI (idx := 37) (wn := 1064) am_my_47 (by decide +kernel) (by decide +kernel) (by decide +kernel) hk
theorem e47_34 {ls : List (Option Value)} {st : List Value} {h : am_H} : am_ev 47 34 (ls) (st) h = am_ev 47 35 (ls) (.int (1) :: st) h := am_ev_step (q := (35, ls, .int (1) :: st, h)) _ (.iconst (1)) 1 am_my_47 (by decide +kernel) rfl
theorem e47_35 {ls : List (Option Value)} {st : List Value} {h : am_H} {a b : Int32} : am_ev 47 35 (ls) (.int b :: .int a :: st) h = am_ev 47 36 (ls) (.int (a + b) :: st) h := am_ev_step (q := (36, ls, .int (a + b) :: st, h)) _ (.iadd) 1 am_my_47 (by decide +kernel) rfl
theorem e47_36 {ls : List (Option Value)} {st : List Value} {h : am_H} {o : Nat} {v : Int32} (hk : am_kd h o = some (.inl 3)) : am_ev 47 36 ls (.int v :: .ref o :: st) h = am_ev 47 39 ls st (am_sI h o 5 v) := am_u_pfI (idx := 37) (wn := 1064) am_my_47 (by decide +kernel) (by decide +kernel) (by decide +kernel) (by decide +kernel) hk
theorem e47_39 {ls : List (Option Value)} {h : am_H} : am_ev 47 39 ls [] h = some (none, h) := am_u_rtV am_my_47 (by decide +kernel) rfl
theorem e46_0 {ls : List (Option Value)} {st : List Value} {h : am_H} {l0 : Option Value} {a : Int32} : am_ev 46 0 (l0 :: some (.int a) :: ls) (st) h = am_ev 46 1 (l0 :: some (.int a) :: ls) (.int a :: st) h := am_ev_step (q := (1, l0 :: some (.int a) :: ls, .int a :: st, h)) _ (.iload_n 1) 1 am_my_46 (by decide +kernel) rfl
theorem e46_1 {ls : List (Option Value)} {st : List Value} {h : am_H} : am_ev 46 1 ls st h = am_ev 46 4 ls (.ref 1048584 :: st) h := am_u_gs (idx := 53) (z := 6) (wn := 3092) (q := ("DogNotary$Line", "SIZE", "LDogNotary$Line;", .ref 1048584)) am_my_46 (by decide +kernel) (by decide +kernel) (by decide +kernel) (by decide +kernel)
theorem e46_4 {ls : List (Option Value)} {st : List Value} {h : am_H} {o : Nat} : am_ev 46 4 ls (.ref o :: st) h = am_ob (kOv o 15) (fun v => am_ev 46 7 ls (v :: st) h) := am_u_gfK (idx := 59) (wn := 8140) am_my_46 (by decide +kernel) (by decide +kernel) (by decide +kernel)
theorem e46_7 {ls : List (Option Value)} {st : List Value} {h : am_H} {a b : Int32} : am_ev 46 7 ls (.int b :: .int a :: st) h = if ¬ a = b then am_ev 46 25 ls st h else am_ev 46 10 ls st h := am_u_if2 (c := .ne) (off := 18) am_my_46 (by decide +kernel) (by decide)
theorem e46_10 {ls : List (Option Value)} {st : List Value} {h : am_H} {a : Nat} : am_ev 46 10 (some (.ref a) :: ls) (st) h = am_ev 46 11 (some (.ref a) :: ls) (.ref a :: st) h := am_ev_step (q := (11, some (.ref a) :: ls, .ref a :: st, h)) _ (.aload_n 0) 1 am_my_46 (by decide +kernel) rfl
theorem e46_11 {ls : List (Option Value)} {st : List Value} {h : am_H} {l0 l1 : Option Value} {a : Nat} : am_ev 46 11 (l0 :: l1 :: some (.ref a) :: ls) (st) h = am_ev 46 12 (l0 :: l1 :: some (.ref a) :: ls) (.ref a :: st) h := am_ev_step (q := (12, l0 :: l1 :: some (.ref a) :: ls, .ref a :: st, h)) _ (.aload_n 2) 1 am_my_46 (by decide +kernel) rfl
theorem e46_12 {ls : List (Option Value)} {st : List Value} {h : am_H} : am_ev 46 12 (ls) (st) h = am_ev 46 13 (ls) (.int (0) :: st) h := am_ev_step (q := (13, ls, .int (0) :: st, h)) _ (.iconst (0)) 1 am_my_46 (by decide +kernel) rfl
theorem e46_13 {ls : List (Option Value)} {st : List Value} {h : am_H} {i : Int32} {a : Nat} (ht : am_tc h a = some 0) : am_ev 46 13 ls (.int i :: .ref a :: st) h = if am_ix i (am_len h a) = true then am_ev 46 14 ls (.int (h.1 a i.toNatClampNeg) :: st) h else none := am_u_rI am_my_46 (by decide +kernel) ht
theorem e46_14 {ls : List (Option Value)} {st : List Value} {h : am_H} {o : Nat} {v : Int32} (hk : am_kd h o = some (.inl 3)) : am_ev 46 14 ls (.int v :: .ref o :: st) h = am_ev 46 17 ls st (am_sI h o 0 v) := am_u_pfI (idx := 21) (wn := 1055) am_my_46 (by decide +kernel) (by decide +kernel) (by decide +kernel) (by decide +kernel) hk
theorem e46_17 {ls : List (Option Value)} {st : List Value} {h : am_H} {a : Nat} : am_ev 46 17 (some (.ref a) :: ls) (st) h = am_ev 46 18 (some (.ref a) :: ls) (.ref a :: st) h := am_ev_step (q := (18, some (.ref a) :: ls, .ref a :: st, h)) _ (.aload_n 0) 1 am_my_46 (by decide +kernel) rfl
theorem e46_18 {ls : List (Option Value)} {st : List Value} {h : am_H} {l0 l1 : Option Value} {a : Nat} : am_ev 46 18 (l0 :: l1 :: some (.ref a) :: ls) (st) h = am_ev 46 19 (l0 :: l1 :: some (.ref a) :: ls) (.ref a :: st) h := am_ev_step (q := (19, l0 :: l1 :: some (.ref a) :: ls, .ref a :: st, h)) _ (.aload_n 2) 1 am_my_46 (by decide +kernel) rfl
theorem e46_19 {ls : List (Option Value)} {st : List Value} {h : am_H} : am_ev 46 19 (ls) (st) h = am_ev 46 20 (ls) (.int (1) :: st) h := am_ev_step (q := (20, ls, .int (1) :: st, h)) _ (.iconst (1)) 1 am_my_46 (by decide +kernel) rfl
theorem e46_20 {ls : List (Option Value)} {st : List Value} {h : am_H} {i : Int32} {a : Nat} (ht : am_tc h a = some 0) : am_ev 46 20 ls (.int i :: .ref a :: st) h = if am_ix i (am_len h a) = true then am_ev 46 21 ls (.int (h.1 a i.toNatClampNeg) :: st) h else none := am_u_rI am_my_46 (by decide +kernel) ht
theorem e46_21 {ls : List (Option Value)} {st : List Value} {h : am_H} {o : Nat} {v : Int32} (hk : am_kd h o = some (.inl 3)) : am_ev 46 21 ls (.int v :: .ref o :: st) h = am_ev 46 24 ls st (am_sI h o 1 v) := am_u_pfI (idx := 25) (wn := 1056) am_my_46 (by decide +kernel) (by decide +kernel) (by decide +kernel) (by decide +kernel) hk
theorem e46_24 {ls : List (Option Value)} {h : am_H} : am_ev 46 24 ls [] h = some (none, h) := am_u_rtV am_my_46 (by decide +kernel) rfl
theorem e46_25 {ls : List (Option Value)} {st : List Value} {h : am_H} : am_ev 46 25 (ls) (st) h = am_ev 46 27 (ls) (.int (8) :: st) h := am_ev_step (q := (27, ls, .int (8) :: st, h)) _ (.bipush (8)) 2 am_my_46 (by decide +kernel) rfl
theorem e46_27 {ls : List (Option Value)} {st : List Value} {h : am_H} {l0 l1 : Option Value} {a : Nat} : am_ev 46 27 (l0 :: l1 :: some (.ref a) :: ls) (st) h = am_ev 46 28 (l0 :: l1 :: some (.ref a) :: ls) (.ref a :: st) h := am_ev_step (q := (28, l0 :: l1 :: some (.ref a) :: ls, .ref a :: st, h)) _ (.aload_n 2) 1 am_my_46 (by decide +kernel) rfl
theorem e46_28 {ls : List (Option Value)} {st : List Value} {h : am_H} : am_ev 46 28 (ls) (st) h = am_ev 46 29 (ls) (.int (1) :: st) h := am_ev_step (q := (29, ls, .int (1) :: st, h)) _ (.iconst (1)) 1 am_my_46 (by decide +kernel) rfl
theorem e46_29 {ls : List (Option Value)} {st : List Value} {h : am_H} {i : Int32} {a : Nat} (ht : am_tc h a = some 0) : am_ev 46 29 ls (.int i :: .ref a :: st) h = if am_ix i (am_len h a) = true then am_ev 46 30 ls (.int (h.1 a i.toNatClampNeg) :: st) h else none := am_u_rI am_my_46 (by decide +kernel) ht
theorem e46_30 {ls : List (Option Value)} {st : List Value} {h : am_H} {a b : Int32} : am_ev 46 30 (ls) (.int b :: .int a :: st) h = am_ev 46 31 (ls) (.int (a * b) :: st) h := am_ev_step (q := (31, ls, .int (a * b) :: st, h)) _ (.imul) 1 am_my_46 (by decide +kernel) rfl
theorem e46_31 {ls : List (Option Value)} {st : List Value} {h : am_H} {l0 l1 : Option Value} {a : Nat} : am_ev 46 31 (l0 :: l1 :: some (.ref a) :: ls) (st) h = am_ev 46 32 (l0 :: l1 :: some (.ref a) :: ls) (.ref a :: st) h := am_ev_step (q := (32, l0 :: l1 :: some (.ref a) :: ls, .ref a :: st, h)) _ (.aload_n 2) 1 am_my_46 (by decide +kernel) rfl
theorem e46_32 {ls : List (Option Value)} {st : List Value} {h : am_H} : am_ev 46 32 (ls) (st) h = am_ev 46 33 (ls) (.int (0) :: st) h := am_ev_step (q := (33, ls, .int (0) :: st, h)) _ (.iconst (0)) 1 am_my_46 (by decide +kernel) rfl
theorem e46_33 {ls : List (Option Value)} {st : List Value} {h : am_H} {i : Int32} {a : Nat} (ht : am_tc h a = some 0) : am_ev 46 33 ls (.int i :: .ref a :: st) h = if am_ix i (am_len h a) = true then am_ev 46 34 ls (.int (h.1 a i.toNatClampNeg) :: st) h else none := am_u_rI am_my_46 (by decide +kernel) ht
theorem e46_34 {ls : List (Option Value)} {st : List Value} {h : am_H} {a b : Int32} : am_ev 46 34 (ls) (.int b :: .int a :: st) h = am_ev 46 35 (ls) (.int (a + b) :: st) h := am_ev_step (q := (35, ls, .int (a + b) :: st, h)) _ (.iadd) 1 am_my_46 (by decide +kernel) rfl
theorem e46_35 {ls : List (Option Value)} {st : List Value} {h : am_H} {l0 l1 l2 : Option Value} {z : Option Value} {a : Int32} : am_ev 46 35 (l0 :: l1 :: l2 :: z :: ls) (.int a :: st) h = am_ev 46 36 (l0 :: l1 :: l2 :: some (.int a) :: ls) (st) h := am_ev_step (q := (36, l0 :: l1 :: l2 :: some (.int a) :: ls, st, h)) _ (.istore_n 3) 1 am_my_46 (by decide +kernel) rfl
theorem e46_36 {ls : List (Option Value)} {st : List Value} {h : am_H} {a : Nat} : am_ev 46 36 (some (.ref a) :: ls) (st) h = am_ev 46 37 (some (.ref a) :: ls) (.ref a :: st) h := am_ev_step (q := (37, some (.ref a) :: ls, .ref a :: st, h)) _ (.aload_n 0) 1 am_my_46 (by decide +kernel) rfl
theorem e46_37 {ls : List (Option Value)} {st : List Value} {h : am_H} {a : Nat} : am_ev 46 37 (ls) (.ref a :: st) h = am_ev 46 38 (ls) (.ref a :: .ref a :: st) h := am_ev_step (q := (38, ls, .ref a :: .ref a :: st, h)) _ (.dup) 1 am_my_46 (by decide +kernel) rfl
theorem e46_37i {ls : List (Option Value)} {st : List Value} {h : am_H} {a : Int32} : am_ev 46 37 (ls) (.int a :: st) h = am_ev 46 38 (ls) (.int a :: .int a :: st) h := am_ev_step (q := (38, ls, .int a :: .int a :: st, h)) _ (.dup) 1 am_my_46 (by decide +kernel) rfl
theorem e46_38 {ls : List (Option Value)} {st : List Value} {h : am_H} {o : Nat} (hk : am_kd h o = some (.inl 3)) : am_ev 46 38 ls (.ref o :: st) h = am_ev 46 41 ls (.long (h.2.1 o 9) :: st) h := am_u_gfL (idx := 44) (wn := 1069) am_my_46 (by decide +kernel) (by decide +kernel) (by decide +kernel) hk
theorem e46_41 {ls : List (Option Value)} {st : List Value} {h : am_H} : am_ev 46 41 (ls) (st) h = am_ev 46 42 (ls) (.long 1 :: st) h := am_ev_step (q := (42, ls, .long 1 :: st, h)) _ (.lconst 1) 1 am_my_46 (by decide +kernel) rfl
theorem e46_42 {ls : List (Option Value)} {st : List Value} {h : am_H} {l0 l1 l2 : Option Value} {a : Int32} : am_ev 46 42 (l0 :: l1 :: l2 :: some (.int a) :: ls) (st) h = am_ev 46 43 (l0 :: l1 :: l2 :: some (.int a) :: ls) (.int a :: st) h := am_ev_step (q := (43, l0 :: l1 :: l2 :: some (.int a) :: ls, .int a :: st, h)) _ (.iload_n 3) 1 am_my_46 (by decide +kernel) rfl
theorem e46_43 {ls : List (Option Value)} {st : List Value} {h : am_H} {a : Int64} {b : Int32} : am_ev 46 43 (ls) (.int b :: .long a :: st) h = am_ev 46 44 (ls) (.long (a <<< (b.toInt64 &&& 63)) :: st) h := am_ev_step (q := (44, ls, .long (a <<< (b.toInt64 &&& 63)) :: st, h)) _ (.lshl) 1 am_my_46 (by decide +kernel) rfl
theorem e46_44 {ls : List (Option Value)} {st : List Value} {h : am_H} {a b : Int64} : am_ev 46 44 (ls) (.long b :: .long a :: st) h = am_ev 46 45 (ls) (.long (a ||| b) :: st) h := am_ev_step (q := (45, ls, .long (a ||| b) :: st, h)) _ (.lor) 1 am_my_46 (by decide +kernel) rfl
theorem e46_45 {ls : List (Option Value)} {st : List Value} {h : am_H} {o : Nat} {v : Int64} (hk : am_kd h o = some (.inl 3)) : am_ev 46 45 ls (.long v :: .ref o :: st) h = am_ev 46 48 ls st (am_sL h o 9 v) := am_u_pfL (idx := 44) (wn := 1069) am_my_46 (by decide +kernel) (by decide +kernel) (by decide +kernel) (by decide +kernel) hk
theorem e46_48 {ls : List (Option Value)} {st : List Value} {h : am_H} {l0 : Option Value} {a : Int32} : am_ev 46 48 (l0 :: some (.int a) :: ls) (st) h = am_ev 46 49 (l0 :: some (.int a) :: ls) (.int a :: st) h := am_ev_step (q := (49, l0 :: some (.int a) :: ls, .int a :: st, h)) _ (.iload_n 1) 1 am_my_46 (by decide +kernel) rfl
theorem e46_49 {ls : List (Option Value)} {st : List Value} {h : am_H} : am_ev 46 49 (ls) (st) h = am_ev 46 50 (ls) (.int (4) :: st) h := am_ev_step (q := (50, ls, .int (4) :: st, h)) _ (.iconst (4)) 1 am_my_46 (by decide +kernel) rfl
theorem e46_50 {ls : List (Option Value)} {st : List Value} {h : am_H} {a b : Int32} : am_ev 46 50 ls (.int b :: .int a :: st) h = if b ≤ a then am_ev 46 62 ls st h else am_ev 46 53 ls st h := am_u_if2 (c := .ge) (off := 12) am_my_46 (by decide +kernel) (by decide)
theorem e46_53 {ls : List (Option Value)} {st : List Value} {h : am_H} {a : Nat} : am_ev 46 53 (some (.ref a) :: ls) (st) h = am_ev 46 54 (some (.ref a) :: ls) (.ref a :: st) h := am_ev_step (q := (54, some (.ref a) :: ls, .ref a :: st, h)) _ (.aload_n 0) 1 am_my_46 (by decide +kernel) rfl
theorem e46_54 {ls : List (Option Value)} {st : List Value} {h : am_H} {l0 : Option Value} {a : Int32} : am_ev 46 54 (l0 :: some (.int a) :: ls) (st) h = am_ev 46 55 (l0 :: some (.int a) :: ls) (.int a :: st) h := am_ev_step (q := (55, l0 :: some (.int a) :: ls, .int a :: st, h)) _ (.iload_n 1) 1 am_my_46 (by decide +kernel) rfl
theorem e46_55 {ls : List (Option Value)} {st : List Value} {h : am_H} {l0 l1 l2 : Option Value} {a : Int32} : am_ev 46 55 (l0 :: l1 :: l2 :: some (.int a) :: ls) (st) h = am_ev 46 56 (l0 :: l1 :: l2 :: some (.int a) :: ls) (.int a :: st) h := am_ev_step (q := (56, l0 :: l1 :: l2 :: some (.int a) :: ls, .int a :: st, h)) _ (.iload_n 3) 1 am_my_46 (by decide +kernel) rfl
theorem e46_56 {ls : List (Option Value)} {st : List Value} {h : am_H} {p0 : Int32} {p1 : Int32} {o : Nat} (hw : am_w8 st ≤ 8) (hk : am_kd h o = some (.inl 3)) : am_ev 46 56 ls (.int p1 :: .int p0 :: .ref o :: st) h = am_bd (am_den 47 [.ref o, .int p0, .int p1] h) (fun v h1 => am_ev 46 59 ls (v.toList ++ st) h1) := am_u_cV (idx := 62) (wn := 3094) (as := [.int p0, .int p1]) am_my_46 (by decide +kernel) (Or.inl (by decide +kernel)) am_my_47 (by decide +kernel) rfl ⟨Nat.le_of_ble_eq_true rfl, rfl⟩ (by decide +kernel) hw hk
theorem e46_59 {ls : List (Option Value)} {st : List Value} {h : am_H} : am_ev 46 59 (ls) (st) h = am_ev 46 117 (ls) (st) h := am_ev_step (q := (117, ls, st, h)) _ (.goto (58)) 3 am_my_46 (by decide +kernel) rfl
theorem e46_62 {ls : List (Option Value)} {st : List Value} {h : am_H} {l0 : Option Value} {a : Int32} : am_ev 46 62 (l0 :: some (.int a) :: ls) (st) h = am_ev 46 63 (l0 :: some (.int a) :: ls) (.int a :: st) h := am_ev_step (q := (63, l0 :: some (.int a) :: ls, .int a :: st, h)) _ (.iload_n 1) 1 am_my_46 (by decide +kernel) rfl
theorem e46_63 {ls : List (Option Value)} {st : List Value} {h : am_H} : am_ev 46 63 ls st h = am_ev 46 66 ls (.ref 1048582 :: st) h := am_u_gs (idx := 66) (z := 4) (wn := 3098) (q := ("DogNotary$Line", "WALL", "LDogNotary$Line;", .ref 1048582)) am_my_46 (by decide +kernel) (by decide +kernel) (by decide +kernel) (by decide +kernel)
theorem e46_66 {ls : List (Option Value)} {st : List Value} {h : am_H} {o : Nat} : am_ev 46 66 ls (.ref o :: st) h = am_ob (kOv o 15) (fun v => am_ev 46 69 ls (v :: st) h) := am_u_gfK (idx := 59) (wn := 8140) am_my_46 (by decide +kernel) (by decide +kernel) (by decide +kernel)
theorem e46_69 {ls : List (Option Value)} {st : List Value} {h : am_H} {a b : Int32} : am_ev 46 69 ls (.int b :: .int a :: st) h = if ¬ a = b then am_ev 46 87 ls st h else am_ev 46 72 ls st h := am_u_if2 (c := .ne) (off := 18) am_my_46 (by decide +kernel) (by decide)
theorem e46_72 {ls : List (Option Value)} {st : List Value} {h : am_H} {a : Nat} : am_ev 46 72 (some (.ref a) :: ls) (st) h = am_ev 46 73 (some (.ref a) :: ls) (.ref a :: st) h := am_ev_step (q := (73, some (.ref a) :: ls, .ref a :: st, h)) _ (.aload_n 0) 1 am_my_46 (by decide +kernel) rfl
theorem e46_73 {ls : List (Option Value)} {st : List Value} {h : am_H} {a : Nat} : am_ev 46 73 (ls) (.ref a :: st) h = am_ev 46 74 (ls) (.ref a :: .ref a :: st) h := am_ev_step (q := (74, ls, .ref a :: .ref a :: st, h)) _ (.dup) 1 am_my_46 (by decide +kernel) rfl
theorem e46_73i {ls : List (Option Value)} {st : List Value} {h : am_H} {a : Int32} : am_ev 46 73 (ls) (.int a :: st) h = am_ev 46 74 (ls) (.int a :: .int a :: st) h := am_ev_step (q := (74, ls, .int a :: .int a :: st, h)) _ (.dup) 1 am_my_46 (by decide +kernel) rfl
theorem e46_74 {ls : List (Option Value)} {st : List Value} {h : am_H} {o : Nat} (hk : am_kd h o = some (.inl 3)) : am_ev 46 74 ls (.ref o :: st) h = am_ev 46 77 ls (.long (h.2.1 o 6) :: st) h := am_u_gfL (idx := 40) (wn := 1068) am_my_46 (by decide +kernel) (by decide +kernel) (by decide +kernel) hk
theorem e46_77 {ls : List (Option Value)} {st : List Value} {h : am_H} : am_ev 46 77 (ls) (st) h = am_ev 46 78 (ls) (.long 1 :: st) h := am_ev_step (q := (78, ls, .long 1 :: st, h)) _ (.lconst 1) 1 am_my_46 (by decide +kernel) rfl
theorem e46_78 {ls : List (Option Value)} {st : List Value} {h : am_H} {l0 l1 l2 : Option Value} {a : Int32} : am_ev 46 78 (l0 :: l1 :: l2 :: some (.int a) :: ls) (st) h = am_ev 46 79 (l0 :: l1 :: l2 :: some (.int a) :: ls) (.int a :: st) h := am_ev_step (q := (79, l0 :: l1 :: l2 :: some (.int a) :: ls, .int a :: st, h)) _ (.iload_n 3) 1 am_my_46 (by decide +kernel) rfl
theorem e46_79 {ls : List (Option Value)} {st : List Value} {h : am_H} {a : Int64} {b : Int32} : am_ev 46 79 (ls) (.int b :: .long a :: st) h = am_ev 46 80 (ls) (.long (a <<< (b.toInt64 &&& 63)) :: st) h := am_ev_step (q := (80, ls, .long (a <<< (b.toInt64 &&& 63)) :: st, h)) _ (.lshl) 1 am_my_46 (by decide +kernel) rfl
theorem e46_80 {ls : List (Option Value)} {st : List Value} {h : am_H} {a b : Int64} : am_ev 46 80 (ls) (.long b :: .long a :: st) h = am_ev 46 81 (ls) (.long (a ||| b) :: st) h := am_ev_step (q := (81, ls, .long (a ||| b) :: st, h)) _ (.lor) 1 am_my_46 (by decide +kernel) rfl
theorem e46_81 {ls : List (Option Value)} {st : List Value} {h : am_H} {o : Nat} {v : Int64} (hk : am_kd h o = some (.inl 3)) : am_ev 46 81 ls (.long v :: .ref o :: st) h = am_ev 46 84 ls st (am_sL h o 6 v) := am_u_pfL (idx := 40) (wn := 1068) am_my_46 (by decide +kernel) (by decide +kernel) (by decide +kernel) (by decide +kernel) hk
theorem e46_84 {ls : List (Option Value)} {st : List Value} {h : am_H} : am_ev 46 84 (ls) (st) h = am_ev 46 117 (ls) (st) h := am_ev_step (q := (117, ls, st, h)) _ (.goto (33)) 3 am_my_46 (by decide +kernel) rfl
theorem e46_87 {ls : List (Option Value)} {st : List Value} {h : am_H} {l0 : Option Value} {a : Int32} : am_ev 46 87 (l0 :: some (.int a) :: ls) (st) h = am_ev 46 88 (l0 :: some (.int a) :: ls) (.int a :: st) h := am_ev_step (q := (88, l0 :: some (.int a) :: ls, .int a :: st, h)) _ (.iload_n 1) 1 am_my_46 (by decide +kernel) rfl
theorem e46_88 {ls : List (Option Value)} {st : List Value} {h : am_H} : am_ev 46 88 ls st h = am_ev 46 91 ls (.ref 1048583 :: st) h := am_u_gs (idx := 69) (z := 5) (wn := 3100) (q := ("DogNotary$Line", "PEN", "LDogNotary$Line;", .ref 1048583)) am_my_46 (by decide +kernel) (by decide +kernel) (by decide +kernel) (by decide +kernel)
theorem e46_91 {ls : List (Option Value)} {st : List Value} {h : am_H} {o : Nat} : am_ev 46 91 ls (.ref o :: st) h = am_ob (kOv o 15) (fun v => am_ev 46 94 ls (v :: st) h) := am_u_gfK (idx := 59) (wn := 8140) am_my_46 (by decide +kernel) (by decide +kernel) (by decide +kernel)
theorem e46_94 {ls : List (Option Value)} {st : List Value} {h : am_H} {a b : Int32} : am_ev 46 94 ls (.int b :: .int a :: st) h = if ¬ a = b then am_ev 46 105 ls st h else am_ev 46 97 ls st h := am_u_if2 (c := .ne) (off := 11) am_my_46 (by decide +kernel) (by decide)
theorem e46_97 {ls : List (Option Value)} {st : List Value} {h : am_H} {a : Nat} : am_ev 46 97 (some (.ref a) :: ls) (st) h = am_ev 46 98 (some (.ref a) :: ls) (.ref a :: st) h := am_ev_step (q := (98, some (.ref a) :: ls, .ref a :: st, h)) _ (.aload_n 0) 1 am_my_46 (by decide +kernel) rfl
theorem e46_98 {ls : List (Option Value)} {st : List Value} {h : am_H} {l0 l1 l2 : Option Value} {a : Int32} : am_ev 46 98 (l0 :: l1 :: l2 :: some (.int a) :: ls) (st) h = am_ev 46 99 (l0 :: l1 :: l2 :: some (.int a) :: ls) (.int a :: st) h := am_ev_step (q := (99, l0 :: l1 :: l2 :: some (.int a) :: ls, .int a :: st, h)) _ (.iload_n 3) 1 am_my_46 (by decide +kernel) rfl
theorem e46_99 {ls : List (Option Value)} {st : List Value} {h : am_H} {o : Nat} {v : Int32} (hk : am_kd h o = some (.inl 3)) : am_ev 46 99 ls (.int v :: .ref o :: st) h = am_ev 46 102 ls st (am_sI h o 2 v) := am_u_pfI (idx := 28) (wn := 1057) am_my_46 (by decide +kernel) (by decide +kernel) (by decide +kernel) (by decide +kernel) hk
theorem e46_102 {ls : List (Option Value)} {st : List Value} {h : am_H} : am_ev 46 102 (ls) (st) h = am_ev 46 117 (ls) (st) h := am_ev_step (q := (117, ls, st, h)) _ (.goto (15)) 3 am_my_46 (by decide +kernel) rfl
theorem e46_105 {ls : List (Option Value)} {st : List Value} {h : am_H} {a : Nat} : am_ev 46 105 (some (.ref a) :: ls) (st) h = am_ev 46 106 (some (.ref a) :: ls) (.ref a :: st) h := am_ev_step (q := (106, some (.ref a) :: ls, .ref a :: st, h)) _ (.aload_n 0) 1 am_my_46 (by decide +kernel) rfl
theorem e46_106 {ls : List (Option Value)} {st : List Value} {h : am_H} {l0 l1 l2 : Option Value} {a : Int32} : am_ev 46 106 (l0 :: l1 :: l2 :: some (.int a) :: ls) (st) h = am_ev 46 107 (l0 :: l1 :: l2 :: some (.int a) :: ls) (.int a :: st) h := am_ev_step (q := (107, l0 :: l1 :: l2 :: some (.int a) :: ls, .int a :: st, h)) _ (.iload_n 3) 1 am_my_46 (by decide +kernel) rfl
theorem e46_107 {ls : List (Option Value)} {st : List Value} {h : am_H} {o : Nat} {v : Int32} (hk : am_kd h o = some (.inl 3)) : am_ev 46 107 ls (.int v :: .ref o :: st) h = am_ev 46 110 ls st (am_sI h o 3 v) := am_u_pfI (idx := 31) (wn := 1061) am_my_46 (by decide +kernel) (by decide +kernel) (by decide +kernel) (by decide +kernel) hk
theorem e46_110 {ls : List (Option Value)} {st : List Value} {h : am_H} {a : Nat} : am_ev 46 110 (some (.ref a) :: ls) (st) h = am_ev 46 111 (some (.ref a) :: ls) (.ref a :: st) h := am_ev_step (q := (111, some (.ref a) :: ls, .ref a :: st, h)) _ (.aload_n 0) 1 am_my_46 (by decide +kernel) rfl
theorem e46_111 {ls : List (Option Value)} {st : List Value} {h : am_H} {l0 l1 : Option Value} {a : Nat} : am_ev 46 111 (l0 :: l1 :: some (.ref a) :: ls) (st) h = am_ev 46 112 (l0 :: l1 :: some (.ref a) :: ls) (.ref a :: st) h := am_ev_step (q := (112, l0 :: l1 :: some (.ref a) :: ls, .ref a :: st, h)) _ (.aload_n 2) 1 am_my_46 (by decide +kernel) rfl
theorem e46_112 {ls : List (Option Value)} {st : List Value} {h : am_H} : am_ev 46 112 (ls) (st) h = am_ev 46 113 (ls) (.int (2) :: st) h := am_ev_step (q := (113, ls, .int (2) :: st, h)) _ (.iconst (2)) 1 am_my_46 (by decide +kernel) rfl
theorem e46_113 {ls : List (Option Value)} {st : List Value} {h : am_H} {i : Int32} {a : Nat} (ht : am_tc h a = some 0) : am_ev 46 113 ls (.int i :: .ref a :: st) h = if am_ix i (am_len h a) = true then am_ev 46 114 ls (.int (h.1 a i.toNatClampNeg) :: st) h else none := am_u_rI am_my_46 (by decide +kernel) ht
theorem e46_114 {ls : List (Option Value)} {st : List Value} {h : am_H} {o : Nat} {v : Int32} (hk : am_kd h o = some (.inl 3)) : am_ev 46 114 ls (.int v :: .ref o :: st) h = am_ev 46 117 ls st (am_sI h o 4 v) := am_u_pfI (idx := 34) (wn := 1062) am_my_46 (by decide +kernel) (by decide +kernel) (by decide +kernel) (by decide +kernel) hk
theorem e46_117 {ls : List (Option Value)} {h : am_H} : am_ev 46 117 ls [] h = some (none, h) := am_u_rtV am_my_46 (by decide +kernel) rfl
theorem c_st.sI {t : Nat → Nat} {L : Nat} {g h : am_H} {a : Nat} {q : Nat × Nat} (H : c_st t L g h a q) (o k : Nat) (v : Int32) (ho : 160 ≤ o ∧ o ≤ 177) : c_st t L g (am_sI h o k v) a q := by
  obtain ⟨x, fr, ha, e9, e4, e5, q9⟩ := H
  exact ⟨x.sI o k v (by omega), fr.sI o k v (by omega), ha, by rw [am_rd_sI, if_neg (by omega)]; exact e9, by rw [am_rd_sI, if_neg (by omega)]; exact e4, fun w => by rw [am_rd_sI, if_neg (by omega)]; exact e5 w, q9⟩
theorem c_st.sL {t : Nat → Nat} {L : Nat} {g h : am_H} {a : Nat} {q : Nat × Nat} (H : c_st t L g h a q) (o k : Nat) (v : Int64) (ho : 160 ≤ o ∧ o ≤ 177) : c_st t L g (am_sL h o k v) a q := by
  obtain ⟨x, fr, ha, e9, e4, e5, q9⟩ := H
  exact ⟨⟨x.1, x.2.1, x.2.2.1, x.2.2.2.1, x.2.2.2.2⟩, fr.sL o k v (by omega), ha, e9, e4, e5, q9⟩
theorem c_rL (h : am_H) (o k : Nat) (v : Int64) (a b : Nat) : (am_sL h o k v).2.1 a b = if a = o ∧ b = k then v else h.2.1 a b := rfl
/-- what is told of a fell; one more than the greatest column, row that was told of -/
abbrev f_D : Type := q_Fl × Nat × Nat
def f_bits (w : Int64) (mx my : Nat) : Prop := (∀ c, c < 64 → q_bit w c = true → c % 8 < mx ∧ c / 8 < my) ∧ (mx ≠ 0 → ∃ c, c < 64 ∧ q_bit w c = true ∧ c % 8 + 1 = mx) ∧ (my ≠ 0 → ∃ c, c < 64 ∧ q_bit w c = true ∧ c / 8 + 1 = my)
def f_dr (h : am_H) (d : f_D) : Prop := F_cls h.1 h.2.1 160 d.1 ∧ F_n d.1 ≤ 6 ∧ f_bits (h.2.1 160 9) d.2.1 d.2.2
def f_full (i : Nat) (d : f_D) : Bool := decide (ln_c i < 4 ∧ ¬ F_n d.1 < 6)
def f_at (v : Nat → Nat) : Nat := 8 * v 1 + v 0
def f_or (w : Int64) (a : Nat) : Int64 := w ||| ((1 : Int64) <<< ((nI a).toInt64 &&& 63))
def f_far (v : Nat → Nat) (d : f_D) : Nat × Nat := (max d.2.1 (v 0 + 1), max d.2.2 (v 1 + 1))
def f_upd (i : Nat) (v : Nat → Nat) (d : f_D) : f_D :=
  if ln_c i = 6 then ((v 0, v 1, F_pen d.1, F_dog d.1, F_eye d.1, F_n d.1, F_walls d.1, F_kind d.1, F_cell d.1), d.2)
  else if ln_c i < 4 then ((F_w d.1, F_h d.1, F_pen d.1, F_dog d.1, F_eye d.1, F_n d.1 + 1, F_walls d.1, (fun b => if b = F_n d.1 then ln_c i else F_kind d.1 b), (fun b => if b = F_n d.1 then f_at v else F_cell d.1 b)), f_far v d)
  else if ln_c i = 4 then ((F_w d.1, F_h d.1, F_pen d.1, F_dog d.1, F_eye d.1, F_n d.1, f_or (F_walls d.1) (f_at v), F_kind d.1, F_cell d.1), f_far v d)
  else if ln_c i = 5 then ((F_w d.1, F_h d.1, f_at v, F_dog d.1, F_eye d.1, F_n d.1, F_walls d.1, F_kind d.1, F_cell d.1), f_far v d)
  else ((F_w d.1, F_h d.1, F_pen d.1, f_at v, v 2, F_n d.1, F_walls d.1, F_kind d.1, F_cell d.1), f_far v d)
theorem f_bits_or {w : Int64} {mx my : Nat} (H : f_bits w mx my) (v : Nat → Nat) (h0 : v 0 < 8) (h1 : v 1 < 8) : f_bits (f_or w (f_at v)) (max mx (v 0 + 1)) (max my (v 1 + 1)) := by
  obtain ⟨a1, a2, a3⟩ := H
  have al : f_at v < 64 := by unfold f_at; omega
  have e8 : f_at v % 8 = v 0 := by unfold f_at; omega
  have e9 : f_at v / 8 = v 1 := by unfold f_at; omega
  have hb : ∀ c, c < 64 → q_bit (f_or w (f_at v)) c = (q_bit w c || decide (c = f_at v)) := fun c hc => q_bit_or w (f_at v) c al hc
  have ba : q_bit (f_or w (f_at v)) (f_at v) = true := by rw [hb _ al, decide_eq_true rfl, Bool.or_true]
  have bo : ∀ c, c < 64 → q_bit w c = true → q_bit (f_or w (f_at v)) c = true := fun c hc q => by rw [hb c hc, q, Bool.true_or]
  refine ⟨fun c hc q => ?_, fun _ => ?_, fun _ => ?_⟩
  · rw [hb c hc, Bool.or_eq_true] at q
    rcases q with q | q
    · have := a1 c hc q
      exact ⟨Nat.lt_of_lt_of_le this.1 (Nat.le_max_left _ _), Nat.lt_of_lt_of_le this.2 (Nat.le_max_left _ _)⟩
    · rw [of_decide_eq_true q, e8, e9]
      exact ⟨Nat.lt_of_lt_of_le (Nat.lt_succ_self _) (Nat.le_max_right _ _), Nat.lt_of_lt_of_le (Nat.lt_succ_self _) (Nat.le_max_right _ _)⟩
  · by_cases c : mx ≤ v 0 + 1
    · exact ⟨_, al, ba, by rw [e8, Nat.max_eq_right c]⟩
    · obtain ⟨b, b1, b2, b3⟩ := a2 (by omega)
      exact ⟨b, b1, bo b b1 b2, by rw [b3, Nat.max_eq_left (by omega)]⟩
  · by_cases c : my ≤ v 1 + 1
    · exact ⟨_, al, ba, by rw [e9, Nat.max_eq_right c]⟩
    · obtain ⟨b, b1, b2, b3⟩ := a3 (by omega)
      exact ⟨b, b1, bo b b1 b2, by rw [b3, Nat.max_eq_left (by omega)]⟩
theorem f_nat (v : Nat → Nat) : (8 : Int32) * nI (v 1) + nI (v 0) = nI (f_at v) := q_81
theorem den_addBeast (h : am_H) (ok : am_okH h) (n : Nat) (hn : n < 6) (e : h.1 160 5 = nI n) (k a : Int32) : am_den 47 [.ref 160, .int k, .int a] h = some (none, am_sI (am_sI (am_sI h 161 n k) 162 n a) 160 5 (nI (n + 1))) := by
  have h1 : ¬ (6 : Int32) ≤ nI n := nI_ge (b := 6) (by omega) (by decide)
  have x : am_ix (nI n) 6 = true := am_ix_nI hn (by decide)
  have z : (nI n).toNatClampNeg = n := nI_clamp (by omega)
  have r1 : ∀ v, (am_sI h 161 n v).1 160 5 = nI n := fun v => by rw [am_rd_sI, if_neg (by omega)]; exact e
  have r2 : ∀ v w, (am_sI (am_sI h 161 n v) 162 n w).1 160 5 = nI n := fun v w => by rw [am_rd_sI, if_neg (by omega)]; exact r1 v
  have o1 : ∀ v, am_okH (am_sI h 161 n v) := fun _ => ok
  have o2 : ∀ v w, am_okH (am_sI (am_sI h 161 n v) 162 n w) := fun _ _ => ok
  show am_ev 47 0 [some (.ref 160), some (.int k), some (.int a)] [] h = _
  simp only [e47_0, e47_1, e47_4, e47_6, e47_9, e47_10, e47_13, e47_14, e47_17, e47_18, e47_19, e47_20, e47_23, e47_24, e47_27, e47_28, e47_29, e47_30, e47_30i, e47_31, e47_34, e47_35, e47_36, e47_39, am_bd_some, Option.toList_some, Option.toList_none, List.cons_append, List.nil_append, am_w8_0, am_w8_1, am_w8_2, am_w8_3, am_w8_4, eq_self, or_true, true_or, am_kd_sI, am_kd_sL, am_kd_sR, am_tc_sI, am_tc_sL, am_tc_sR, am_len_sI, am_len_sL, am_len_sR, am_rfs, if_true, if_false, am_rdL_sI, am_rR_sL, am_rt_cq, am_kd_cq, am_tc_cq, am_len_cq, am_rd_sL, am_rd_sR, am_rdL_sR, okK_160 ok, e, h1, okR_160_7 ok, okR_160_8 ok, okT_161 ok, okL_161 ok, okT_162 ok, okL_162 ok, x, z, r1, r2, nI_1]
theorem f_c8 : ∀ i, i < 18 → ln_s i = 0 → ln_c i = 6 ∨ ln_c i < 4 ∨ ln_c i = 4 ∨ ln_c i = 5 ∨ ln_c i = 7 := by decide +kernel
theorem f_rr : ∀ i, i < 18 → ln_s i = 0 → 2 ≤ (ln_r i).length ∧ (ln_c i = 7 → (ln_r i).length = 3 ∧ (ln_r i).getD 2 0 = 101) ∧ (ln_c i ≠ 6 → (ln_r i).getD 0 0 = 99 ∧ (ln_r i).getD 1 0 = 99) ∧ (ln_c i = 6 → (ln_r i).getD 0 0 = 115 ∧ (ln_r i).getD 1 0 = 115) := by decide +kernel
theorem t_can_c {v : Nat} {n : Nat → Nat} (h : t_can 99 v n = true) : v < 8 := by
  unfold t_can at h
  rw [if_neg (by decide), if_neg (by decide), if_neg (by decide), if_pos rfl] at h
  exact of_decide_eq_true h
theorem t_can_s {v : Nat} {n : Nat → Nat} (h : t_can 115 v n = true) : 2 ≤ v ∧ v ≤ 8 := by
  unfold t_can at h
  rw [if_pos rfl] at h
  exact of_decide_eq_true h
theorem t_can_e {v : Nat} {n : Nat → Nat} (h : t_can 101 v n = true) : 1 ≤ v ∧ v ≤ 9 := by
  unfold t_can at h
  rw [if_neg (by decide), if_pos rfl] at h
  exact of_decide_eq_true h
theorem t_can_d {v : Nat} {n : Nat → Nat} (h : t_can 100 v n = true) : v < 4 := by
  unfold t_can at h
  rw [if_neg (by decide), if_neg (by decide), if_pos rfl] at h
  exact of_decide_eq_true h
theorem t_can_r {v : Nat} {n : Nat → Nat} (h : t_can 114 v n = true) : v < 8 ∧ ¬ (n 0 = n 2 ∧ n 1 = n 3) := by
  unfold t_can at h
  rw [if_neg (by decide), if_neg (by decide), if_neg (by decide), if_neg (by decide), if_pos rfl] at h
  exact of_decide_eq_true h
theorem den_fkeep {h : am_H} (ok : am_okH h) {d : f_D} (H : f_dr h d) (i : Nat) (hi : i < 18) (is : ln_s i = 0) (v : Nat → Nat) (hv : ∀ j, j < (ln_r i).length → h.1 176 j = nI (v j) ∧ t_can ((ln_r i).getD j 0) (v j) v = true ∧ v j < 100) (hf : f_full i d = false) : ∃ h2 : am_H, am_den 46 [.ref 160, .int (nI (ln_c i)), .ref 176] h = some (none, h2) ∧ (∀ (t : Nat → Nat) (L : Nat) (g : am_H) (a : Nat) (q : Nat × Nat), c_st t L g h a q → c_st t L g h2 a q) ∧ f_dr h2 (f_upd i v d) := by
  obtain ⟨r1, r2, r3, r4⟩ := f_rr i hi is
  obtain ⟨v0, c0, b0⟩ := hv 0 (by omega)
  obtain ⟨v1, c1, b1⟩ := hv 1 (by omega)
  have x0 : am_ix 0 5 = true := by decide
  have x1 : am_ix 1 5 = true := by decide
  have x2 : am_ix 2 5 = true := by decide
  have z0 : (0 : Int32).toNatClampNeg = 0 := rfl
  have z1 : (1 : Int32).toNatClampNeg = 1 := rfl
  have z2 : (2 : Int32).toNatClampNeg = 2 := rfl
  have k6 : kOv 1048584 15 = some (.int 6) := by decide +kernel
  have k4 : kOv 1048582 15 = some (.int 4) := by decide +kernel
  have k5 : kOv 1048583 15 = some (.int 5) := by decide +kernel
  obtain ⟨⟨e0, e1, e2, e3, e4, e5, e6, e7, e8⟩, n6, bt⟩ := H
  have c8 := f_c8 i hi is
  have q6 : nI (ln_c i) = 6 ↔ ln_c i = 6 := nI_eq (b := 6) (by omega) (by decide)
  have q4 : (4 : Int32) ≤ nI (ln_c i) ↔ 4 ≤ ln_c i := nI_leI (a := 4) (by decide) (by omega)
  have q44 : nI (ln_c i) = 4 ↔ ln_c i = 4 := nI_eq (b := 4) (by omega) (by decide)
  have q5 : nI (ln_c i) = 5 ↔ ln_c i = 5 := nI_eq (b := 5) (by omega) (by decide)
  have den0 : ∀ h2 : am_H, am_ev 46 0 [some (.ref 160), some (.int (nI (ln_c i))), some (.ref 176), none] [] h = some (none, h2) → am_den 46 [.ref 160, .int (nI (ln_c i)), .ref 176] h = some (none, h2) := fun _ q => q
  unfold f_upd
  by_cases y6 : ln_c i = 6
  · rw [if_pos y6]
    have y6' := eq_true (q6.mpr y6)
    have m1 : ∀ w, (am_sI h 160 0 w).1 176 1 = nI (v 1) := fun w => by rw [am_rd_sI, if_neg (by omega)]; exact v1
    refine ⟨am_sI (am_sI h 160 0 (nI (v 0))) 160 1 (nI (v 1)), den0 _ ?_, fun t L g a q S => (S.sI 160 0 _ (by omega)).sI 160 1 _ (by omega), ⟨?_, ?_, ?_, ?_, ?_, ?_, e6, fun b hb => ?_, fun b hb => ?_⟩, n6, bt⟩
    · simp only [e46_0, e46_1, e46_4, e46_7, e46_10, e46_11, e46_12, e46_13, e46_14, e46_17, e46_18, e46_19, e46_20, e46_21, e46_24, e46_25, e46_27, e46_28, e46_29, e46_30, e46_31, e46_32, e46_33, e46_34, e46_35, e46_36, e46_37, e46_37i, e46_38, e46_41, e46_42, e46_43, e46_44, e46_45, e46_48, e46_49, e46_50, e46_53, e46_54, e46_55, e46_56, e46_59, e46_62, e46_63, e46_66, e46_69, e46_72, e46_73, e46_73i, e46_74, e46_77, e46_78, e46_79, e46_80, e46_81, e46_84, e46_87, e46_88, e46_91, e46_94, e46_97, e46_98, e46_99, e46_102, e46_105, e46_106, e46_107, e46_110, e46_111, e46_112, e46_113, e46_114, e46_117, am_bd_some, Option.toList_some, Option.toList_none, List.cons_append, List.nil_append, am_w8_0, am_w8_1, am_w8_2, am_w8_3, am_w8_4, eq_self, or_true, true_or, am_kd_sI, am_kd_sL, am_kd_sR, am_tc_sI, am_tc_sL, am_tc_sR, am_len_sI, am_len_sL, am_len_sR, am_rfs, if_true, if_false, am_rdL_sI, am_rR_sL, am_rt_cq, am_kd_cq, am_tc_cq, am_len_cq, am_rd_sL, am_rd_sR, am_rdL_sR, k6, am_ob_some, y6', not_true, okT_176 ok, okL_176 ok, x0, z0, v0, okK_160 ok, x1, z1, m1]
    · rw [am_rd_sI, if_neg (by omega), am_rd_sI, if_pos ⟨rfl, rfl⟩]; rfl
    · rw [am_rd_sI, if_pos ⟨rfl, rfl⟩]; rfl
    · rw [am_rd_sI, if_neg (by omega), am_rd_sI, if_neg (by omega)]; exact e2
    · rw [am_rd_sI, if_neg (by omega), am_rd_sI, if_neg (by omega)]; exact e3
    · rw [am_rd_sI, if_neg (by omega), am_rd_sI, if_neg (by omega)]; exact e4
    · rw [am_rd_sI, if_neg (by omega), am_rd_sI, if_neg (by omega)]; exact e5
    · rw [am_rd_sI, if_neg (by omega), am_rd_sI, if_neg (by omega)]; exact e7 b hb
    · rw [am_rd_sI, if_neg (by omega), am_rd_sI, if_neg (by omega)]; exact e8 b hb
  rw [if_neg y6]
  have y6' := eq_false (fun w => y6 (q6.mp w))
  obtain ⟨rc0, rc1⟩ := r3 y6
  rw [rc0] at c0
  rw [rc1] at c1
  have w0 := t_can_c c0
  have w1 := t_can_c c1
  have fn := f_nat v
  let hb : am_H := am_sL h 160 9 (f_or (h.2.1 160 9) (f_at v))
  have okb : am_okH hb := ok
  have bt' : f_bits (f_or (h.2.1 160 9) (f_at v)) (max d.2.1 (v 0 + 1)) (max d.2.2 (v 1 + 1)) := f_bits_or bt v w0 w1
  have s1 : am_ev 46 0 [some (.ref 160), some (.int (nI (ln_c i))), some (.ref 176), none] [] h = am_ev 46 48 [some (.ref 160), some (.int (nI (ln_c i))), some (.ref 176), some (.int (nI (f_at v)))] [] hb := by
    simp only [e46_0, e46_1, e46_4, e46_7, e46_10, e46_11, e46_12, e46_13, e46_14, e46_17, e46_18, e46_19, e46_20, e46_21, e46_24, e46_25, e46_27, e46_28, e46_29, e46_30, e46_31, e46_32, e46_33, e46_34, e46_35, e46_36, e46_37, e46_37i, e46_38, e46_41, e46_42, e46_43, e46_44, e46_45, e46_49, e46_50, e46_53, e46_54, e46_55, e46_56, e46_59, e46_62, e46_63, e46_66, e46_69, e46_72, e46_73, e46_73i, e46_74, e46_77, e46_78, e46_79, e46_80, e46_81, e46_84, e46_87, e46_88, e46_91, e46_94, e46_97, e46_98, e46_99, e46_102, e46_105, e46_106, e46_107, e46_110, e46_111, e46_112, e46_113, e46_114, e46_117, am_bd_some, Option.toList_some, Option.toList_none, List.cons_append, List.nil_append, am_w8_0, am_w8_1, am_w8_2, am_w8_3, am_w8_4, eq_self, or_true, true_or, am_kd_sI, am_kd_sL, am_kd_sR, am_tc_sI, am_tc_sL, am_tc_sR, am_len_sI, am_len_sL, am_len_sR, am_rfs, if_true, if_false, am_rdL_sI, am_rR_sL, am_rt_cq, am_kd_cq, am_tc_cq, am_len_cq, am_rd_sL, am_rd_sR, am_rdL_sR, k6, am_ob_some, y6', not_false_eq_true, okT_176 ok, okL_176 ok, x0, z0, v0, x1, z1, v1, fn, okK_160 ok]
    rfl
  have bb : ∀ x, x = 160 → f_bits (hb.2.1 x 9) (max d.2.1 (v 0 + 1)) (max d.2.2 (v 1 + 1)) := fun x hx => by
    rw [hx, c_rL, if_pos ⟨rfl, rfl⟩]; exact bt'
  have w6 : hb.2.1 160 6 = F_walls d.1 := by rw [c_rL, if_neg (by omega)]; exact e6
  by_cases y4 : ln_c i < 4
  · rw [if_pos y4]
    have y4' : ¬ (4 : Int32) ≤ nI (ln_c i) := fun w => absurd (q4.mp w) (by omega)
    have n5 : F_n d.1 < 6 := by
      have := of_decide_eq_false hf
      by_cases c : F_n d.1 < 6
      · exact c
      · exact absurd ⟨y4, c⟩ this
    have da := den_addBeast hb okb (F_n d.1) n5 e5 (nI (ln_c i)) (nI (f_at v))
    refine ⟨am_sI (am_sI (am_sI hb 161 (F_n d.1) (nI (ln_c i))) 162 (F_n d.1) (nI (f_at v))) 160 5 (nI (F_n d.1 + 1)), den0 _ ?_, fun t L g a q S => ((((S.sL 160 9 _ (by omega)).sI 161 _ _ (by omega)).sI 162 _ _ (by omega)).sI 160 5 _ (by omega)), ⟨?_, ?_, ?_, ?_, ?_, ?_, w6, fun b hb => ?_, fun b hb => ?_⟩, ?_, bb 160 rfl⟩
    · rw [s1]
      simp only [e46_0, e46_1, e46_4, e46_7, e46_10, e46_11, e46_12, e46_13, e46_14, e46_17, e46_18, e46_19, e46_20, e46_21, e46_24, e46_25, e46_27, e46_28, e46_29, e46_30, e46_31, e46_32, e46_33, e46_34, e46_35, e46_36, e46_37, e46_37i, e46_38, e46_41, e46_42, e46_43, e46_44, e46_45, e46_48, e46_49, e46_50, e46_53, e46_54, e46_55, e46_56, e46_59, e46_62, e46_63, e46_66, e46_69, e46_72, e46_73, e46_73i, e46_74, e46_77, e46_78, e46_79, e46_80, e46_81, e46_84, e46_87, e46_88, e46_91, e46_94, e46_97, e46_98, e46_99, e46_102, e46_105, e46_106, e46_107, e46_110, e46_111, e46_112, e46_113, e46_114, e46_117, am_bd_some, Option.toList_some, Option.toList_none, List.cons_append, List.nil_append, am_w8_0, am_w8_1, am_w8_2, am_w8_3, am_w8_4, eq_self, or_true, true_or, am_kd_sI, am_kd_sL, am_kd_sR, am_tc_sI, am_tc_sL, am_tc_sR, am_len_sI, am_len_sL, am_len_sR, am_rfs, if_true, if_false, am_rdL_sI, am_rR_sL, am_rt_cq, am_kd_cq, am_tc_cq, am_len_cq, am_rd_sL, am_rd_sR, am_rdL_sR, y4', okK_160 okb, da]
    · rw [am_rd_sI, if_neg (by omega), am_rd_sI, if_neg (by omega), am_rd_sI, if_neg (by omega)]; exact e0
    · rw [am_rd_sI, if_neg (by omega), am_rd_sI, if_neg (by omega), am_rd_sI, if_neg (by omega)]; exact e1
    · rw [am_rd_sI, if_neg (by omega), am_rd_sI, if_neg (by omega), am_rd_sI, if_neg (by omega)]; exact e2
    · rw [am_rd_sI, if_neg (by omega), am_rd_sI, if_neg (by omega), am_rd_sI, if_neg (by omega)]; exact e3
    · rw [am_rd_sI, if_neg (by omega), am_rd_sI, if_neg (by omega), am_rd_sI, if_neg (by omega)]; exact e4
    · rw [am_rd_sI, if_pos ⟨rfl, rfl⟩]; rfl
    · have hb' : b < F_n d.1 + 1 := hb
      show _ = nI (if b = F_n d.1 then ln_c i else F_kind d.1 b)
      rw [am_rd_sI, if_neg (by omega), am_rd_sI, if_neg (by omega), am_rd_sI]
      by_cases c : b = F_n d.1
      · rw [if_pos ⟨rfl, c⟩, if_pos c]
      · rw [if_neg (fun w => c w.2), if_neg c]; exact e7 b (by omega)
    · have hb' : b < F_n d.1 + 1 := hb
      show _ = nI (if b = F_n d.1 then f_at v else F_cell d.1 b)
      rw [am_rd_sI, if_neg (by omega), am_rd_sI]
      by_cases c : b = F_n d.1
      · rw [if_pos ⟨rfl, c⟩, if_pos c]
      · rw [if_neg (fun w => c w.2), if_neg c, am_rd_sI, if_neg (by omega)]; exact e8 b (by omega)
    · show F_n d.1 + 1 ≤ 6; omega
  rw [if_neg y4]
  have y4' : (4 : Int32) ≤ nI (ln_c i) := q4.mpr (by omega)
  by_cases y44 : ln_c i = 4
  · rw [if_pos y44]
    have y44' := eq_true (q44.mpr y44)
    refine ⟨am_sL hb 160 6 (f_or (F_walls d.1) (f_at v)), den0 _ ?_, fun t L g a q S => (S.sL 160 9 _ (by omega)).sL 160 6 _ (by omega), ⟨e0, e1, e2, e3, e4, e5, ?_, e7, e8⟩, n6, ?_⟩
    · rw [s1]
      simp only [e46_0, e46_1, e46_4, e46_7, e46_10, e46_11, e46_12, e46_13, e46_14, e46_17, e46_18, e46_19, e46_20, e46_21, e46_24, e46_25, e46_27, e46_28, e46_29, e46_30, e46_31, e46_32, e46_33, e46_34, e46_35, e46_36, e46_37, e46_37i, e46_38, e46_41, e46_42, e46_43, e46_44, e46_45, e46_48, e46_49, e46_50, e46_53, e46_54, e46_55, e46_56, e46_59, e46_62, e46_63, e46_66, e46_69, e46_72, e46_73, e46_73i, e46_74, e46_77, e46_78, e46_79, e46_80, e46_81, e46_84, e46_87, e46_88, e46_91, e46_94, e46_97, e46_98, e46_99, e46_102, e46_105, e46_106, e46_107, e46_110, e46_111, e46_112, e46_113, e46_114, e46_117, am_bd_some, Option.toList_some, Option.toList_none, List.cons_append, List.nil_append, am_w8_0, am_w8_1, am_w8_2, am_w8_3, am_w8_4, eq_self, or_true, true_or, am_kd_sI, am_kd_sL, am_kd_sR, am_tc_sI, am_tc_sL, am_tc_sR, am_len_sI, am_len_sL, am_len_sR, am_rfs, if_true, if_false, am_rdL_sI, am_rR_sL, am_rt_cq, am_kd_cq, am_tc_cq, am_len_cq, am_rd_sL, am_rd_sR, am_rdL_sR, y4', k4, am_ob_some, y44', not_true, okK_160 okb, w6]
      rfl
    · rw [c_rL, if_pos ⟨rfl, rfl⟩]; rfl
    · rw [c_rL, if_neg (by omega)]; exact bb 160 rfl
  rw [if_neg y44]
  have y44' := eq_false (fun w => y44 (q44.mp w))
  by_cases y5 : ln_c i = 5
  · rw [if_pos y5]
    have y5' := eq_true (q5.mpr y5)
    refine ⟨am_sI hb 160 2 (nI (f_at v)), den0 _ ?_, fun t L g a q S => (S.sL 160 9 _ (by omega)).sI 160 2 _ (by omega), ⟨?_, ?_, ?_, ?_, ?_, ?_, w6, fun b hb => ?_, fun b hb => ?_⟩, n6, bb 160 rfl⟩
    · rw [s1]
      simp only [e46_0, e46_1, e46_4, e46_7, e46_10, e46_11, e46_12, e46_13, e46_14, e46_17, e46_18, e46_19, e46_20, e46_21, e46_24, e46_25, e46_27, e46_28, e46_29, e46_30, e46_31, e46_32, e46_33, e46_34, e46_35, e46_36, e46_37, e46_37i, e46_38, e46_41, e46_42, e46_43, e46_44, e46_45, e46_48, e46_49, e46_50, e46_53, e46_54, e46_55, e46_56, e46_59, e46_62, e46_63, e46_66, e46_69, e46_72, e46_73, e46_73i, e46_74, e46_77, e46_78, e46_79, e46_80, e46_81, e46_84, e46_87, e46_88, e46_91, e46_94, e46_97, e46_98, e46_99, e46_102, e46_105, e46_106, e46_107, e46_110, e46_111, e46_112, e46_113, e46_114, e46_117, am_bd_some, Option.toList_some, Option.toList_none, List.cons_append, List.nil_append, am_w8_0, am_w8_1, am_w8_2, am_w8_3, am_w8_4, eq_self, or_true, true_or, am_kd_sI, am_kd_sL, am_kd_sR, am_tc_sI, am_tc_sL, am_tc_sR, am_len_sI, am_len_sL, am_len_sR, am_rfs, if_true, if_false, am_rdL_sI, am_rR_sL, am_rt_cq, am_kd_cq, am_tc_cq, am_len_cq, am_rd_sL, am_rd_sR, am_rdL_sR, y4', k4, k5, am_ob_some, y44', y5', not_true, not_false_eq_true, okK_160 okb]
    · rw [am_rd_sI, if_neg (by omega)]; exact e0
    · rw [am_rd_sI, if_neg (by omega)]; exact e1
    · rw [am_rd_sI, if_pos ⟨rfl, rfl⟩]; rfl
    · rw [am_rd_sI, if_neg (by omega)]; exact e3
    · rw [am_rd_sI, if_neg (by omega)]; exact e4
    · rw [am_rd_sI, if_neg (by omega)]; exact e5
    · rw [am_rd_sI, if_neg (by omega)]; exact e7 b hb
    · rw [am_rd_sI, if_neg (by omega)]; exact e8 b hb
  rw [if_neg y5]
  have y5' := eq_false (fun w => y5 (q5.mp w))
  have y7 : ln_c i = 7 := by omega
  obtain ⟨r7, -⟩ := r2 y7
  obtain ⟨v2, -, -⟩ := hv 2 (by omega)
  have m2 : ∀ w, (am_sI hb 160 3 w).1 176 2 = nI (v 2) := fun w => by rw [am_rd_sI, if_neg (by omega)]; exact v2
  refine ⟨am_sI (am_sI hb 160 3 (nI (f_at v))) 160 4 (nI (v 2)), den0 _ ?_, fun t L g a q S => ((S.sL 160 9 _ (by omega)).sI 160 3 _ (by omega)).sI 160 4 _ (by omega), ⟨?_, ?_, ?_, ?_, ?_, ?_, w6, fun b hb => ?_, fun b hb => ?_⟩, n6, bb 160 rfl⟩
  · rw [s1]
    simp only [e46_0, e46_1, e46_4, e46_7, e46_10, e46_11, e46_12, e46_13, e46_14, e46_17, e46_18, e46_19, e46_20, e46_21, e46_24, e46_25, e46_27, e46_28, e46_29, e46_30, e46_31, e46_32, e46_33, e46_34, e46_35, e46_36, e46_37, e46_37i, e46_38, e46_41, e46_42, e46_43, e46_44, e46_45, e46_48, e46_49, e46_50, e46_53, e46_54, e46_55, e46_56, e46_59, e46_62, e46_63, e46_66, e46_69, e46_72, e46_73, e46_73i, e46_74, e46_77, e46_78, e46_79, e46_80, e46_81, e46_84, e46_87, e46_88, e46_91, e46_94, e46_97, e46_98, e46_99, e46_102, e46_105, e46_106, e46_107, e46_110, e46_111, e46_112, e46_113, e46_114, e46_117, am_bd_some, Option.toList_some, Option.toList_none, List.cons_append, List.nil_append, am_w8_0, am_w8_1, am_w8_2, am_w8_3, am_w8_4, eq_self, or_true, true_or, am_kd_sI, am_kd_sL, am_kd_sR, am_tc_sI, am_tc_sL, am_tc_sR, am_len_sI, am_len_sL, am_len_sR, am_rfs, if_true, if_false, am_rdL_sI, am_rR_sL, am_rt_cq, am_kd_cq, am_tc_cq, am_len_cq, am_rd_sL, am_rd_sR, am_rdL_sR, y4', k4, k5, am_ob_some, y44', y5', not_false_eq_true, okK_160 okb, okT_176 okb, okL_176 okb, x2, z2, m2]
  · rw [am_rd_sI, if_neg (by omega), am_rd_sI, if_neg (by omega)]; exact e0
  · rw [am_rd_sI, if_neg (by omega), am_rd_sI, if_neg (by omega)]; exact e1
  · rw [am_rd_sI, if_neg (by omega), am_rd_sI, if_neg (by omega)]; exact e2
  · rw [am_rd_sI, if_neg (by omega), am_rd_sI, if_pos ⟨rfl, rfl⟩]; rfl
  · rw [am_rd_sI, if_pos ⟨rfl, rfl⟩]; rfl
  · rw [am_rd_sI, if_neg (by omega), am_rd_sI, if_neg (by omega)]; exact e5
  · rw [am_rd_sI, if_neg (by omega), am_rd_sI, if_neg (by omega)]; exact e7 b hb
  · rw [am_rd_sI, if_neg (by omega), am_rd_sI, if_neg (by omega)]; exact e8 b hb
