/-! part 44: the class's flock begins; who is told -/
theorem e115_0 {ls : List (Option Value)} {st : List Value} {h : am_H} : am_ev 115 0 (ls) (st) h = am_ev 115 1 (ls) (.int (0) :: st) h := am_ev_step (q := (1, ls, .int (0) :: st, h)) _ (.iconst (0)) 1 am_my_115 (by decide +kernel) rfl
theorem e115_1 {ls : List (Option Value)} {st : List Value} {h : am_H} {l0 l1 l2 : Option Value} {z : Option Value} {a : Int32} : am_ev 115 1 (l0 :: l1 :: l2 :: z :: ls) (.int a :: st) h = am_ev 115 2 (l0 :: l1 :: l2 :: some (.int a) :: ls) (st) h := am_ev_step (q := (2, l0 :: l1 :: l2 :: some (.int a) :: ls, st, h)) _ (.istore_n 3) 1 am_my_115 (by decide +kernel) rfl
theorem e115_2 {ls : List (Option Value)} {st : List Value} {h : am_H} {l0 l1 l2 : Option Value} {a : Int32} : am_ev 115 2 (l0 :: l1 :: l2 :: some (.int a) :: ls) (st) h = am_ev 115 3 (l0 :: l1 :: l2 :: some (.int a) :: ls) (.int a :: st) h := am_ev_step (q := (3, l0 :: l1 :: l2 :: some (.int a) :: ls, .int a :: st, h)) _ (.iload_n 3) 1 am_my_115 (by decide +kernel) rfl
theorem e115_3 {ls : List (Option Value)} {st : List Value} {h : am_H} {l0 l1 : Option Value} {a : Int32} : am_ev 115 3 (l0 :: l1 :: some (.int a) :: ls) (st) h = am_ev 115 4 (l0 :: l1 :: some (.int a) :: ls) (.int a :: st) h := am_ev_step (q := (4, l0 :: l1 :: some (.int a) :: ls, .int a :: st, h)) _ (.iload_n 2) 1 am_my_115 (by decide +kernel) rfl
theorem e115_4 {ls : List (Option Value)} {st : List Value} {h : am_H} {a b : Int32} : am_ev 115 4 ls (.int b :: .int a :: st) h = if b ≤ a then am_ev 115 36 ls st h else am_ev 115 7 ls st h := am_u_if2 (c := .ge) (off := 32) am_my_115 (by decide +kernel) (by decide)
theorem e115_7 {ls : List (Option Value)} {st : List Value} {h : am_H} {l0 l1 l2 : Option Value} {a : Int32} : am_ev 115 7 (l0 :: l1 :: l2 :: some (.int a) :: ls) (st) h = am_ev 115 8 (l0 :: l1 :: l2 :: some (.int a) :: ls) (.int a :: st) h := am_ev_step (q := (8, l0 :: l1 :: l2 :: some (.int a) :: ls, .int a :: st, h)) _ (.iload_n 3) 1 am_my_115 (by decide +kernel) rfl
theorem e115_8 {ls : List (Option Value)} {st : List Value} {h : am_H} {l0 : Option Value} {a : Nat} : am_ev 115 8 (l0 :: some (.ref a) :: ls) (st) h = am_ev 115 9 (l0 :: some (.ref a) :: ls) (.ref a :: st) h := am_ev_step (q := (9, l0 :: some (.ref a) :: ls, .ref a :: st, h)) _ (.aload_n 1) 1 am_my_115 (by decide +kernel) rfl
theorem e115_9 {ls : List (Option Value)} {st : List Value} {h : am_H} {o : Nat} (hk : am_kd h o = some (.inl 2)) : am_ev 115 9 ls (.ref o :: st) h = am_ev 115 12 ls (.int (h.1 o 0) :: st) h := am_u_gfI (idx := 113) (wn := 1105) am_my_115 (by decide +kernel) (by decide +kernel) (by decide +kernel) hk
theorem e115_12 {ls : List (Option Value)} {st : List Value} {h : am_H} {a b : Int32} : am_ev 115 12 ls (.int b :: .int a :: st) h = if b ≤ a then am_ev 115 36 ls st h else am_ev 115 15 ls st h := am_u_if2 (c := .ge) (off := 24) am_my_115 (by decide +kernel) (by decide)
theorem e115_15 {ls : List (Option Value)} {st : List Value} {h : am_H} {a : Nat} : am_ev 115 15 (some (.ref a) :: ls) (st) h = am_ev 115 16 (some (.ref a) :: ls) (.ref a :: st) h := am_ev_step (q := (16, some (.ref a) :: ls, .ref a :: st, h)) _ (.aload_n 0) 1 am_my_115 (by decide +kernel) rfl
theorem e115_16 {ls : List (Option Value)} {st : List Value} {h : am_H} {l0 : Option Value} {a : Nat} : am_ev 115 16 (l0 :: some (.ref a) :: ls) (st) h = am_ev 115 17 (l0 :: some (.ref a) :: ls) (.ref a :: st) h := am_ev_step (q := (17, l0 :: some (.ref a) :: ls, .ref a :: st, h)) _ (.aload_n 1) 1 am_my_115 (by decide +kernel) rfl
theorem e115_17 {ls : List (Option Value)} {st : List Value} {h : am_H} {o : Nat} (hk : am_kd h o = some (.inl 2)) : am_ev 115 17 ls (.ref o :: st) h = am_ev 115 20 ls (va_rf (h.2.2.1 o 1) :: st) h := am_u_gfR (idx := 118) (wn := 1108) (a := 0) am_my_115 (by decide +kernel) (by decide +kernel) (by decide +kernel) hk
theorem e115_20 {ls : List (Option Value)} {st : List Value} {h : am_H} {l0 l1 l2 : Option Value} {a : Int32} : am_ev 115 20 (l0 :: l1 :: l2 :: some (.int a) :: ls) (st) h = am_ev 115 21 (l0 :: l1 :: l2 :: some (.int a) :: ls) (.int a :: st) h := am_ev_step (q := (21, l0 :: l1 :: l2 :: some (.int a) :: ls, .int a :: st, h)) _ (.iload_n 3) 1 am_my_115 (by decide +kernel) rfl
theorem e115_21 {ls : List (Option Value)} {st : List Value} {h : am_H} {i : Int32} {a : Nat} (ht : am_tc h a = some 0) : am_ev 115 21 ls (.int i :: .ref a :: st) h = if am_ix i (am_len h a) = true then am_ev 115 22 ls (.int (h.1 a i.toNatClampNeg) :: st) h else none := am_u_rI am_my_115 (by decide +kernel) ht
theorem e115_22 {ls : List (Option Value)} {st : List Value} {h : am_H} {p0 : Int32} {o : Nat} (hw : am_w8 st ≤ 8) (hk : am_kd h o = some (.inl 4)) : am_ev 115 22 ls (.int p0 :: .ref o :: st) h = am_bd (am_den 108 [.ref o, .int p0] h) (fun v h1 => am_ev 115 25 ls (v.toList ++ st) h1) := am_u_cV (idx := 121) (wn := 4163) (as := [.int p0]) am_my_115 (by decide +kernel) (Or.inl (by decide +kernel)) am_my_108 (by decide +kernel) rfl ⟨Nat.le_of_ble_eq_true rfl, rfl⟩ (by decide +kernel) hw hk
theorem e115_25 {ls : List (Option Value)} {st : List Value} {h : am_H} {a : Int32} : am_ev 115 25 ls (.int a :: st) h = if ¬ a = 0 then am_ev 115 30 ls st h else am_ev 115 28 ls st h := am_u_if1 (c := .ne) (off := 5) am_my_115 (by decide +kernel) (by decide)
theorem e115_28 {ls : List (Option Value)} {st : List Value} {h : am_H} {l0 l1 l2 : Option Value} {a : Int32} : am_ev 115 28 (l0 :: l1 :: l2 :: some (.int a) :: ls) (st) h = am_ev 115 29 (l0 :: l1 :: l2 :: some (.int a) :: ls) (.int a :: st) h := am_ev_step (q := (29, l0 :: l1 :: l2 :: some (.int a) :: ls, .int a :: st, h)) _ (.iload_n 3) 1 am_my_115 (by decide +kernel) rfl
theorem e115_29 {ls : List (Option Value)} {h : am_H} {v : Int32} : am_ev 115 29 ls [.int v] h = some (some (.int v), h) := am_u_rtI am_my_115 (by decide +kernel) rfl
theorem e115_30 {ls : List (Option Value)} {st : List Value} {h : am_H} {l0 l1 l2 : Option Value} {a : Int32} : am_ev 115 30 (l0 :: l1 :: l2 :: some (.int a) :: ls) (st) h = am_ev 115 33 (l0 :: l1 :: l2 :: some (.int (a + (1))) :: ls) (st) h := am_ev_step (q := (33, l0 :: l1 :: l2 :: some (.int (a + (1))) :: ls, st, h)) _ (.iinc 3 (1)) 3 am_my_115 (by decide +kernel) rfl
theorem e115_33 {ls : List (Option Value)} {st : List Value} {h : am_H} : am_ev 115 33 (ls) (st) h = am_ev 115 2 (ls) (st) h := am_ev_step (q := (2, ls, st, h)) _ (.goto (-31)) 3 am_my_115 (by decide +kernel) rfl
theorem e115_36 {ls : List (Option Value)} {st : List Value} {h : am_H} : am_ev 115 36 (ls) (st) h = am_ev 115 37 (ls) (.int (0) :: st) h := am_ev_step (q := (37, ls, .int (0) :: st, h)) _ (.iconst (0)) 1 am_my_115 (by decide +kernel) rfl
theorem e115_37 {ls : List (Option Value)} {st : List Value} {h : am_H} {l0 l1 : Option Value} {a : Int32} : am_ev 115 37 (l0 :: l1 :: some (.int a) :: ls) (st) h = am_ev 115 38 (l0 :: l1 :: some (.int a) :: ls) (.int a :: st) h := am_ev_step (q := (38, l0 :: l1 :: some (.int a) :: ls, .int a :: st, h)) _ (.iload_n 2) 1 am_my_115 (by decide +kernel) rfl
theorem e115_38 {ls : List (Option Value)} {st : List Value} {h : am_H} {l0 : Option Value} {a : Nat} : am_ev 115 38 (l0 :: some (.ref a) :: ls) (st) h = am_ev 115 39 (l0 :: some (.ref a) :: ls) (.ref a :: st) h := am_ev_step (q := (39, l0 :: some (.ref a) :: ls, .ref a :: st, h)) _ (.aload_n 1) 1 am_my_115 (by decide +kernel) rfl
theorem e115_39 {ls : List (Option Value)} {st : List Value} {h : am_H} {o : Nat} (hk : am_kd h o = some (.inl 2)) : am_ev 115 39 ls (.ref o :: st) h = am_ev 115 42 ls (.int (h.1 o 0) :: st) h := am_u_gfI (idx := 113) (wn := 1105) am_my_115 (by decide +kernel) (by decide +kernel) (by decide +kernel) hk
theorem e115_42 {ls : List (Option Value)} {st : List Value} {h : am_H} {a b : Int32} (hw : am_w8 st ≤ 8) : am_ev 115 42 ls (.int b :: .int a :: st) h = am_ev 115 45 ls (.int (if b < a then b else a) :: st) h := am_u_m2 (idx := 124) (kind := 6) (wn := (0, 4164)) am_my_115 (by decide +kernel) (by decide +kernel) (by decide) (by decide +kernel) hw
theorem e115_45 {ls : List (Option Value)} {st : List Value} {h : am_H} {a b : Int32} (hw : am_w8 st ≤ 8) : am_ev 115 45 ls (.int b :: .int a :: st) h = am_ev 115 48 ls (.int (if a < b then b else a) :: st) h := am_u_m2 (idx := 127) (kind := 7) (wn := (0, 4165)) am_my_115 (by decide +kernel) (by decide +kernel) (by decide) (by decide +kernel) hw
theorem e115_48 {ls : List (Option Value)} {h : am_H} {v : Int32} : am_ev 115 48 ls [.int v] h = some (some (.int v), h) := am_u_rtI am_my_115 (by decide +kernel) rfl
theorem e100_0 {ls : List (Option Value)} {st : List Value} {h : am_H} : am_ev 100 0 (ls) (st) h = am_ev 100 1 (ls) (.int (0) :: st) h := am_ev_step (q := (1, ls, .int (0) :: st, h)) _ (.iconst (0)) 1 am_my_100 (by decide +kernel) rfl
theorem e100_1 {ls : List (Option Value)} {st : List Value} {h : am_H} {l0 l1 : Option Value} {z : Option Value} {a : Int32} : am_ev 100 1 (l0 :: l1 :: z :: ls) (.int a :: st) h = am_ev 100 2 (l0 :: l1 :: some (.int a) :: ls) (st) h := am_ev_step (q := (2, l0 :: l1 :: some (.int a) :: ls, st, h)) _ (.istore_n 2) 1 am_my_100 (by decide +kernel) rfl
theorem e100_2 {ls : List (Option Value)} {st : List Value} {h : am_H} : am_ev 100 2 (ls) (st) h = am_ev 100 3 (ls) (.int (0) :: st) h := am_ev_step (q := (3, ls, .int (0) :: st, h)) _ (.iconst (0)) 1 am_my_100 (by decide +kernel) rfl
theorem e100_3 {ls : List (Option Value)} {st : List Value} {h : am_H} {l0 l1 l2 : Option Value} {z : Option Value} {a : Int32} : am_ev 100 3 (l0 :: l1 :: l2 :: z :: ls) (.int a :: st) h = am_ev 100 4 (l0 :: l1 :: l2 :: some (.int a) :: ls) (st) h := am_ev_step (q := (4, l0 :: l1 :: l2 :: some (.int a) :: ls, st, h)) _ (.istore_n 3) 1 am_my_100 (by decide +kernel) rfl
theorem e100_4 {ls : List (Option Value)} {st : List Value} {h : am_H} {l0 l1 l2 : Option Value} {a : Int32} : am_ev 100 4 (l0 :: l1 :: l2 :: some (.int a) :: ls) (st) h = am_ev 100 5 (l0 :: l1 :: l2 :: some (.int a) :: ls) (.int a :: st) h := am_ev_step (q := (5, l0 :: l1 :: l2 :: some (.int a) :: ls, .int a :: st, h)) _ (.iload_n 3) 1 am_my_100 (by decide +kernel) rfl
theorem e100_5 {ls : List (Option Value)} {st : List Value} {h : am_H} {a : Nat} : am_ev 100 5 (some (.ref a) :: ls) (st) h = am_ev 100 6 (some (.ref a) :: ls) (.ref a :: st) h := am_ev_step (q := (6, some (.ref a) :: ls, .ref a :: st, h)) _ (.aload_n 0) 1 am_my_100 (by decide +kernel) rfl
theorem e100_6 {ls : List (Option Value)} {st : List Value} {h : am_H} {o : Nat} (hk : am_kd h o = some (.inl 4)) : am_ev 100 6 ls (.ref o :: st) h = am_ev 100 9 ls (va_rf (h.2.2.1 o 0) :: st) h := am_u_gfR (idx := 12) (wn := 2047) (a := 0) am_my_100 (by decide +kernel) (by decide +kernel) (by decide +kernel) hk
theorem e100_9 {ls : List (Option Value)} {st : List Value} {h : am_H} {o : Nat} (hk : am_kd h o = some (.inl 3)) : am_ev 100 9 ls (.ref o :: st) h = am_ev 100 12 ls (.int (h.1 o 5) :: st) h := am_u_gfI (idx := 93) (wn := 1066) am_my_100 (by decide +kernel) (by decide +kernel) (by decide +kernel) hk
theorem e100_12 {ls : List (Option Value)} {st : List Value} {h : am_H} {a b : Int32} : am_ev 100 12 ls (.int b :: .int a :: st) h = if b ≤ a then am_ev 100 34 ls st h else am_ev 100 15 ls st h := am_u_if2 (c := .ge) (off := 22) am_my_100 (by decide +kernel) (by decide)
theorem e100_15 {ls : List (Option Value)} {st : List Value} {h : am_H} {l0 l1 : Option Value} {a : Int32} : am_ev 100 15 (l0 :: l1 :: some (.int a) :: ls) (st) h = am_ev 100 16 (l0 :: l1 :: some (.int a) :: ls) (.int a :: st) h := am_ev_step (q := (16, l0 :: l1 :: some (.int a) :: ls, .int a :: st, h)) _ (.iload_n 2) 1 am_my_100 (by decide +kernel) rfl
theorem e100_16 {ls : List (Option Value)} {st : List Value} {h : am_H} {a : Nat} : am_ev 100 16 (some (.ref a) :: ls) (st) h = am_ev 100 17 (some (.ref a) :: ls) (.ref a :: st) h := am_ev_step (q := (17, some (.ref a) :: ls, .ref a :: st, h)) _ (.aload_n 0) 1 am_my_100 (by decide +kernel) rfl
theorem e100_17 {ls : List (Option Value)} {st : List Value} {h : am_H} {o : Nat} (hk : am_kd h o = some (.inl 4)) : am_ev 100 17 ls (.ref o :: st) h = am_ev 100 20 ls (va_rf (h.2.2.1 o 3) :: st) h := am_u_gfR (idx := 18) (wn := 2054) (a := 0) am_my_100 (by decide +kernel) (by decide +kernel) (by decide +kernel) hk
theorem e100_20 {ls : List (Option Value)} {st : List Value} {h : am_H} {l0 l1 l2 : Option Value} {a : Int32} : am_ev 100 20 (l0 :: l1 :: l2 :: some (.int a) :: ls) (st) h = am_ev 100 21 (l0 :: l1 :: l2 :: some (.int a) :: ls) (.int a :: st) h := am_ev_step (q := (21, l0 :: l1 :: l2 :: some (.int a) :: ls, .int a :: st, h)) _ (.iload_n 3) 1 am_my_100 (by decide +kernel) rfl
theorem e100_21 {ls : List (Option Value)} {st : List Value} {h : am_H} {i : Int32} {a : Nat} (ht : am_tc h a = some 0) : am_ev 100 21 ls (.int i :: .ref a :: st) h = if am_ix i (am_len h a) = true then am_ev 100 22 ls (.int (h.1 a i.toNatClampNeg) :: st) h else none := am_u_rI am_my_100 (by decide +kernel) ht
theorem e100_22 {ls : List (Option Value)} {st : List Value} {h : am_H} {l0 : Option Value} {a : Int32} : am_ev 100 22 (l0 :: some (.int a) :: ls) (st) h = am_ev 100 23 (l0 :: some (.int a) :: ls) (.int a :: st) h := am_ev_step (q := (23, l0 :: some (.int a) :: ls, .int a :: st, h)) _ (.iload_n 1) 1 am_my_100 (by decide +kernel) rfl
theorem e100_23 {ls : List (Option Value)} {st : List Value} {h : am_H} {p0 : Int32} {p1 : Int32} (hw : am_w8 st ≤ 8) : am_ev 100 23 ls (.int p1 :: .int p0 :: st) h = am_bd (am_den 77 [.int p0, .int p1] h) (fun v h1 => am_ev 100 26 ls (v.toList ++ st) h1) := am_u_cS (idx := 68) (wn := 3230) (as := [.int p0, .int p1]) am_my_100 (by decide +kernel) (by decide +kernel) am_my_77 (by decide +kernel) rfl ⟨Nat.le_of_ble_eq_true rfl, rfl⟩ hw
theorem e100_26 {ls : List (Option Value)} {st : List Value} {h : am_H} {a b : Int32} : am_ev 100 26 (ls) (.int b :: .int a :: st) h = am_ev 100 27 (ls) (.int (a + b) :: st) h := am_ev_step (q := (27, ls, .int (a + b) :: st, h)) _ (.iadd) 1 am_my_100 (by decide +kernel) rfl
theorem e100_27 {ls : List (Option Value)} {st : List Value} {h : am_H} {l0 l1 : Option Value} {z : Option Value} {a : Int32} : am_ev 100 27 (l0 :: l1 :: z :: ls) (.int a :: st) h = am_ev 100 28 (l0 :: l1 :: some (.int a) :: ls) (st) h := am_ev_step (q := (28, l0 :: l1 :: some (.int a) :: ls, st, h)) _ (.istore_n 2) 1 am_my_100 (by decide +kernel) rfl
theorem e100_28 {ls : List (Option Value)} {st : List Value} {h : am_H} {l0 l1 l2 : Option Value} {a : Int32} : am_ev 100 28 (l0 :: l1 :: l2 :: some (.int a) :: ls) (st) h = am_ev 100 31 (l0 :: l1 :: l2 :: some (.int (a + (1))) :: ls) (st) h := am_ev_step (q := (31, l0 :: l1 :: l2 :: some (.int (a + (1))) :: ls, st, h)) _ (.iinc 3 (1)) 3 am_my_100 (by decide +kernel) rfl
theorem e100_31 {ls : List (Option Value)} {st : List Value} {h : am_H} : am_ev 100 31 (ls) (st) h = am_ev 100 4 (ls) (st) h := am_ev_step (q := (4, ls, st, h)) _ (.goto (-27)) 3 am_my_100 (by decide +kernel) rfl
theorem e100_34 {ls : List (Option Value)} {st : List Value} {h : am_H} {l0 l1 : Option Value} {a : Int32} : am_ev 100 34 (l0 :: l1 :: some (.int a) :: ls) (st) h = am_ev 100 35 (l0 :: l1 :: some (.int a) :: ls) (.int a :: st) h := am_ev_step (q := (35, l0 :: l1 :: some (.int a) :: ls, .int a :: st, h)) _ (.iload_n 2) 1 am_my_100 (by decide +kernel) rfl
theorem e100_35 {ls : List (Option Value)} {h : am_H} {v : Int32} : am_ev 100 35 ls [.int v] h = some (some (.int v), h) := am_u_rtI am_my_100 (by decide +kernel) rfl
theorem e122_0 {ls : List (Option Value)} {st : List Value} {h : am_H} : am_ev 122 0 (ls) (st) h = am_ev 122 1 (ls) (.int (0) :: st) h := am_ev_step (q := (1, ls, .int (0) :: st, h)) _ (.iconst (0)) 1 am_my_122 (by decide +kernel) rfl
theorem e122_1 {ls : List (Option Value)} {st : List Value} {h : am_H} {l0 : Option Value} {z : Option Value} {a : Int32} : am_ev 122 1 (l0 :: z :: ls) (.int a :: st) h = am_ev 122 2 (l0 :: some (.int a) :: ls) (st) h := am_ev_step (q := (2, l0 :: some (.int a) :: ls, st, h)) _ (.istore_n 1) 1 am_my_122 (by decide +kernel) rfl
theorem e122_2 {ls : List (Option Value)} {st : List Value} {h : am_H} : am_ev 122 2 (ls) (st) h = am_ev 122 3 (ls) (.int (1) :: st) h := am_ev_step (q := (3, ls, .int (1) :: st, h)) _ (.iconst (1)) 1 am_my_122 (by decide +kernel) rfl
theorem e122_3 {ls : List (Option Value)} {st : List Value} {h : am_H} {l0 l1 : Option Value} {z : Option Value} {a : Int32} : am_ev 122 3 (l0 :: l1 :: z :: ls) (.int a :: st) h = am_ev 122 4 (l0 :: l1 :: some (.int a) :: ls) (st) h := am_ev_step (q := (4, l0 :: l1 :: some (.int a) :: ls, st, h)) _ (.istore_n 2) 1 am_my_122 (by decide +kernel) rfl
theorem e122_4 {ls : List (Option Value)} {st : List Value} {h : am_H} {l0 l1 : Option Value} {a : Int32} : am_ev 122 4 (l0 :: l1 :: some (.int a) :: ls) (st) h = am_ev 122 5 (l0 :: l1 :: some (.int a) :: ls) (.int a :: st) h := am_ev_step (q := (5, l0 :: l1 :: some (.int a) :: ls, .int a :: st, h)) _ (.iload_n 2) 1 am_my_122 (by decide +kernel) rfl
theorem e122_5 {ls : List (Option Value)} {st : List Value} {h : am_H} {a : Nat} : am_ev 122 5 (some (.ref a) :: ls) (st) h = am_ev 122 6 (some (.ref a) :: ls) (.ref a :: st) h := am_ev_step (q := (6, some (.ref a) :: ls, .ref a :: st, h)) _ (.aload_n 0) 1 am_my_122 (by decide +kernel) rfl
theorem e122_6 {ls : List (Option Value)} {st : List Value} {h : am_H} {o : Nat} (hk : am_kd h o = some (.inl 4)) : am_ev 122 6 ls (.ref o :: st) h = am_ev 122 9 ls (va_rf (h.2.2.1 o 0) :: st) h := am_u_gfR (idx := 12) (wn := 2047) (a := 0) am_my_122 (by decide +kernel) (by decide +kernel) (by decide +kernel) hk
theorem e122_9 {ls : List (Option Value)} {st : List Value} {h : am_H} {o : Nat} (hk : am_kd h o = some (.inl 3)) : am_ev 122 9 ls (.ref o :: st) h = am_ev 122 12 ls (.int (h.1 o 5) :: st) h := am_u_gfI (idx := 93) (wn := 1066) am_my_122 (by decide +kernel) (by decide +kernel) (by decide +kernel) hk
theorem e122_12 {ls : List (Option Value)} {st : List Value} {h : am_H} {a b : Int32} : am_ev 122 12 ls (.int b :: .int a :: st) h = if b ≤ a then am_ev 122 54 ls st h else am_ev 122 15 ls st h := am_u_if2 (c := .ge) (off := 42) am_my_122 (by decide +kernel) (by decide)
theorem e122_15 {ls : List (Option Value)} {st : List Value} {h : am_H} : am_ev 122 15 (ls) (st) h = am_ev 122 16 (ls) (.int (0) :: st) h := am_ev_step (q := (16, ls, .int (0) :: st, h)) _ (.iconst (0)) 1 am_my_122 (by decide +kernel) rfl
theorem e122_16 {ls : List (Option Value)} {st : List Value} {h : am_H} {l0 l1 l2 : Option Value} {z : Option Value} {a : Int32} : am_ev 122 16 (l0 :: l1 :: l2 :: z :: ls) (.int a :: st) h = am_ev 122 17 (l0 :: l1 :: l2 :: some (.int a) :: ls) (st) h := am_ev_step (q := (17, l0 :: l1 :: l2 :: some (.int a) :: ls, st, h)) _ (.istore_n 3) 1 am_my_122 (by decide +kernel) rfl
theorem e122_17 {ls : List (Option Value)} {st : List Value} {h : am_H} {l0 l1 l2 : Option Value} {a : Int32} : am_ev 122 17 (l0 :: l1 :: l2 :: some (.int a) :: ls) (st) h = am_ev 122 18 (l0 :: l1 :: l2 :: some (.int a) :: ls) (.int a :: st) h := am_ev_step (q := (18, l0 :: l1 :: l2 :: some (.int a) :: ls, .int a :: st, h)) _ (.iload_n 3) 1 am_my_122 (by decide +kernel) rfl
theorem e122_18 {ls : List (Option Value)} {st : List Value} {h : am_H} {l0 l1 : Option Value} {a : Int32} : am_ev 122 18 (l0 :: l1 :: some (.int a) :: ls) (st) h = am_ev 122 19 (l0 :: l1 :: some (.int a) :: ls) (.int a :: st) h := am_ev_step (q := (19, l0 :: l1 :: some (.int a) :: ls, .int a :: st, h)) _ (.iload_n 2) 1 am_my_122 (by decide +kernel) rfl
theorem e122_19 {ls : List (Option Value)} {st : List Value} {h : am_H} {a b : Int32} : am_ev 122 19 ls (.int b :: .int a :: st) h = if b ≤ a then am_ev 122 48 ls st h else am_ev 122 22 ls st h := am_u_if2 (c := .ge) (off := 29) am_my_122 (by decide +kernel) (by decide)
theorem e122_22 {ls : List (Option Value)} {st : List Value} {h : am_H} {l0 : Option Value} {a : Int32} : am_ev 122 22 (l0 :: some (.int a) :: ls) (st) h = am_ev 122 23 (l0 :: some (.int a) :: ls) (.int a :: st) h := am_ev_step (q := (23, l0 :: some (.int a) :: ls, .int a :: st, h)) _ (.iload_n 1) 1 am_my_122 (by decide +kernel) rfl
theorem e122_23 {ls : List (Option Value)} {st : List Value} {h : am_H} {a : Nat} : am_ev 122 23 (some (.ref a) :: ls) (st) h = am_ev 122 24 (some (.ref a) :: ls) (.ref a :: st) h := am_ev_step (q := (24, some (.ref a) :: ls, .ref a :: st, h)) _ (.aload_n 0) 1 am_my_122 (by decide +kernel) rfl
theorem e122_24 {ls : List (Option Value)} {st : List Value} {h : am_H} {o : Nat} (hk : am_kd h o = some (.inl 4)) : am_ev 122 24 ls (.ref o :: st) h = am_ev 122 27 ls (va_rf (h.2.2.1 o 3) :: st) h := am_u_gfR (idx := 18) (wn := 2054) (a := 0) am_my_122 (by decide +kernel) (by decide +kernel) (by decide +kernel) hk
theorem e122_27 {ls : List (Option Value)} {st : List Value} {h : am_H} {l0 l1 : Option Value} {a : Int32} : am_ev 122 27 (l0 :: l1 :: some (.int a) :: ls) (st) h = am_ev 122 28 (l0 :: l1 :: some (.int a) :: ls) (.int a :: st) h := am_ev_step (q := (28, l0 :: l1 :: some (.int a) :: ls, .int a :: st, h)) _ (.iload_n 2) 1 am_my_122 (by decide +kernel) rfl
theorem e122_28 {ls : List (Option Value)} {st : List Value} {h : am_H} {i : Int32} {a : Nat} (ht : am_tc h a = some 0) : am_ev 122 28 ls (.int i :: .ref a :: st) h = if am_ix i (am_len h a) = true then am_ev 122 29 ls (.int (h.1 a i.toNatClampNeg) :: st) h else none := am_u_rI am_my_122 (by decide +kernel) ht
theorem e122_29 {ls : List (Option Value)} {st : List Value} {h : am_H} {a : Nat} : am_ev 122 29 (some (.ref a) :: ls) (st) h = am_ev 122 30 (some (.ref a) :: ls) (.ref a :: st) h := am_ev_step (q := (30, some (.ref a) :: ls, .ref a :: st, h)) _ (.aload_n 0) 1 am_my_122 (by decide +kernel) rfl
theorem e122_30 {ls : List (Option Value)} {st : List Value} {h : am_H} {o : Nat} (hk : am_kd h o = some (.inl 4)) : am_ev 122 30 ls (.ref o :: st) h = am_ev 122 33 ls (va_rf (h.2.2.1 o 3) :: st) h := am_u_gfR (idx := 18) (wn := 2054) (a := 0) am_my_122 (by decide +kernel) (by decide +kernel) (by decide +kernel) hk
theorem e122_33 {ls : List (Option Value)} {st : List Value} {h : am_H} {l0 l1 l2 : Option Value} {a : Int32} : am_ev 122 33 (l0 :: l1 :: l2 :: some (.int a) :: ls) (st) h = am_ev 122 34 (l0 :: l1 :: l2 :: some (.int a) :: ls) (.int a :: st) h := am_ev_step (q := (34, l0 :: l1 :: l2 :: some (.int a) :: ls, .int a :: st, h)) _ (.iload_n 3) 1 am_my_122 (by decide +kernel) rfl
theorem e122_34 {ls : List (Option Value)} {st : List Value} {h : am_H} {i : Int32} {a : Nat} (ht : am_tc h a = some 0) : am_ev 122 34 ls (.int i :: .ref a :: st) h = if am_ix i (am_len h a) = true then am_ev 122 35 ls (.int (h.1 a i.toNatClampNeg) :: st) h else none := am_u_rI am_my_122 (by decide +kernel) ht
theorem e122_35 {ls : List (Option Value)} {st : List Value} {h : am_H} {p0 : Int32} {p1 : Int32} (hw : am_w8 st ≤ 8) : am_ev 122 35 ls (.int p1 :: .int p0 :: st) h = am_bd (am_den 77 [.int p0, .int p1] h) (fun v h1 => am_ev 122 38 ls (v.toList ++ st) h1) := am_u_cS (idx := 68) (wn := 3230) (as := [.int p0, .int p1]) am_my_122 (by decide +kernel) (by decide +kernel) am_my_77 (by decide +kernel) rfl ⟨Nat.le_of_ble_eq_true rfl, rfl⟩ hw
theorem e122_38 {ls : List (Option Value)} {st : List Value} {h : am_H} {a b : Int32} (hw : am_w8 st ≤ 8) : am_ev 122 38 ls (.int b :: .int a :: st) h = am_ev 122 41 ls (.int (if a < b then b else a) :: st) h := am_u_m2 (idx := 127) (kind := 7) (wn := (0, 4165)) am_my_122 (by decide +kernel) (by decide +kernel) (by decide) (by decide +kernel) hw
theorem e122_41 {ls : List (Option Value)} {st : List Value} {h : am_H} {l0 : Option Value} {z : Option Value} {a : Int32} : am_ev 122 41 (l0 :: z :: ls) (.int a :: st) h = am_ev 122 42 (l0 :: some (.int a) :: ls) (st) h := am_ev_step (q := (42, l0 :: some (.int a) :: ls, st, h)) _ (.istore_n 1) 1 am_my_122 (by decide +kernel) rfl
theorem e122_42 {ls : List (Option Value)} {st : List Value} {h : am_H} {l0 l1 l2 : Option Value} {a : Int32} : am_ev 122 42 (l0 :: l1 :: l2 :: some (.int a) :: ls) (st) h = am_ev 122 45 (l0 :: l1 :: l2 :: some (.int (a + (1))) :: ls) (st) h := am_ev_step (q := (45, l0 :: l1 :: l2 :: some (.int (a + (1))) :: ls, st, h)) _ (.iinc 3 (1)) 3 am_my_122 (by decide +kernel) rfl
theorem e122_45 {ls : List (Option Value)} {st : List Value} {h : am_H} : am_ev 122 45 (ls) (st) h = am_ev 122 17 (ls) (st) h := am_ev_step (q := (17, ls, st, h)) _ (.goto (-28)) 3 am_my_122 (by decide +kernel) rfl
theorem e122_48 {ls : List (Option Value)} {st : List Value} {h : am_H} {l0 l1 : Option Value} {a : Int32} : am_ev 122 48 (l0 :: l1 :: some (.int a) :: ls) (st) h = am_ev 122 51 (l0 :: l1 :: some (.int (a + (1))) :: ls) (st) h := am_ev_step (q := (51, l0 :: l1 :: some (.int (a + (1))) :: ls, st, h)) _ (.iinc 2 (1)) 3 am_my_122 (by decide +kernel) rfl
theorem e122_51 {ls : List (Option Value)} {st : List Value} {h : am_H} : am_ev 122 51 (ls) (st) h = am_ev 122 4 (ls) (st) h := am_ev_step (q := (4, ls, st, h)) _ (.goto (-47)) 3 am_my_122 (by decide +kernel) rfl
theorem e122_54 {ls : List (Option Value)} {st : List Value} {h : am_H} {l0 : Option Value} {a : Int32} : am_ev 122 54 (l0 :: some (.int a) :: ls) (st) h = am_ev 122 55 (l0 :: some (.int a) :: ls) (.int a :: st) h := am_ev_step (q := (55, l0 :: some (.int a) :: ls, .int a :: st, h)) _ (.iload_n 1) 1 am_my_122 (by decide +kernel) rfl
theorem e122_55 {ls : List (Option Value)} {h : am_H} {v : Int32} : am_ev 122 55 ls [.int v] h = some (some (.int v), h) := am_u_rtI am_my_122 (by decide +kernel) rfl
theorem e117_0 {ls : List (Option Value)} {st : List Value} {h : am_H} {l0 : Option Value} {a : Int32} : am_ev 117 0 (l0 :: some (.int a) :: ls) (st) h = am_ev 117 1 (l0 :: some (.int a) :: ls) (.int a :: st) h := am_ev_step (q := (1, l0 :: some (.int a) :: ls, .int a :: st, h)) _ (.iload_n 1) 1 am_my_117 (by decide +kernel) rfl
theorem e117_1 {ls : List (Option Value)} {st : List Value} {h : am_H} {a : Int32} : am_ev 117 1 ls (.int a :: st) h = if a = 0 then am_ev 117 40 ls st h else if a = 1 then am_ev 117 45 ls st h else if a = 2 then am_ev 117 57 ls st h else if a = 3 then am_ev 117 70 ls st h else if a = 4 then am_ev 117 83 ls st h else if a = 5 then am_ev 117 88 ls st h else am_ev 117 93 ls st h := by
  by_cases c0 : a = 0
  · subst c0
    exact am_ev_step (q := (40, ls, st, h)) _ (.tableswitch (92) (0) (5) #[39, 44, 56, 69, 82, 87]) 39 am_my_117 (by decide +kernel) rfl
  rw [if_neg c0]
  by_cases c1 : a = 1
  · subst c1
    exact am_ev_step (q := (45, ls, st, h)) _ (.tableswitch (92) (0) (5) #[39, 44, 56, 69, 82, 87]) 39 am_my_117 (by decide +kernel) rfl
  rw [if_neg c1]
  by_cases c2 : a = 2
  · subst c2
    exact am_ev_step (q := (57, ls, st, h)) _ (.tableswitch (92) (0) (5) #[39, 44, 56, 69, 82, 87]) 39 am_my_117 (by decide +kernel) rfl
  rw [if_neg c2]
  by_cases c3 : a = 3
  · subst c3
    exact am_ev_step (q := (70, ls, st, h)) _ (.tableswitch (92) (0) (5) #[39, 44, 56, 69, 82, 87]) 39 am_my_117 (by decide +kernel) rfl
  rw [if_neg c3]
  by_cases c4 : a = 4
  · subst c4
    exact am_ev_step (q := (83, ls, st, h)) _ (.tableswitch (92) (0) (5) #[39, 44, 56, 69, 82, 87]) 39 am_my_117 (by decide +kernel) rfl
  rw [if_neg c4]
  by_cases c5 : a = 5
  · subst c5
    exact am_ev_step (q := (88, ls, st, h)) _ (.tableswitch (92) (0) (5) #[39, 44, 56, 69, 82, 87]) 39 am_my_117 (by decide +kernel) rfl
  rw [if_neg c5]
  have t0 : a.toInt ≠ 0 := fun q => c0 (Int32.toInt_inj.mp q)
  have t1 : a.toInt ≠ 1 := fun q => c1 (Int32.toInt_inj.mp q)
  have t2 : a.toInt ≠ 2 := fun q => c2 (Int32.toInt_inj.mp q)
  have t3 : a.toInt ≠ 3 := fun q => c3 (Int32.toInt_inj.mp q)
  have t4 : a.toInt ≠ 4 := fun q => c4 (Int32.toInt_inj.mp q)
  have t5 : a.toInt ≠ 5 := fun q => c5 (Int32.toInt_inj.mp q)
  refine am_ev_step (q := (93, ls, st, h)) _ (.tableswitch (92) (0) (5) #[39, 44, 56, 69, 82, 87]) 39 am_my_117 (by decide +kernel) ?_
  show am_sw (92) (0) (5) #[39, 44, 56, 69, 82, 87] 1 ls (.int a :: st) h = _
  unfold am_sw
  dsimp only
  rw [if_pos (by omega)]
  rfl
theorem e117_40 {ls : List (Option Value)} {st : List Value} {h : am_H} {a : Nat} : am_ev 117 40 (some (.ref a) :: ls) (st) h = am_ev 117 41 (some (.ref a) :: ls) (.ref a :: st) h := am_ev_step (q := (41, some (.ref a) :: ls, .ref a :: st, h)) _ (.aload_n 0) 1 am_my_117 (by decide +kernel) rfl
theorem e117_41 {ls : List (Option Value)} {st : List Value} {h : am_H} {o : Nat} (hk : am_kd h o = some (.inl 4)) : am_ev 117 41 ls (.ref o :: st) h = am_ev 117 44 ls (.int (h.1 o 6) :: st) h := am_u_gfI (idx := 40) (wn := 2059) am_my_117 (by decide +kernel) (by decide +kernel) (by decide +kernel) hk
theorem e117_44 {ls : List (Option Value)} {h : am_H} {v : Int32} : am_ev 117 44 ls [.int v] h = some (some (.int v), h) := am_u_rtI am_my_117 (by decide +kernel) rfl
theorem e117_45 {ls : List (Option Value)} {st : List Value} {h : am_H} {a : Nat} : am_ev 117 45 (some (.ref a) :: ls) (st) h = am_ev 117 46 (some (.ref a) :: ls) (.ref a :: st) h := am_ev_step (q := (46, some (.ref a) :: ls, .ref a :: st, h)) _ (.aload_n 0) 1 am_my_117 (by decide +kernel) rfl
theorem e117_46 {ls : List (Option Value)} {st : List Value} {h : am_H} {o : Nat} (hk : am_kd h o = some (.inl 4)) : am_ev 117 46 ls (.ref o :: st) h = am_ev 117 49 ls (va_rf (h.2.2.1 o 0) :: st) h := am_u_gfR (idx := 12) (wn := 2047) (a := 0) am_my_117 (by decide +kernel) (by decide +kernel) (by decide +kernel) hk
theorem e117_49 {ls : List (Option Value)} {st : List Value} {h : am_H} {a : Nat} : am_ev 117 49 (some (.ref a) :: ls) (st) h = am_ev 117 50 (some (.ref a) :: ls) (.ref a :: st) h := am_ev_step (q := (50, some (.ref a) :: ls, .ref a :: st, h)) _ (.aload_n 0) 1 am_my_117 (by decide +kernel) rfl
theorem e117_50 {ls : List (Option Value)} {st : List Value} {h : am_H} {o : Nat} (hk : am_kd h o = some (.inl 4)) : am_ev 117 50 ls (.ref o :: st) h = am_ev 117 53 ls (.int (h.1 o 1) :: st) h := am_u_gfI (idx := 29) (wn := 2048) am_my_117 (by decide +kernel) (by decide +kernel) (by decide +kernel) hk
theorem e117_53 {ls : List (Option Value)} {st : List Value} {h : am_H} {p0 : Int32} {o : Nat} (hw : am_w8 st ≤ 8) (hk : am_kd h o = some (.inl 3)) : am_ev 117 53 ls (.int p0 :: .ref o :: st) h = am_bd (am_den 67 [.ref o, .int p0] h) (fun v h1 => am_ev 117 56 ls (v.toList ++ st) h1) := am_u_cV (idx := 130) (wn := 4174) (as := [.int p0]) am_my_117 (by decide +kernel) (Or.inl (by decide +kernel)) am_my_67 (by decide +kernel) rfl ⟨Nat.le_of_ble_eq_true rfl, rfl⟩ (by decide +kernel) hw hk
theorem e117_56 {ls : List (Option Value)} {h : am_H} {v : Int32} : am_ev 117 56 ls [.int v] h = some (some (.int v), h) := am_u_rtI am_my_117 (by decide +kernel) rfl
theorem e117_57 {ls : List (Option Value)} {st : List Value} {h : am_H} {a : Nat} : am_ev 117 57 (some (.ref a) :: ls) (st) h = am_ev 117 58 (some (.ref a) :: ls) (.ref a :: st) h := am_ev_step (q := (58, some (.ref a) :: ls, .ref a :: st, h)) _ (.aload_n 0) 1 am_my_117 (by decide +kernel) rfl
theorem e117_58 {ls : List (Option Value)} {st : List Value} {h : am_H} {o : Nat} (hk : am_kd h o = some (.inl 4)) : am_ev 117 58 ls (.ref o :: st) h = am_ev 117 61 ls (.int (h.1 o 4) :: st) h := am_u_gfI (idx := 33) (wn := 2057) am_my_117 (by decide +kernel) (by decide +kernel) (by decide +kernel) hk
theorem e117_61 {ls : List (Option Value)} {st : List Value} {h : am_H} {a : Int32} : am_ev 117 61 ls (.int a :: st) h = if a = 0 then am_ev 117 68 ls st h else am_ev 117 64 ls st h := am_u_if1 (c := .eq) (off := 7) am_my_117 (by decide +kernel) (by decide)
theorem e117_64 {ls : List (Option Value)} {st : List Value} {h : am_H} : am_ev 117 64 (ls) (st) h = am_ev 117 65 (ls) (.int (1) :: st) h := am_ev_step (q := (65, ls, .int (1) :: st, h)) _ (.iconst (1)) 1 am_my_117 (by decide +kernel) rfl
theorem e117_65 {ls : List (Option Value)} {st : List Value} {h : am_H} : am_ev 117 65 (ls) (st) h = am_ev 117 69 (ls) (st) h := am_ev_step (q := (69, ls, st, h)) _ (.goto (4)) 3 am_my_117 (by decide +kernel) rfl
theorem e117_68 {ls : List (Option Value)} {st : List Value} {h : am_H} : am_ev 117 68 (ls) (st) h = am_ev 117 69 (ls) (.int (0) :: st) h := am_ev_step (q := (69, ls, .int (0) :: st, h)) _ (.iconst (0)) 1 am_my_117 (by decide +kernel) rfl
theorem e117_69 {ls : List (Option Value)} {h : am_H} {v : Int32} : am_ev 117 69 ls [.int v] h = some (some (.int v), h) := am_u_rtI am_my_117 (by decide +kernel) rfl
theorem e117_70 {ls : List (Option Value)} {st : List Value} {h : am_H} {a : Nat} : am_ev 117 70 (some (.ref a) :: ls) (st) h = am_ev 117 71 (some (.ref a) :: ls) (.ref a :: st) h := am_ev_step (q := (71, some (.ref a) :: ls, .ref a :: st, h)) _ (.aload_n 0) 1 am_my_117 (by decide +kernel) rfl
theorem e117_71 {ls : List (Option Value)} {st : List Value} {h : am_H} {o : Nat} (hk : am_kd h o = some (.inl 4)) : am_ev 117 71 ls (.ref o :: st) h = am_ev 117 74 ls (.int (h.1 o 5) :: st) h := am_u_gfI (idx := 37) (wn := 2058) am_my_117 (by decide +kernel) (by decide +kernel) (by decide +kernel) hk
theorem e117_74 {ls : List (Option Value)} {st : List Value} {h : am_H} {a : Int32} : am_ev 117 74 ls (.int a :: st) h = if a = 0 then am_ev 117 81 ls st h else am_ev 117 77 ls st h := am_u_if1 (c := .eq) (off := 7) am_my_117 (by decide +kernel) (by decide)
theorem e117_77 {ls : List (Option Value)} {st : List Value} {h : am_H} : am_ev 117 77 (ls) (st) h = am_ev 117 78 (ls) (.int (1) :: st) h := am_ev_step (q := (78, ls, .int (1) :: st, h)) _ (.iconst (1)) 1 am_my_117 (by decide +kernel) rfl
theorem e117_78 {ls : List (Option Value)} {st : List Value} {h : am_H} : am_ev 117 78 (ls) (st) h = am_ev 117 82 (ls) (st) h := am_ev_step (q := (82, ls, st, h)) _ (.goto (4)) 3 am_my_117 (by decide +kernel) rfl
theorem e117_81 {ls : List (Option Value)} {st : List Value} {h : am_H} : am_ev 117 81 (ls) (st) h = am_ev 117 82 (ls) (.int (0) :: st) h := am_ev_step (q := (82, ls, .int (0) :: st, h)) _ (.iconst (0)) 1 am_my_117 (by decide +kernel) rfl
theorem e117_82 {ls : List (Option Value)} {h : am_H} {v : Int32} : am_ev 117 82 ls [.int v] h = some (some (.int v), h) := am_u_rtI am_my_117 (by decide +kernel) rfl
theorem e117_83 {ls : List (Option Value)} {st : List Value} {h : am_H} {a : Nat} : am_ev 117 83 (some (.ref a) :: ls) (st) h = am_ev 117 84 (some (.ref a) :: ls) (.ref a :: st) h := am_ev_step (q := (84, some (.ref a) :: ls, .ref a :: st, h)) _ (.aload_n 0) 1 am_my_117 (by decide +kernel) rfl
theorem e117_84 {ls : List (Option Value)} {st : List Value} {h : am_H} {o : Nat} (hk : am_kd h o = some (.inl 4)) : am_ev 117 84 ls (.ref o :: st) h = am_ev 117 87 ls (.int (h.1 o 2) :: st) h := am_u_gfI (idx := 30) (wn := 2051) am_my_117 (by decide +kernel) (by decide +kernel) (by decide +kernel) hk
theorem e117_87 {ls : List (Option Value)} {h : am_H} {v : Int32} : am_ev 117 87 ls [.int v] h = some (some (.int v), h) := am_u_rtI am_my_117 (by decide +kernel) rfl
theorem e117_88 {ls : List (Option Value)} {st : List Value} {h : am_H} {a : Nat} : am_ev 117 88 (some (.ref a) :: ls) (st) h = am_ev 117 89 (some (.ref a) :: ls) (.ref a :: st) h := am_ev_step (q := (89, some (.ref a) :: ls, .ref a :: st, h)) _ (.aload_n 0) 1 am_my_117 (by decide +kernel) rfl
theorem e117_89 {ls : List (Option Value)} {st : List Value} {h : am_H}  {o : Nat} (hw : am_w8 st ≤ 8) (hk : am_kd h o = some (.inl 4)) : am_ev 117 89 ls (.ref o :: st) h = am_bd (am_den 118 [.ref o] h) (fun v h1 => am_ev 117 92 ls (v.toList ++ st) h1) := am_u_cV (idx := 133) (wn := 4175) (as := []) am_my_117 (by decide +kernel) (Or.inl (by decide +kernel)) am_my_118 (by decide +kernel) rfl ⟨Nat.le_of_ble_eq_true rfl, rfl⟩ (by decide +kernel) hw hk
theorem e117_92 {ls : List (Option Value)} {h : am_H} {v : Int32} : am_ev 117 92 ls [.int v] h = some (some (.int v), h) := am_u_rtI am_my_117 (by decide +kernel) rfl
theorem e117_93 {ls : List (Option Value)} {st : List Value} {h : am_H} {a : Nat} : am_ev 117 93 (some (.ref a) :: ls) (st) h = am_ev 117 94 (some (.ref a) :: ls) (.ref a :: st) h := am_ev_step (q := (94, some (.ref a) :: ls, .ref a :: st, h)) _ (.aload_n 0) 1 am_my_117 (by decide +kernel) rfl
theorem e117_94 {ls : List (Option Value)} {st : List Value} {h : am_H} {l0 : Option Value} {a : Int32} : am_ev 117 94 (l0 :: some (.int a) :: ls) (st) h = am_ev 117 95 (l0 :: some (.int a) :: ls) (.int a :: st) h := am_ev_step (q := (95, l0 :: some (.int a) :: ls, .int a :: st, h)) _ (.iload_n 1) 1 am_my_117 (by decide +kernel) rfl
theorem e117_95 {ls : List (Option Value)} {st : List Value} {h : am_H} {p0 : Int32} {o : Nat} (hw : am_w8 st ≤ 8) (hk : am_kd h o = some (.inl 4)) : am_ev 117 95 ls (.int p0 :: .ref o :: st) h = am_bd (am_den 119 [.ref o, .int p0] h) (fun v h1 => am_ev 117 98 ls (v.toList ++ st) h1) := am_u_cV (idx := 136) (wn := 4179) (as := [.int p0]) am_my_117 (by decide +kernel) (Or.inl (by decide +kernel)) am_my_119 (by decide +kernel) rfl ⟨Nat.le_of_ble_eq_true rfl, rfl⟩ (by decide +kernel) hw hk
theorem e117_98 {ls : List (Option Value)} {h : am_H} {v : Int32} : am_ev 117 98 ls [.int v] h = some (some (.int v), h) := am_u_rtI am_my_117 (by decide +kernel) rfl
theorem e118_0 {ls : List (Option Value)} {st : List Value} {h : am_H} : am_ev 118 0 (ls) (st) h = am_ev 118 1 (ls) (.int (0) :: st) h := am_ev_step (q := (1, ls, .int (0) :: st, h)) _ (.iconst (0)) 1 am_my_118 (by decide +kernel) rfl
theorem e118_1 {ls : List (Option Value)} {st : List Value} {h : am_H} {l0 : Option Value} {z : Option Value} {a : Int32} : am_ev 118 1 (l0 :: z :: ls) (.int a :: st) h = am_ev 118 2 (l0 :: some (.int a) :: ls) (st) h := am_ev_step (q := (2, l0 :: some (.int a) :: ls, st, h)) _ (.istore_n 1) 1 am_my_118 (by decide +kernel) rfl
theorem e118_2 {ls : List (Option Value)} {st : List Value} {h : am_H} : am_ev 118 2 (ls) (st) h = am_ev 118 3 (ls) (.int (0) :: st) h := am_ev_step (q := (3, ls, .int (0) :: st, h)) _ (.iconst (0)) 1 am_my_118 (by decide +kernel) rfl
theorem e118_3 {ls : List (Option Value)} {st : List Value} {h : am_H} {l0 l1 : Option Value} {z : Option Value} {a : Int32} : am_ev 118 3 (l0 :: l1 :: z :: ls) (.int a :: st) h = am_ev 118 4 (l0 :: l1 :: some (.int a) :: ls) (st) h := am_ev_step (q := (4, l0 :: l1 :: some (.int a) :: ls, st, h)) _ (.istore_n 2) 1 am_my_118 (by decide +kernel) rfl
theorem e118_4 {ls : List (Option Value)} {st : List Value} {h : am_H} {l0 l1 : Option Value} {a : Int32} : am_ev 118 4 (l0 :: l1 :: some (.int a) :: ls) (st) h = am_ev 118 5 (l0 :: l1 :: some (.int a) :: ls) (.int a :: st) h := am_ev_step (q := (5, l0 :: l1 :: some (.int a) :: ls, .int a :: st, h)) _ (.iload_n 2) 1 am_my_118 (by decide +kernel) rfl
theorem e118_5 {ls : List (Option Value)} {st : List Value} {h : am_H} {a : Nat} : am_ev 118 5 (some (.ref a) :: ls) (st) h = am_ev 118 6 (some (.ref a) :: ls) (.ref a :: st) h := am_ev_step (q := (6, some (.ref a) :: ls, .ref a :: st, h)) _ (.aload_n 0) 1 am_my_118 (by decide +kernel) rfl
theorem e118_6 {ls : List (Option Value)} {st : List Value} {h : am_H} {o : Nat} (hk : am_kd h o = some (.inl 4)) : am_ev 118 6 ls (.ref o :: st) h = am_ev 118 9 ls (va_rf (h.2.2.1 o 0) :: st) h := am_u_gfR (idx := 12) (wn := 2047) (a := 0) am_my_118 (by decide +kernel) (by decide +kernel) (by decide +kernel) hk
theorem e118_9 {ls : List (Option Value)} {st : List Value} {h : am_H} {o : Nat} (hk : am_kd h o = some (.inl 3)) : am_ev 118 9 ls (.ref o :: st) h = am_ev 118 12 ls (.int (h.1 o 5) :: st) h := am_u_gfI (idx := 93) (wn := 1066) am_my_118 (by decide +kernel) (by decide +kernel) (by decide +kernel) hk
theorem e118_12 {ls : List (Option Value)} {st : List Value} {h : am_H} {a b : Int32} : am_ev 118 12 ls (.int b :: .int a :: st) h = if b ≤ a then am_ev 118 30 ls st h else am_ev 118 15 ls st h := am_u_if2 (c := .ge) (off := 18) am_my_118 (by decide +kernel) (by decide)
theorem e118_15 {ls : List (Option Value)} {st : List Value} {h : am_H} {l0 : Option Value} {a : Int32} : am_ev 118 15 (l0 :: some (.int a) :: ls) (st) h = am_ev 118 16 (l0 :: some (.int a) :: ls) (.int a :: st) h := am_ev_step (q := (16, l0 :: some (.int a) :: ls, .int a :: st, h)) _ (.iload_n 1) 1 am_my_118 (by decide +kernel) rfl
theorem e118_16 {ls : List (Option Value)} {st : List Value} {h : am_H} {a : Nat} : am_ev 118 16 (some (.ref a) :: ls) (st) h = am_ev 118 17 (some (.ref a) :: ls) (.ref a :: st) h := am_ev_step (q := (17, some (.ref a) :: ls, .ref a :: st, h)) _ (.aload_n 0) 1 am_my_118 (by decide +kernel) rfl
theorem e118_17 {ls : List (Option Value)} {st : List Value} {h : am_H} {o : Nat} (hk : am_kd h o = some (.inl 4)) : am_ev 118 17 ls (.ref o :: st) h = am_ev 118 20 ls (va_rf (h.2.2.1 o 7) :: st) h := am_u_gfR (idx := 22) (wn := 2060) (a := 0) am_my_118 (by decide +kernel) (by decide +kernel) (by decide +kernel) hk
theorem e118_20 {ls : List (Option Value)} {st : List Value} {h : am_H} {l0 l1 : Option Value} {a : Int32} : am_ev 118 20 (l0 :: l1 :: some (.int a) :: ls) (st) h = am_ev 118 21 (l0 :: l1 :: some (.int a) :: ls) (.int a :: st) h := am_ev_step (q := (21, l0 :: l1 :: some (.int a) :: ls, .int a :: st, h)) _ (.iload_n 2) 1 am_my_118 (by decide +kernel) rfl
theorem e118_21 {ls : List (Option Value)} {st : List Value} {h : am_H} {i : Int32} {a : Nat} (ht : am_tc h a = some 0) : am_ev 118 21 ls (.int i :: .ref a :: st) h = if am_ix i (am_len h a) = true then am_ev 118 22 ls (.int (h.1 a i.toNatClampNeg) :: st) h else none := am_u_rI am_my_118 (by decide +kernel) ht
theorem e118_22 {ls : List (Option Value)} {st : List Value} {h : am_H} {a b : Int32} : am_ev 118 22 (ls) (.int b :: .int a :: st) h = am_ev 118 23 (ls) (.int (a + b) :: st) h := am_ev_step (q := (23, ls, .int (a + b) :: st, h)) _ (.iadd) 1 am_my_118 (by decide +kernel) rfl
theorem e118_23 {ls : List (Option Value)} {st : List Value} {h : am_H} {l0 : Option Value} {z : Option Value} {a : Int32} : am_ev 118 23 (l0 :: z :: ls) (.int a :: st) h = am_ev 118 24 (l0 :: some (.int a) :: ls) (st) h := am_ev_step (q := (24, l0 :: some (.int a) :: ls, st, h)) _ (.istore_n 1) 1 am_my_118 (by decide +kernel) rfl
theorem e118_24 {ls : List (Option Value)} {st : List Value} {h : am_H} {l0 l1 : Option Value} {a : Int32} : am_ev 118 24 (l0 :: l1 :: some (.int a) :: ls) (st) h = am_ev 118 27 (l0 :: l1 :: some (.int (a + (1))) :: ls) (st) h := am_ev_step (q := (27, l0 :: l1 :: some (.int (a + (1))) :: ls, st, h)) _ (.iinc 2 (1)) 3 am_my_118 (by decide +kernel) rfl
theorem e118_27 {ls : List (Option Value)} {st : List Value} {h : am_H} : am_ev 118 27 (ls) (st) h = am_ev 118 4 (ls) (st) h := am_ev_step (q := (4, ls, st, h)) _ (.goto (-23)) 3 am_my_118 (by decide +kernel) rfl
theorem e118_30 {ls : List (Option Value)} {st : List Value} {h : am_H} {l0 : Option Value} {a : Int32} : am_ev 118 30 (l0 :: some (.int a) :: ls) (st) h = am_ev 118 31 (l0 :: some (.int a) :: ls) (.int a :: st) h := am_ev_step (q := (31, l0 :: some (.int a) :: ls, .int a :: st, h)) _ (.iload_n 1) 1 am_my_118 (by decide +kernel) rfl
theorem e118_31 {ls : List (Option Value)} {h : am_H} {v : Int32} : am_ev 118 31 ls [.int v] h = some (some (.int v), h) := am_u_rtI am_my_118 (by decide +kernel) rfl
theorem e119_0 {ls : List (Option Value)} {st : List Value} {h : am_H} {l0 : Option Value} {a : Int32} : am_ev 119 0 (l0 :: some (.int a) :: ls) (st) h = am_ev 119 1 (l0 :: some (.int a) :: ls) (.int a :: st) h := am_ev_step (q := (1, l0 :: some (.int a) :: ls, .int a :: st, h)) _ (.iload_n 1) 1 am_my_119 (by decide +kernel) rfl
theorem e119_1 {ls : List (Option Value)} {st : List Value} {h : am_H} : am_ev 119 1 (ls) (st) h = am_ev 119 3 (ls) (.int (10) :: st) h := am_ev_step (q := (3, ls, .int (10) :: st, h)) _ (.bipush (10)) 2 am_my_119 (by decide +kernel) rfl
theorem e119_3 {ls : List (Option Value)} {st : List Value} {h : am_H} {a b : Int32} : am_ev 119 3 ls (.int b :: .int a :: st) h = if a < b then am_ev 119 37 ls st h else am_ev 119 6 ls st h := am_u_if2 (c := .lt) (off := 34) am_my_119 (by decide +kernel) (by decide)
theorem e119_6 {ls : List (Option Value)} {st : List Value} {h : am_H} {l0 : Option Value} {a : Int32} : am_ev 119 6 (l0 :: some (.int a) :: ls) (st) h = am_ev 119 7 (l0 :: some (.int a) :: ls) (.int a :: st) h := am_ev_step (q := (7, l0 :: some (.int a) :: ls, .int a :: st, h)) _ (.iload_n 1) 1 am_my_119 (by decide +kernel) rfl
theorem e119_7 {ls : List (Option Value)} {st : List Value} {h : am_H} : am_ev 119 7 (ls) (st) h = am_ev 119 9 (ls) (.int (10) :: st) h := am_ev_step (q := (9, ls, .int (10) :: st, h)) _ (.bipush (10)) 2 am_my_119 (by decide +kernel) rfl
theorem e119_9 {ls : List (Option Value)} {st : List Value} {h : am_H} {a : Nat} : am_ev 119 9 (some (.ref a) :: ls) (st) h = am_ev 119 10 (some (.ref a) :: ls) (.ref a :: st) h := am_ev_step (q := (10, some (.ref a) :: ls, .ref a :: st, h)) _ (.aload_n 0) 1 am_my_119 (by decide +kernel) rfl
theorem e119_10 {ls : List (Option Value)} {st : List Value} {h : am_H} {o : Nat} (hk : am_kd h o = some (.inl 4)) : am_ev 119 10 ls (.ref o :: st) h = am_ev 119 13 ls (va_rf (h.2.2.1 o 0) :: st) h := am_u_gfR (idx := 12) (wn := 2047) (a := 0) am_my_119 (by decide +kernel) (by decide +kernel) (by decide +kernel) hk
theorem e119_13 {ls : List (Option Value)} {st : List Value} {h : am_H} {o : Nat} (hk : am_kd h o = some (.inl 3)) : am_ev 119 13 ls (.ref o :: st) h = am_ev 119 16 ls (.int (h.1 o 5) :: st) h := am_u_gfI (idx := 93) (wn := 1066) am_my_119 (by decide +kernel) (by decide +kernel) (by decide +kernel) hk
theorem e119_16 {ls : List (Option Value)} {st : List Value} {h : am_H} {a b : Int32} : am_ev 119 16 (ls) (.int b :: .int a :: st) h = am_ev 119 17 (ls) (.int (a + b) :: st) h := am_ev_step (q := (17, ls, .int (a + b) :: st, h)) _ (.iadd) 1 am_my_119 (by decide +kernel) rfl
theorem e119_17 {ls : List (Option Value)} {st : List Value} {h : am_H} {a b : Int32} : am_ev 119 17 ls (.int b :: .int a :: st) h = if b ≤ a then am_ev 119 37 ls st h else am_ev 119 20 ls st h := am_u_if2 (c := .ge) (off := 20) am_my_119 (by decide +kernel) (by decide)
theorem e119_20 {ls : List (Option Value)} {st : List Value} {h : am_H} {a : Nat} : am_ev 119 20 (some (.ref a) :: ls) (st) h = am_ev 119 21 (some (.ref a) :: ls) (.ref a :: st) h := am_ev_step (q := (21, some (.ref a) :: ls, .ref a :: st, h)) _ (.aload_n 0) 1 am_my_119 (by decide +kernel) rfl
theorem e119_21 {ls : List (Option Value)} {st : List Value} {h : am_H} {o : Nat} (hk : am_kd h o = some (.inl 4)) : am_ev 119 21 ls (.ref o :: st) h = am_ev 119 24 ls (va_rf (h.2.2.1 o 0) :: st) h := am_u_gfR (idx := 12) (wn := 2047) (a := 0) am_my_119 (by decide +kernel) (by decide +kernel) (by decide +kernel) hk
theorem e119_24 {ls : List (Option Value)} {st : List Value} {h : am_H} {a : Nat} : am_ev 119 24 (some (.ref a) :: ls) (st) h = am_ev 119 25 (some (.ref a) :: ls) (.ref a :: st) h := am_ev_step (q := (25, some (.ref a) :: ls, .ref a :: st, h)) _ (.aload_n 0) 1 am_my_119 (by decide +kernel) rfl
theorem e119_25 {ls : List (Option Value)} {st : List Value} {h : am_H} {o : Nat} (hk : am_kd h o = some (.inl 4)) : am_ev 119 25 ls (.ref o :: st) h = am_ev 119 28 ls (va_rf (h.2.2.1 o 3) :: st) h := am_u_gfR (idx := 18) (wn := 2054) (a := 0) am_my_119 (by decide +kernel) (by decide +kernel) (by decide +kernel) hk
theorem e119_28 {ls : List (Option Value)} {st : List Value} {h : am_H} {l0 : Option Value} {a : Int32} : am_ev 119 28 (l0 :: some (.int a) :: ls) (st) h = am_ev 119 29 (l0 :: some (.int a) :: ls) (.int a :: st) h := am_ev_step (q := (29, l0 :: some (.int a) :: ls, .int a :: st, h)) _ (.iload_n 1) 1 am_my_119 (by decide +kernel) rfl
theorem e119_29 {ls : List (Option Value)} {st : List Value} {h : am_H} : am_ev 119 29 (ls) (st) h = am_ev 119 31 (ls) (.int (10) :: st) h := am_ev_step (q := (31, ls, .int (10) :: st, h)) _ (.bipush (10)) 2 am_my_119 (by decide +kernel) rfl
theorem e119_31 {ls : List (Option Value)} {st : List Value} {h : am_H} {a b : Int32} : am_ev 119 31 (ls) (.int b :: .int a :: st) h = am_ev 119 32 (ls) (.int (a - b) :: st) h := am_ev_step (q := (32, ls, .int (a - b) :: st, h)) _ (.isub) 1 am_my_119 (by decide +kernel) rfl
theorem e119_32 {ls : List (Option Value)} {st : List Value} {h : am_H} {i : Int32} {a : Nat} (ht : am_tc h a = some 0) : am_ev 119 32 ls (.int i :: .ref a :: st) h = if am_ix i (am_len h a) = true then am_ev 119 33 ls (.int (h.1 a i.toNatClampNeg) :: st) h else none := am_u_rI am_my_119 (by decide +kernel) ht
theorem e119_33 {ls : List (Option Value)} {st : List Value} {h : am_H} {p0 : Int32} {o : Nat} (hw : am_w8 st ≤ 8) (hk : am_kd h o = some (.inl 3)) : am_ev 119 33 ls (.int p0 :: .ref o :: st) h = am_bd (am_den 67 [.ref o, .int p0] h) (fun v h1 => am_ev 119 36 ls (v.toList ++ st) h1) := am_u_cV (idx := 130) (wn := 4174) (as := [.int p0]) am_my_119 (by decide +kernel) (Or.inl (by decide +kernel)) am_my_67 (by decide +kernel) rfl ⟨Nat.le_of_ble_eq_true rfl, rfl⟩ (by decide +kernel) hw hk
theorem e119_36 {ls : List (Option Value)} {h : am_H} {v : Int32} : am_ev 119 36 ls [.int v] h = some (some (.int v), h) := am_u_rtI am_my_119 (by decide +kernel) rfl
theorem e119_37 {ls : List (Option Value)} {st : List Value} {h : am_H} {l0 : Option Value} {a : Int32} : am_ev 119 37 (l0 :: some (.int a) :: ls) (st) h = am_ev 119 38 (l0 :: some (.int a) :: ls) (.int a :: st) h := am_ev_step (q := (38, l0 :: some (.int a) :: ls, .int a :: st, h)) _ (.iload_n 1) 1 am_my_119 (by decide +kernel) rfl
theorem e119_38 {ls : List (Option Value)} {st : List Value} {h : am_H} : am_ev 119 38 (ls) (st) h = am_ev 119 40 (ls) (.int (20) :: st) h := am_ev_step (q := (40, ls, .int (20) :: st, h)) _ (.bipush (20)) 2 am_my_119 (by decide +kernel) rfl
theorem e119_40 {ls : List (Option Value)} {st : List Value} {h : am_H} {a b : Int32} : am_ev 119 40 ls (.int b :: .int a :: st) h = if a < b then am_ev 119 69 ls st h else am_ev 119 43 ls st h := am_u_if2 (c := .lt) (off := 29) am_my_119 (by decide +kernel) (by decide)
theorem e119_43 {ls : List (Option Value)} {st : List Value} {h : am_H} {l0 : Option Value} {a : Int32} : am_ev 119 43 (l0 :: some (.int a) :: ls) (st) h = am_ev 119 44 (l0 :: some (.int a) :: ls) (.int a :: st) h := am_ev_step (q := (44, l0 :: some (.int a) :: ls, .int a :: st, h)) _ (.iload_n 1) 1 am_my_119 (by decide +kernel) rfl
theorem e119_44 {ls : List (Option Value)} {st : List Value} {h : am_H} : am_ev 119 44 (ls) (st) h = am_ev 119 46 (ls) (.int (20) :: st) h := am_ev_step (q := (46, ls, .int (20) :: st, h)) _ (.bipush (20)) 2 am_my_119 (by decide +kernel) rfl
theorem e119_46 {ls : List (Option Value)} {st : List Value} {h : am_H} {a : Nat} : am_ev 119 46 (some (.ref a) :: ls) (st) h = am_ev 119 47 (some (.ref a) :: ls) (.ref a :: st) h := am_ev_step (q := (47, some (.ref a) :: ls, .ref a :: st, h)) _ (.aload_n 0) 1 am_my_119 (by decide +kernel) rfl
theorem e119_47 {ls : List (Option Value)} {st : List Value} {h : am_H} {o : Nat} (hk : am_kd h o = some (.inl 4)) : am_ev 119 47 ls (.ref o :: st) h = am_ev 119 50 ls (va_rf (h.2.2.1 o 0) :: st) h := am_u_gfR (idx := 12) (wn := 2047) (a := 0) am_my_119 (by decide +kernel) (by decide +kernel) (by decide +kernel) hk
theorem e119_50 {ls : List (Option Value)} {st : List Value} {h : am_H} {o : Nat} (hk : am_kd h o = some (.inl 3)) : am_ev 119 50 ls (.ref o :: st) h = am_ev 119 53 ls (.int (h.1 o 5) :: st) h := am_u_gfI (idx := 93) (wn := 1066) am_my_119 (by decide +kernel) (by decide +kernel) (by decide +kernel) hk
theorem e119_53 {ls : List (Option Value)} {st : List Value} {h : am_H} {a b : Int32} : am_ev 119 53 (ls) (.int b :: .int a :: st) h = am_ev 119 54 (ls) (.int (a + b) :: st) h := am_ev_step (q := (54, ls, .int (a + b) :: st, h)) _ (.iadd) 1 am_my_119 (by decide +kernel) rfl
theorem e119_54 {ls : List (Option Value)} {st : List Value} {h : am_H} {a b : Int32} : am_ev 119 54 ls (.int b :: .int a :: st) h = if b ≤ a then am_ev 119 69 ls st h else am_ev 119 57 ls st h := am_u_if2 (c := .ge) (off := 15) am_my_119 (by decide +kernel) (by decide)
theorem e119_57 {ls : List (Option Value)} {st : List Value} {h : am_H} {a : Nat} : am_ev 119 57 (some (.ref a) :: ls) (st) h = am_ev 119 58 (some (.ref a) :: ls) (.ref a :: st) h := am_ev_step (q := (58, some (.ref a) :: ls, .ref a :: st, h)) _ (.aload_n 0) 1 am_my_119 (by decide +kernel) rfl
theorem e119_58 {ls : List (Option Value)} {st : List Value} {h : am_H} {o : Nat} (hk : am_kd h o = some (.inl 4)) : am_ev 119 58 ls (.ref o :: st) h = am_ev 119 61 ls (va_rf (h.2.2.1 o 7) :: st) h := am_u_gfR (idx := 22) (wn := 2060) (a := 0) am_my_119 (by decide +kernel) (by decide +kernel) (by decide +kernel) hk
theorem e119_61 {ls : List (Option Value)} {st : List Value} {h : am_H} {l0 : Option Value} {a : Int32} : am_ev 119 61 (l0 :: some (.int a) :: ls) (st) h = am_ev 119 62 (l0 :: some (.int a) :: ls) (.int a :: st) h := am_ev_step (q := (62, l0 :: some (.int a) :: ls, .int a :: st, h)) _ (.iload_n 1) 1 am_my_119 (by decide +kernel) rfl
theorem e119_62 {ls : List (Option Value)} {st : List Value} {h : am_H} : am_ev 119 62 (ls) (st) h = am_ev 119 64 (ls) (.int (20) :: st) h := am_ev_step (q := (64, ls, .int (20) :: st, h)) _ (.bipush (20)) 2 am_my_119 (by decide +kernel) rfl
theorem e119_64 {ls : List (Option Value)} {st : List Value} {h : am_H} {a b : Int32} : am_ev 119 64 (ls) (.int b :: .int a :: st) h = am_ev 119 65 (ls) (.int (a - b) :: st) h := am_ev_step (q := (65, ls, .int (a - b) :: st, h)) _ (.isub) 1 am_my_119 (by decide +kernel) rfl
theorem e119_65 {ls : List (Option Value)} {st : List Value} {h : am_H} {i : Int32} {a : Nat} (ht : am_tc h a = some 0) : am_ev 119 65 ls (.int i :: .ref a :: st) h = if am_ix i (am_len h a) = true then am_ev 119 66 ls (.int (h.1 a i.toNatClampNeg) :: st) h else none := am_u_rI am_my_119 (by decide +kernel) ht
theorem e119_66 {ls : List (Option Value)} {st : List Value} {h : am_H} : am_ev 119 66 (ls) (st) h = am_ev 119 71 (ls) (st) h := am_ev_step (q := (71, ls, st, h)) _ (.goto (5)) 3 am_my_119 (by decide +kernel) rfl
theorem e119_69 {ls : List (Option Value)} {st : List Value} {h : am_H} : am_ev 119 69 (ls) (st) h = am_ev 119 71 (ls) (.int (-2) :: st) h := am_ev_step (q := (71, ls, .int (-2) :: st, h)) _ (.bipush (-2)) 2 am_my_119 (by decide +kernel) rfl
theorem e119_71 {ls : List (Option Value)} {h : am_H} {v : Int32} : am_ev 119 71 ls [.int v] h = some (some (.int v), h) := am_u_rtI am_my_119 (by decide +kernel) rfl
theorem e71_0 {ls : List (Option Value)} {st : List Value} {h : am_H} {a : Nat} : am_ev 71 0 (some (.ref a) :: ls) (st) h = am_ev 71 1 (some (.ref a) :: ls) (.ref a :: st) h := am_ev_step (q := (1, some (.ref a) :: ls, .ref a :: st, h)) _ (.aload_n 0) 1 am_my_71 (by decide +kernel) rfl
theorem e71_1 {ls : List (Option Value)} {st : List Value} {h : am_H} {o : Nat} (hk : am_kd h o = some (.inl 10)) : am_ev 71 1 ls (.ref o :: st) h = am_ev 71 4 ls (va_rf (h.2.2.1 o 0) :: st) h := am_u_gfR (idx := 10) (wn := 2146) (a := 0) am_my_71 (by decide +kernel) (by decide +kernel) (by decide +kernel) hk
theorem e71_4 {ls : List (Option Value)} {st : List Value} {h : am_H} : am_ev 71 4 (ls) (st) h = am_ev 71 5 (ls) (.int (0) :: st) h := am_ev_step (q := (5, ls, .int (0) :: st, h)) _ (.iconst (0)) 1 am_my_71 (by decide +kernel) rfl
theorem e71_5 {ls : List (Option Value)} {st : List Value} {h : am_H} {l0 : Option Value} {a : Int32} : am_ev 71 5 (l0 :: some (.int a) :: ls) (st) h = am_ev 71 6 (l0 :: some (.int a) :: ls) (.int a :: st) h := am_ev_step (q := (6, l0 :: some (.int a) :: ls, .int a :: st, h)) _ (.iload_n 1) 1 am_my_71 (by decide +kernel) rfl
theorem e71_6 {ls : List (Option Value)} {st : List Value} {h : am_H} {p0 : Int32} {p1 : Int32} {o : Nat} (hw : am_w8 st ≤ 8) (hk : am_kd h o = some (.inl 8)) : am_ev 71 6 ls (.int p1 :: .int p0 :: .ref o :: st) h = am_bd (am_den 17 [.ref o, .int p0, .int p1] h) (fun v h1 => am_ev 71 9 ls (v.toList ++ st) h1) := am_u_cV (idx := 108) (wn := 2200) (as := [.int p0, .int p1]) am_my_71 (by decide +kernel) (Or.inl (by decide +kernel)) am_my_17 (by decide +kernel) rfl ⟨Nat.le_of_ble_eq_true rfl, rfl⟩ (by decide +kernel) hw hk
theorem e71_9 {ls : List (Option Value)} {st : List Value} {h : am_H} {a : Int32} : am_ev 71 9 ls (.int a :: st) h = if a = 0 then am_ev 71 36 ls st h else am_ev 71 12 ls st h := am_u_if1 (c := .eq) (off := 27) am_my_71 (by decide +kernel) (by decide)
theorem e71_12 {ls : List (Option Value)} {st : List Value} {h : am_H} {l0 l1 : Option Value} {a : Int32} : am_ev 71 12 (l0 :: l1 :: some (.int a) :: ls) (st) h = am_ev 71 13 (l0 :: l1 :: some (.int a) :: ls) (.int a :: st) h := am_ev_step (q := (13, l0 :: l1 :: some (.int a) :: ls, .int a :: st, h)) _ (.iload_n 2) 1 am_my_71 (by decide +kernel) rfl
theorem e71_13 {ls : List (Option Value)} {st : List Value} {h : am_H} {a : Int32} : am_ev 71 13 ls (.int a :: st) h = if a < 0 then am_ev 71 36 ls st h else am_ev 71 16 ls st h := am_u_if1 (c := .lt) (off := 23) am_my_71 (by decide +kernel) (by decide)
theorem e71_16 {ls : List (Option Value)} {st : List Value} {h : am_H} {l0 l1 : Option Value} {a : Int32} : am_ev 71 16 (l0 :: l1 :: some (.int a) :: ls) (st) h = am_ev 71 17 (l0 :: l1 :: some (.int a) :: ls) (.int a :: st) h := am_ev_step (q := (17, l0 :: l1 :: some (.int a) :: ls, .int a :: st, h)) _ (.iload_n 2) 1 am_my_71 (by decide +kernel) rfl
theorem e71_17 {ls : List (Option Value)} {st : List Value} {h : am_H} {a : Nat} : am_ev 71 17 (some (.ref a) :: ls) (st) h = am_ev 71 18 (some (.ref a) :: ls) (.ref a :: st) h := am_ev_step (q := (18, some (.ref a) :: ls, .ref a :: st, h)) _ (.aload_n 0) 1 am_my_71 (by decide +kernel) rfl
theorem e71_18 {ls : List (Option Value)} {st : List Value} {h : am_H} {o : Nat} (hk : am_kd h o = some (.inl 10)) : am_ev 71 18 ls (.ref o :: st) h = am_ev 71 21 ls (va_rf (h.2.2.1 o 0) :: st) h := am_u_gfR (idx := 10) (wn := 2146) (a := 0) am_my_71 (by decide +kernel) (by decide +kernel) (by decide +kernel) hk
theorem e71_21 {ls : List (Option Value)} {st : List Value} {h : am_H} {o : Nat} (hk : am_kd h o = some (.inl 8)) : am_ev 71 21 ls (.ref o :: st) h = am_ev 71 24 ls (va_rf (h.2.2.1 o 5) :: st) h := am_u_gfR (idx := 116) (wn := 1191) (a := 0) am_my_71 (by decide +kernel) (by decide +kernel) (by decide +kernel) hk
theorem e71_24 {ls : List (Option Value)} {st : List Value} {h : am_H} {l0 : Option Value} {a : Int32} : am_ev 71 24 (l0 :: some (.int a) :: ls) (st) h = am_ev 71 25 (l0 :: some (.int a) :: ls) (.int a :: st) h := am_ev_step (q := (25, l0 :: some (.int a) :: ls, .int a :: st, h)) _ (.iload_n 1) 1 am_my_71 (by decide +kernel) rfl
theorem e71_25f {ls : List (Option Value)} {st : List Value} {h : am_H} {i : Int32} {a : Nat} (ht : am_tc h a = some 4) : am_ev 71 25 ls (.int i :: .ref a :: st) h = if am_ix i (am_len h a) = true then am_ev 71 26 ls (va_rf (h.2.2.1 a i.toNatClampNeg) :: st) h else none := am_u_rA am_my_71 (by decide +kernel) ht (by decide)
theorem e71_25d {ls : List (Option Value)} {st : List Value} {h : am_H} {i : Int32} {a : Nat} (ht : am_tc h a = some 5) : am_ev 71 25 ls (.int i :: .ref a :: st) h = if am_ix i (am_len h a) = true then am_ev 71 26 ls (va_rf (h.2.2.1 a i.toNatClampNeg) :: st) h else none := am_u_rA am_my_71 (by decide +kernel) ht (by decide)
theorem e71_25b {ls : List (Option Value)} {st : List Value} {h : am_H} {i : Int32} {a : Nat} (ht : am_tc h a = some 6) : am_ev 71 25 ls (.int i :: .ref a :: st) h = if am_ix i (am_len h a) = true then am_ev 71 26 ls (va_rf (h.2.2.1 a i.toNatClampNeg) :: st) h else none := am_u_rA am_my_71 (by decide +kernel) ht (by decide)
theorem e71_25l {ls : List (Option Value)} {st : List Value} {h : am_H} {i : Int32} {a : Nat} (ht : am_tc h a = some 7) : am_ev 71 25 ls (.int i :: .ref a :: st) h = if am_ix i (am_len h a) = true then am_ev 71 26 ls (va_rf (h.2.2.1 a i.toNatClampNeg) :: st) h else none := am_u_rA am_my_71 (by decide +kernel) ht (by decide)
theorem e71_25t {ls : List (Option Value)} {st : List Value} {h : am_H} {i : Int32} {a : Nat} (ht : am_tc h a = some 8) : am_ev 71 25 ls (.int i :: .ref a :: st) h = if am_ix i (am_len h a) = true then am_ev 71 26 ls (va_rf (h.2.2.1 a i.toNatClampNeg) :: st) h else none := am_u_rA am_my_71 (by decide +kernel) ht (by decide)
theorem e71_26 {ls : List (Option Value)} {st : List Value} {h : am_H} {o : Nat} (hk : am_kd h o = some (.inl 3)) : am_ev 71 26 ls (.ref o :: st) h = am_ev 71 29 ls (.int (h.1 o 5) :: st) h := am_u_gfI (idx := 124) (wn := 1067) am_my_71 (by decide +kernel) (by decide +kernel) (by decide +kernel) hk
theorem e71_29 {ls : List (Option Value)} {st : List Value} {h : am_H} {a b : Int32} : am_ev 71 29 ls (.int b :: .int a :: st) h = if b ≤ a then am_ev 71 36 ls st h else am_ev 71 32 ls st h := am_u_if2 (c := .ge) (off := 7) am_my_71 (by decide +kernel) (by decide)
theorem e71_32 {ls : List (Option Value)} {st : List Value} {h : am_H} : am_ev 71 32 (ls) (st) h = am_ev 71 33 (ls) (.int (1) :: st) h := am_ev_step (q := (33, ls, .int (1) :: st, h)) _ (.iconst (1)) 1 am_my_71 (by decide +kernel) rfl
theorem e71_33 {ls : List (Option Value)} {st : List Value} {h : am_H} : am_ev 71 33 (ls) (st) h = am_ev 71 37 (ls) (st) h := am_ev_step (q := (37, ls, st, h)) _ (.goto (4)) 3 am_my_71 (by decide +kernel) rfl
theorem e71_36 {ls : List (Option Value)} {st : List Value} {h : am_H} : am_ev 71 36 (ls) (st) h = am_ev 71 37 (ls) (.int (0) :: st) h := am_ev_step (q := (37, ls, .int (0) :: st, h)) _ (.iconst (0)) 1 am_my_71 (by decide +kernel) rfl
theorem e71_37 {ls : List (Option Value)} {h : am_H} {v : Int32} (hv : v = 0 ∨ v = 1) : am_ev 71 37 ls [.int v] h = some (some (.int v), h) := am_u_rtZ am_my_71 (by decide +kernel) rfl hv
theorem e114_0 {ls : List (Option Value)} {st : List Value} {h : am_H} {a : Nat} : am_ev 114 0 (some (.ref a) :: ls) (st) h = am_ev 114 1 (some (.ref a) :: ls) (.ref a :: st) h := am_ev_step (q := (1, some (.ref a) :: ls, .ref a :: st, h)) _ (.aload_n 0) 1 am_my_114 (by decide +kernel) rfl
theorem e114_1 {ls : List (Option Value)} {st : List Value} {h : am_H} {o : Nat} (hk : am_kd h o = some (.inl 10)) : am_ev 114 1 ls (.ref o :: st) h = am_ev 114 4 ls (va_rf (h.2.2.1 o 0) :: st) h := am_u_gfR (idx := 10) (wn := 2146) (a := 0) am_my_114 (by decide +kernel) (by decide +kernel) (by decide +kernel) hk
theorem e114_4 {ls : List (Option Value)} {st : List Value} {h : am_H} : am_ev 114 4 (ls) (st) h = am_ev 114 5 (ls) (.int (0) :: st) h := am_ev_step (q := (5, ls, .int (0) :: st, h)) _ (.iconst (0)) 1 am_my_114 (by decide +kernel) rfl
theorem e114_5 {ls : List (Option Value)} {st : List Value} {h : am_H} {l0 : Option Value} {a : Int32} : am_ev 114 5 (l0 :: some (.int a) :: ls) (st) h = am_ev 114 6 (l0 :: some (.int a) :: ls) (.int a :: st) h := am_ev_step (q := (6, l0 :: some (.int a) :: ls, .int a :: st, h)) _ (.iload_n 1) 1 am_my_114 (by decide +kernel) rfl
theorem e114_6 {ls : List (Option Value)} {st : List Value} {h : am_H} {p0 : Int32} {p1 : Int32} {o : Nat} (hw : am_w8 st ≤ 8) (hk : am_kd h o = some (.inl 8)) : am_ev 114 6 ls (.int p1 :: .int p0 :: .ref o :: st) h = am_bd (am_den 17 [.ref o, .int p0, .int p1] h) (fun v h1 => am_ev 114 9 ls (v.toList ++ st) h1) := am_u_cV (idx := 108) (wn := 2200) (as := [.int p0, .int p1]) am_my_114 (by decide +kernel) (Or.inl (by decide +kernel)) am_my_17 (by decide +kernel) rfl ⟨Nat.le_of_ble_eq_true rfl, rfl⟩ (by decide +kernel) hw hk
theorem e114_9 {ls : List (Option Value)} {st : List Value} {h : am_H} {a : Int32} : am_ev 114 9 ls (.int a :: st) h = if a = 0 then am_ev 114 28 ls st h else am_ev 114 12 ls st h := am_u_if1 (c := .eq) (off := 19) am_my_114 (by decide +kernel) (by decide)
theorem e114_12 {ls : List (Option Value)} {st : List Value} {h : am_H} {a : Nat} : am_ev 114 12 (some (.ref a) :: ls) (st) h = am_ev 114 13 (some (.ref a) :: ls) (.ref a :: st) h := am_ev_step (q := (13, some (.ref a) :: ls, .ref a :: st, h)) _ (.aload_n 0) 1 am_my_114 (by decide +kernel) rfl
theorem e114_13 {ls : List (Option Value)} {st : List Value} {h : am_H} {o : Nat} (hk : am_kd h o = some (.inl 10)) : am_ev 114 13 ls (.ref o :: st) h = am_ev 114 16 ls (va_rf (h.2.2.1 o 0) :: st) h := am_u_gfR (idx := 10) (wn := 2146) (a := 0) am_my_114 (by decide +kernel) (by decide +kernel) (by decide +kernel) hk
theorem e114_16 {ls : List (Option Value)} {st : List Value} {h : am_H} : am_ev 114 16 (ls) (st) h = am_ev 114 17 (ls) (.int (1) :: st) h := am_ev_step (q := (17, ls, .int (1) :: st, h)) _ (.iconst (1)) 1 am_my_114 (by decide +kernel) rfl
theorem e114_17 {ls : List (Option Value)} {st : List Value} {h : am_H} {l0 l1 : Option Value} {a : Int32} : am_ev 114 17 (l0 :: l1 :: some (.int a) :: ls) (st) h = am_ev 114 18 (l0 :: l1 :: some (.int a) :: ls) (.int a :: st) h := am_ev_step (q := (18, l0 :: l1 :: some (.int a) :: ls, .int a :: st, h)) _ (.iload_n 2) 1 am_my_114 (by decide +kernel) rfl
theorem e114_18 {ls : List (Option Value)} {st : List Value} {h : am_H} {p0 : Int32} {p1 : Int32} {o : Nat} (hw : am_w8 st ≤ 8) (hk : am_kd h o = some (.inl 8)) : am_ev 114 18 ls (.int p1 :: .int p0 :: .ref o :: st) h = am_bd (am_den 17 [.ref o, .int p0, .int p1] h) (fun v h1 => am_ev 114 21 ls (v.toList ++ st) h1) := am_u_cV (idx := 108) (wn := 2200) (as := [.int p0, .int p1]) am_my_114 (by decide +kernel) (Or.inl (by decide +kernel)) am_my_17 (by decide +kernel) rfl ⟨Nat.le_of_ble_eq_true rfl, rfl⟩ (by decide +kernel) hw hk
theorem e114_21 {ls : List (Option Value)} {st : List Value} {h : am_H} {a : Int32} : am_ev 114 21 ls (.int a :: st) h = if a = 0 then am_ev 114 28 ls st h else am_ev 114 24 ls st h := am_u_if1 (c := .eq) (off := 7) am_my_114 (by decide +kernel) (by decide)
theorem e114_24 {ls : List (Option Value)} {st : List Value} {h : am_H} : am_ev 114 24 (ls) (st) h = am_ev 114 25 (ls) (.int (1) :: st) h := am_ev_step (q := (25, ls, .int (1) :: st, h)) _ (.iconst (1)) 1 am_my_114 (by decide +kernel) rfl
theorem e114_25 {ls : List (Option Value)} {st : List Value} {h : am_H} : am_ev 114 25 (ls) (st) h = am_ev 114 29 (ls) (st) h := am_ev_step (q := (29, ls, st, h)) _ (.goto (4)) 3 am_my_114 (by decide +kernel) rfl
theorem e114_28 {ls : List (Option Value)} {st : List Value} {h : am_H} : am_ev 114 28 (ls) (st) h = am_ev 114 29 (ls) (.int (0) :: st) h := am_ev_step (q := (29, ls, .int (0) :: st, h)) _ (.iconst (0)) 1 am_my_114 (by decide +kernel) rfl
theorem e114_29 {ls : List (Option Value)} {h : am_H} {v : Int32} (hv : v = 0 ∨ v = 1) : am_ev 114 29 ls [.int v] h = some (some (.int v), h) := am_u_rtZ am_my_114 (by decide +kernel) rfl hv
def q_fill (a n : Nat) (v : Int32) (h : am_H) : am_H := (fun b k => if b = a ∧ k < n then v else h.1 b k, h.2)
theorem q_fill_rd (a n : Nat) (v : Int32) (h : am_H) (b k : Nat) : (q_fill a n v h).1 b k = if b = a ∧ k < n then v else h.1 b k := rfl
theorem q_fill_s (a i : Nat) (v : Int32) (h : am_H) : am_sI (q_fill a i v h) a i v = q_fill a (i + 1) v h := by
  refine q_H_ext (fun b k => ?_) rfl
  rw [am_rd_sI, q_fill_rd, q_fill_rd]
  by_cases c : b = a
  · by_cases c2 : k = i
    · rw [if_pos ⟨c, c2⟩, if_pos ⟨c, by omega⟩]
    · rw [if_neg (fun w => c2 w.2)]
      by_cases c3 : k < i
      · rw [if_pos ⟨c, c3⟩, if_pos ⟨c, by omega⟩]
      · rw [if_neg (fun w => c3 w.2), if_neg (fun w => by omega)]
  · rw [if_neg (fun w => c w.1), if_neg (fun w => c w.1), if_neg (fun w => c w.1)]
theorem q_fill_l (a n : Nat) (v : Int32) (h : am_H) (ht : am_kd h a = some (.inr (0, n))) (hn : n < 100000) : ∀ r i, i + r = n → am_ev 73 5 [some (.ref a), some (.int v), some (.int (nI i)), some (.int (nI n))] [] (q_fill a i v h) = some (none, q_fill a n v h) := by
  intro r
  induction r with
  | zero =>
    intro i hi
    obtain rfl : i = n := by omega
    have h1 : nI i ≤ nI i := Int32.le_refl _
    rw [e73_5]
    simp only [e73_0, e73_1, e73_2, e73_3, e73_4, e73_6, e73_7, e73_10, e73_11, e73_12, e73_13, e73_14, e73_17, e73_20, h1, if_true]
  | succ r ih =>
    intro i hi
    have h1 : ¬ nI n ≤ nI i := nI_ge (by omega) (by omega)
    have x : am_ix (nI i) n = true := am_ix_nI (by omega) (by omega)
    have z : (nI i).toNatClampNeg = i := nI_clamp (by omega)
    have t : am_tc (q_fill a i v h) a = some 0 := q_tc ht
    have l : am_len (q_fill a i v h) a = n := q_ln ht
    rw [e73_5]
    simp only [e73_0, e73_1, e73_2, e73_3, e73_4, e73_6, e73_7, e73_10, e73_11, e73_12, e73_13, e73_14, e73_17, e73_20, am_bd_some, Option.toList_some, Option.toList_none, List.cons_append, List.nil_append, am_w8_0, am_w8_1, am_w8_2, am_w8_3, am_w8_4, eq_self, or_true, true_or, am_kd_sI, am_kd_sL, am_kd_sR, am_tc_sI, am_tc_sL, am_tc_sR, am_len_sI, am_len_sL, am_len_sR, am_rfs, if_true, if_false, am_rdL_sI, am_rR_sL, am_rt_cq, am_kd_cq, am_tc_cq, am_len_cq, am_rd_sL, am_rd_sR, am_rdL_sR, h1, t, l, x, z, q_fill_s, nI_1]
    exact ih (i + 1) (by omega)
theorem den_fill (a n : Nat) (v : Int32) (h : am_H) (ht : am_kd h a = some (.inr (0, n))) (hn : n < 100000) : am_den 73 [.ref a, .int v] h = some (none, q_fill a n v h) := by
  have e0 : q_fill a 0 v h = h := q_H_ext (fun b k => by rw [q_fill_rd, if_neg (by omega)]) rfl
  have lp := q_fill_l a n v h ht hn n 0 (by omega)
  rw [e0, nI_0] at lp
  have t : am_tc h a = some 0 := q_tc ht
  have l : am_len h a = n := q_ln ht
  show am_ev 73 0 [some (.ref a), some (.int v), none, none] [] h = _
  simp only [e73_0, e73_1, e73_2, e73_3, e73_4, e73_6, e73_7, e73_10, e73_11, e73_12, e73_13, e73_14, e73_17, e73_20, am_bd_some, Option.toList_some, Option.toList_none, List.cons_append, List.nil_append, am_w8_0, am_w8_1, am_w8_2, am_w8_3, am_w8_4, eq_self, or_true, true_or, am_kd_sI, am_kd_sL, am_kd_sR, am_tc_sI, am_tc_sL, am_tc_sR, am_len_sI, am_len_sL, am_len_sR, am_rfs, if_true, if_false, am_rdL_sI, am_rR_sL, am_rt_cq, am_kd_cq, am_tc_cq, am_len_cq, am_rd_sL, am_rd_sR, am_rdL_sR, e73_3 t (Nat.zero_le _), l]
  exact lp
/-- what a beginning changes: the flock's own cells, and which fell it walks -/
def q_fb (q : Nat) (h h' : am_H) : Prop := h'.2.1 = h.2.1 ∧ h'.2.2.2 = h.2.2.2 ∧ (∀ a k, ¬ (a = q ∧ k = 0) → h'.2.2.1 a k = h.2.2.1 a k) ∧ ∀ a k, a ≠ q → a ≠ q + 4 → a ≠ q + 5 → h'.1 a k = h.1 a k
theorem q_fb.rf (q : Nat) (h : am_H) : q_fb q h h := ⟨rfl, rfl, fun _ _ _ => rfl, fun _ _ _ _ _ => rfl⟩
theorem q_fb.tr {q : Nat} {h h' h'' : am_H} (a : q_fb q h h') (b : q_fb q h' h'') : q_fb q h h'' := ⟨b.1.trans a.1, b.2.1.trans a.2.1, fun x k p => (b.2.2.1 x k p).trans (a.2.2.1 x k p), fun x k p1 p2 p3 => (b.2.2.2 x k p1 p2 p3).trans (a.2.2.2 x k p1 p2 p3)⟩
theorem q_ff.fb {q : Nat} {h h' : am_H} (f : q_ff q h h') : q_fb q h h' := ⟨by rw [f.1], by rw [f.1], fun a k _ => by rw [f.1], f.2⟩
def q_flk (q : Nat) : Prop := q = 178 ∨ q = 184 ∨ q = 190
theorem q_fb.ok {q : Nat} {h h' : am_H} (f : q_fb q h h') (hq : q_flk q) (ok : am_okH h) : am_okH h' := by
  refine ⟨by rw [f.2.1]; exact ok.1, fun p hp hn => ?_⟩
  rw [f.2.2.1 _ _ (fun w => hn ?_)]
  · exact ok.2 p hp hn
  · rw [w.1, w.2]
    rcases hq with rfl | rfl | rfl <;> decide
theorem q_fb.wk {q : Nat} {h h' : am_H} (f : q_fb q h h') (hq : q_flk q) (ok : am_okH h) : q_wk h h' := by
  refine ⟨f.ok hq ok, by rw [f.2.1], fun a k w => ⟨f.2.2.2 a k ?_ ?_ ?_, by rw [f.1]⟩⟩
  all_goals (unfold q_told at w; unfold q_flk at hq; omega)
theorem q_gk_of {h : am_H} (ok : am_okH h) {q : Nat} (hq : q_flk q) : q_gk h q := by
  rcases hq with rfl | rfl | rfl
  · exact ⟨okK_178 ok, okR_178_3 ok, okR_178_7 ok, okK_182 ok, okK_183 ok⟩
  · exact ⟨okK_184 ok, okR_184_3 ok, okR_184_7 ok, okK_188 ok, okK_189 ok⟩
  · exact ⟨okK_190 ok, okR_190_3 ok, okR_190_7 ok, okK_194 ok, okK_195 ok⟩
/-- a whole fell in the class's cells -/
def q_cF (h : am_H) (o : Nat) (f : q_Fl) : Prop := q_cf h o f ∧ h.1 o 3 = nI (F_dog f) ∧ ∀ b, b < F_n f → h.1 (o + 2) b = nI (F_cell f b)
theorem q_cf.cg {h h' : am_H} {o : Nat} {f : q_Fl} (c : q_cf h o f) (hfo : q_fo h' o) (hl : h'.2.1 o 6 = h.2.1 o 6) (hi : ∀ a k, o ≤ a → a ≤ o + 2 → h'.1 a k = h.1 a k) : q_cf h' o f := by
  obtain ⟨fo, c0, c1, c2, c4, c5, c6, c7⟩ := c
  refine ⟨hfo, ?_, ?_, ?_, ?_, ?_, hl.trans c6, fun b hb => ?_⟩
  · rw [hi _ _ (by omega) (by omega)]; exact c0
  · rw [hi _ _ (by omega) (by omega)]; exact c1
  · rw [hi _ _ (by omega) (by omega)]; exact c2
  · rw [hi _ _ (by omega) (by omega)]; exact c4
  · rw [hi _ _ (by omega) (by omega)]; exact c5
  · rw [hi _ _ (by omega) (by omega)]; exact c7 b hb
theorem q_cF.cg {h h' : am_H} {o : Nat} {f : q_Fl} (c : q_cF h o f) (hfo : q_fo h' o) (hl : h'.2.1 o 6 = h.2.1 o 6) (hi : ∀ a k, o ≤ a → a ≤ o + 2 → h'.1 a k = h.1 a k) : q_cF h' o f := ⟨c.1.cg hfo hl hi, by rw [hi _ _ (by omega) (by omega)]; exact c.2.1, fun b hb => by rw [hi _ _ (by omega) (by omega)]; exact c.2.2 b hb⟩
theorem q_fb.fo {q : Nat} {h h' : am_H} (f : q_fb q h h') {o : Nat} (c : q_fo h o) (dj : o + 2 < q ∨ q + 5 < o) : q_fo h' o := by
  obtain ⟨c1, c2, c3, c4, c5⟩ := c
  have kd : ∀ a, am_kd h' a = am_kd h a := fun a => by unfold am_kd; rw [f.2.1]
  exact ⟨by rw [kd]; exact c1, by rw [f.2.2.1 _ _ (by omega)]; exact c2, by rw [f.2.2.1 _ _ (by omega)]; exact c3, by rw [kd]; exact c4, by rw [kd]; exact c5⟩
theorem q_fb.cF {q : Nat} {h h' : am_H} (f : q_fb q h h') {o : Nat} {fl : q_Fl} (c : q_cF h o fl) (dj : o + 2 < q ∨ q + 5 < o) : q_cF h' o fl := c.cg (f.fo c.1.1 dj) (by rw [f.1]) (fun a k h1 h2 => f.2.2.2 a k (by omega) (by omega) (by omega))
def G_0 (f : q_Fl) : q_G := (F_dog f, 0, false, false, 0, F_cell f, fun _ => 0)
set_option maxHeartbeats 1000000 in
theorem den_begin (h : am_H) (ok : am_okH h) (q o : Nat) (hq : q_flk q) (dj : o + 2 < q ∨ q + 5 < o) (f : q_Fl) (wf : F_wf f) (c : q_cF h o f) : ∃ h' : am_H, q_fb q h h' ∧ q_cg h' q o f (G_0 f) ∧ am_den 72 [.ref q, .ref o] h = some (none, h') := by
  have n6 := wf.2.2.2.1
  have gk := q_gk_of ok hq
  have c' := c
  obtain ⟨cf, c3, cc⟩ := c'
  have fo := cf.1
  obtain ⟨k1, k2, k3, k4, k5⟩ := gk
  -- the heap behind the fields
  let g1 : am_H := am_sI (am_sI (am_sI (am_sI (am_sI (am_sR h q 0 (some o)) q 1 (nI (F_dog f))) q 2 0) q 4 0) q 5 0) q 6 0
  let g2 : am_H := am_cq g1 (o + 2) (q + 4) 6
  have ri : ∀ a k, (q_fill (q + 5) 6 0 g2).1 a k = if a = q + 5 ∧ k < 6 then 0 else if a = q + 4 ∧ k < 6 then g1.1 (o + 2) k else g1.1 a k := fun a k => rfl
  have r1 : ∀ a k, g1.1 a k = if a = q ∧ k = 6 then 0 else if a = q ∧ k = 5 then 0 else if a = q ∧ k = 4 then 0 else if a = q ∧ k = 2 then 0 else if a = q ∧ k = 1 then nI (F_dog f) else h.1 a k := fun a k => rfl
  have r1o : ∀ a k, a ≠ q → g1.1 a k = h.1 a k := fun a k ha => by
    rw [r1, if_neg (fun w => ha w.1), if_neg (fun w => ha w.1), if_neg (fun w => ha w.1), if_neg (fun w => ha w.1), if_neg (fun w => ha w.1)]
  have fb : q_fb q h (q_fill (q + 5) 6 0 g2) := by
    refine ⟨rfl, rfl, fun a k w => ?_, fun a k p1 p2 p3 => ?_⟩
    · show (am_sR h q 0 (some o)).2.2.1 a k = _
      rw [am_rR_sR, if_neg w]
    · rw [ri, if_neg (fun w => p3 w.1), if_neg (fun w => p2 w.1), r1o a k p1]
  refine ⟨q_fill (q + 5) 6 0 g2, fb, ?_, ?_⟩
  · have cF' := fb.cF c dj
    refine ⟨⟨q_gk_of (fb.ok hq ok) hq, ?_, dj⟩, cF'.1, ⟨?_, ?_, ?_, ?_, ?_⟩, fun b hb => ?_, fun b hb => ?_⟩
    · show (am_sR h q 0 (some o)).2.2.1 q 0 = _
      rw [am_rR_sR, if_pos ⟨rfl, rfl⟩]
    · rw [ri, if_neg (by omega), if_neg (by omega), r1, if_neg (by omega), if_neg (by omega), if_neg (by omega), if_neg (by omega), if_pos ⟨rfl, rfl⟩]; rfl
    · rw [ri, if_neg (by omega), if_neg (by omega), r1, if_neg (by omega), if_neg (by omega), if_neg (by omega), if_pos ⟨rfl, rfl⟩]; rfl
    · rw [ri, if_neg (by omega), if_neg (by omega), r1, if_neg (by omega), if_neg (by omega), if_pos ⟨rfl, rfl⟩]; rfl
    · rw [ri, if_neg (by omega), if_neg (by omega), r1, if_neg (by omega), if_pos ⟨rfl, rfl⟩]; rfl
    · rw [ri, if_neg (by omega), if_neg (by omega), r1, if_pos ⟨rfl, rfl⟩]; rfl
    · rw [ri, if_neg (by omega), if_pos ⟨rfl, by omega⟩, r1o _ _ (by omega)]
      exact cc b hb
    · rw [ri, if_pos ⟨rfl, by omega⟩]
      rfl
  · have t2 : am_kd g2 (q + 5) = some (.inr (0, 6)) := k5
    have dfl := den_fill (q + 5) 6 0 g2 t2 (by decide)
    have rs : (am_sR h q 0 (some o)).1 o 3 = nI (F_dog f) := c3
    have kq : ∀ a, am_kd (am_sR h q 0 (some o)) a = am_kd h a := fun _ => rfl
    have q3 : g1.2.2.1 q 3 = some (q + 4) := by
      show (am_sR h q 0 (some o)).2.2.1 q 3 = _
      rw [am_rR_sR, if_neg (by omega)]
      exact k2
    have q7 : g2.2.2.1 q 7 = some (q + 5) := by
      show (am_sR h q 0 (some o)).2.2.1 q 7 = _
      rw [am_rR_sR, if_neg (by omega)]
      exact k3
    have o8 : g1.2.2.1 o 8 = some (o + 2) := by
      show (am_sR h q 0 (some o)).2.2.1 o 8 = _
      rw [am_rR_sR, if_neg (by omega)]
      exact fo.2.2.1
    have kg : ∀ a, am_kd g1 a = am_kd h a := fun _ => rfl
    have kg2 : ∀ a, am_kd g2 a = am_kd h a := fun _ => rfl
    have tg : ∀ a, am_tc g1 a = am_tc h a := fun _ => rfl
    have lg : ∀ a, am_len g1 a = am_len h a := fun _ => rfl
    have z01 : (0 : Int32) = 0 ∨ (0 : Int32) = 1 := Or.inl rfl
    have s1 : am_ev 72 0 [some (.ref q), some (.ref o)] [] h = am_ev 72 33 [some (.ref q), some (.ref o)] [] g1 := by
      simp only [e72_0, e72_1, e72_2, e72_5, e72_6, e72_7, e72_10, e72_13, e72_14, e72_15, e72_18, e72_19, e72_20, e72_23, e72_24, e72_25, e72_28, e72_29, e72_30, e72_34, e72_37, e72_38, e72_39, e72_42, e72_43, e72_45i, e72_45b, e72_48, e72_49, e72_52, e72_53, e72_56, am_bd_some, Option.toList_some, Option.toList_none, List.cons_append, List.nil_append, am_w8_0, am_w8_1, am_w8_2, am_w8_3, am_w8_4, eq_self, or_true, true_or, am_kd_sI, am_kd_sL, am_kd_sR, am_tc_sI, am_tc_sL, am_tc_sR, am_len_sI, am_len_sL, am_len_sR, am_rfs, if_true, if_false, am_rdL_sI, am_rR_sL, am_rt_cq, am_kd_cq, am_tc_cq, am_len_cq, am_rd_sL, am_rd_sR, am_rdL_sR, k1, kq, fo.1, rs, c3, z01]
      rfl
    have s2 : am_ev 72 33 [some (.ref q), some (.ref o)] [] g1 = am_ev 72 48 [some (.ref q), some (.ref o)] [] g2 := by
      simp only [e72_0, e72_1, e72_2, e72_5, e72_6, e72_7, e72_10, e72_13, e72_14, e72_15, e72_18, e72_19, e72_20, e72_23, e72_24, e72_25, e72_28, e72_29, e72_30, e72_33, e72_34, e72_37, e72_38, e72_39, e72_42, e72_43, e72_45i, e72_45b, e72_49, e72_52, e72_53, e72_56, am_bd_some, Option.toList_some, Option.toList_none, List.cons_append, List.nil_append, am_w8_0, am_w8_1, am_w8_2, am_w8_3, am_w8_4, eq_self, or_true, true_or, am_kd_sI, am_kd_sL, am_kd_sR, am_tc_sI, am_tc_sL, am_tc_sR, am_len_sI, am_len_sL, am_len_sR, am_rfs, if_true, if_false, am_rdL_sI, am_rR_sL, am_rt_cq, am_kd_cq, am_tc_cq, am_len_cq, am_rd_sL, am_rd_sR, am_rdL_sR, kg, tg, lg, k1, fo.1, q3, o8, q_tc fo.2.2.2.2, q_ln fo.2.2.2.2, q_tc k4, q_ln k4, Nat.le_refl]
      rfl
    show am_ev 72 0 [some (.ref q), some (.ref o)] [] h = _
    rw [s1, s2]
    simp only [e72_0, e72_1, e72_2, e72_5, e72_6, e72_7, e72_10, e72_13, e72_14, e72_15, e72_18, e72_19, e72_20, e72_23, e72_24, e72_25, e72_28, e72_29, e72_30, e72_33, e72_34, e72_37, e72_38, e72_39, e72_42, e72_43, e72_45i, e72_45b, e72_48, e72_49, e72_52, e72_53, e72_56, am_bd_some, Option.toList_some, Option.toList_none, List.cons_append, List.nil_append, am_w8_0, am_w8_1, am_w8_2, am_w8_3, am_w8_4, eq_self, or_true, true_or, am_kd_sI, am_kd_sL, am_kd_sR, am_tc_sI, am_tc_sL, am_tc_sR, am_len_sI, am_len_sL, am_len_sR, am_rfs, if_true, if_false, am_rdL_sI, am_rR_sL, am_rt_cq, am_kd_cq, am_tc_cq, am_len_cq, am_rd_sL, am_rd_sR, am_rdL_sR, kg2, k1, q7, dfl]
/-- the fells that are told -/
theorem q_Rel.fl {A : q_All} {h : am_H} (H : q_Rel A h) (i : Nat) (hi : i < A.2.1 0) : F_ok (A.2.2.1 i) ∧ q_cF h (8 + 16 * i) (A.2.2.1 i) ∧ F_mod (fun a k => h.1 (212 + a) k) (34 * i) (A.2.2.1 i) := by
  obtain ⟨d1, d2, d3⟩ := H.2.2.1.2.2.2.1 i hi
  have c1 := (H.cnt 0 (by decide)).1
  have n6 : F_n (A.2.2.1 i) ≤ 6 := d1.2.2.2.2.2.1
  have e0 : ∀ o k, q_cv h (q_at 0) o k = h.1 (o + 1) k := fun o k => by
    show h.1 (1 + o) k = _
    rw [Nat.add_comm]
  have e1 : ∀ o k, q_cl h (q_at 0) o k = h.2.1 (o + 1) k := fun o k => by
    show h.2.1 (1 + o) k = _
    rw [Nat.add_comm]
  have e3 : ∀ k, q_mv h 0 5 k = h.1 217 k := fun k => by
    show h.1 217 (68 * 0 + k) = _
    rw [Nat.mul_zero, Nat.zero_add]
  have d2' : F_cls h.1 h.2.1 (8 + 16 * i) (A.2.2.1 i) := d2.cg n6 (fun k _ => by rw [e0]; exact congrArg (fun x => h.1 x k) (by omega)) (fun k _ => by rw [e0]; exact congrArg (fun x => h.1 x k) (by omega)) (fun k _ => by rw [e0]; exact congrArg (fun x => h.1 x k) (by omega)) (by rw [e1]; exact congrArg (fun x => h.2.1 x 6) (by omega))
  obtain ⟨x0, x1, x2, x3, x4, x5, x6, x7, x8⟩ := d2'
  have fo : q_fo h (8 + 16 * i) := by
    obtain ⟨-, -, -, -, -, -, -, -, -, -, -, -, -, -, -, -, -, -, -, -, -, f, -, -, -, f2, -⟩ := q_to_1 H.1
    have : i = 0 ∨ i = 1 := by omega
    rcases this with rfl | rfl
    · exact f
    · exact f2
  have hp : F_pv (A.2.2.1 i) = nI (F_pen (A.2.2.1 i)) := if_pos d1.2.2.1.1
  exact ⟨d1, ⟨⟨fo, x0, x1, by rw [hp]; exact x2, x4, x5, x6, x7⟩, x3, x8⟩, d3.cg n6 (fun k _ => (e3 _).symm)⟩
theorem q_fo_ref {h : am_H} (ok : am_okH h) (i : Nat) (hi : i < 2) : h.2.2.1 4 i = some (8 + 16 * i) := by
  have : i = 0 ∨ i = 1 := by omega
  rcases this with rfl | rfl
  · exact okR_4_0 ok
  · exact okR_4_1 ok
theorem G_0_in {f : q_Fl} (h : F_ok f) : G_in f (G_0 f) := ⟨h.2.2.2.1, by show 0 < 64; decide, fun b hb => (h.2.2.2.2.2.2.2.2.2.2.1 b hb).2.1⟩
theorem den_hasBeast {A : q_All} {h : am_H} (H : q_Rel A h) (d b : Int32) : am_den 71 [.ref 0, .int d, .int b] h = some (some (.int (if (0 ≤ d ∧ d < nI (A.2.1 0)) ∧ (0 ≤ b ∧ b < nI (F_n (A.2.2.1 d.toNatClampNeg))) then 1 else 0)), h) := by
  have ok := H.1
  obtain ⟨c1, c2, c3⟩ := H.cnt 0 (by decide)
  have dh := den_has h ok 0 (by decide) (A.2.1 0) c1 c2 d
  rw [nI_0] at dh
  show am_ev 71 0 [some (.ref 0), some (.int d), some (.int b)] [] h = _
  by_cases c : 0 ≤ d ∧ d < nI (A.2.1 0)
  · obtain ⟨i, hi, rfl⟩ := q_in2 c1 c
    obtain ⟨d1, d2, -⟩ := H.fl i hi
    have r := q_fo_ref ok i (by omega)
    have z : (nI i).toNatClampNeg = i := nI_clamp (by omega)
    have x : am_ix (nI i) 2 = true := am_ix_nI (by omega) (by decide)
    have y1 : (1 : Int32) = 0 ↔ False := by decide
    have e5 := d2.1.2.2.2.2.2.1
    rw [if_pos c] at dh
    rw [z]
    by_cases b1 : b < 0
    · have n : ¬ ((0 ≤ nI i ∧ nI i < nI (A.2.1 0)) ∧ (0 ≤ b ∧ b < nI (F_n (A.2.2.1 i)))) := fun w => absurd b1 (Int32.not_lt.mpr w.2.1)
      simp only [e71_0, e71_1, e71_4, e71_5, e71_6, e71_9, e71_12, e71_13, e71_16, e71_17, e71_18, e71_21, e71_24, e71_25f, e71_25d, e71_25b, e71_25l, e71_25t, e71_26, e71_29, e71_32, e71_33, e71_36, e71_37, am_bd_some, Option.toList_some, Option.toList_none, List.cons_append, List.nil_append, am_w8_0, am_w8_1, am_w8_2, am_w8_3, am_w8_4, eq_self, or_true, true_or, am_kd_sI, am_kd_sL, am_kd_sR, am_tc_sI, am_tc_sL, am_tc_sR, am_len_sI, am_len_sL, am_len_sR, am_rfs, if_true, if_false, am_rdL_sI, am_rR_sL, am_rt_cq, am_kd_cq, am_tc_cq, am_len_cq, am_rd_sL, am_rd_sR, am_rdL_sR, okK_0 ok, okR_0_0 ok, okK_1 ok, dh, y1, b1, n]
    · by_cases b2 : nI (F_n (A.2.2.1 i)) ≤ b
      · have n : ¬ ((0 ≤ nI i ∧ nI i < nI (A.2.1 0)) ∧ (0 ≤ b ∧ b < nI (F_n (A.2.2.1 i)))) := fun w => absurd w.2.2 (Int32.not_lt.mpr b2)
        simp only [e71_0, e71_1, e71_4, e71_5, e71_6, e71_9, e71_12, e71_13, e71_16, e71_17, e71_18, e71_21, e71_24, e71_25f, e71_25d, e71_25b, e71_25l, e71_25t, e71_26, e71_29, e71_32, e71_33, e71_36, e71_37, am_bd_some, Option.toList_some, Option.toList_none, List.cons_append, List.nil_append, am_w8_0, am_w8_1, am_w8_2, am_w8_3, am_w8_4, eq_self, or_true, true_or, am_kd_sI, am_kd_sL, am_kd_sR, am_tc_sI, am_tc_sL, am_tc_sR, am_len_sI, am_len_sL, am_len_sR, am_rfs, if_true, if_false, am_rdL_sI, am_rR_sL, am_rt_cq, am_kd_cq, am_tc_cq, am_len_cq, am_rd_sL, am_rd_sR, am_rdL_sR, okK_0 ok, okR_0_0 ok, okK_1 ok, okR_1_5 ok, okT_4 ok, okL_4 ok, dh, y1, b1, x, z, r, d2.1.1.1, e5, b2, n]
      · have n : (0 ≤ nI i ∧ nI i < nI (A.2.1 0)) ∧ (0 ≤ b ∧ b < nI (F_n (A.2.2.1 i))) := ⟨c, Int32.not_lt.mp b1, Int32.not_le.mp b2⟩
        rw [if_pos n]
        simp only [e71_0, e71_1, e71_4, e71_5, e71_6, e71_9, e71_12, e71_13, e71_16, e71_17, e71_18, e71_21, e71_24, e71_25f, e71_25d, e71_25b, e71_25l, e71_25t, e71_26, e71_29, e71_32, e71_33, e71_36, e71_37, am_bd_some, Option.toList_some, Option.toList_none, List.cons_append, List.nil_append, am_w8_0, am_w8_1, am_w8_2, am_w8_3, am_w8_4, eq_self, or_true, true_or, am_kd_sI, am_kd_sL, am_kd_sR, am_tc_sI, am_tc_sL, am_tc_sR, am_len_sI, am_len_sL, am_len_sR, am_rfs, if_true, if_false, am_rdL_sI, am_rR_sL, am_rt_cq, am_kd_cq, am_tc_cq, am_len_cq, am_rd_sL, am_rd_sR, am_rdL_sR, okK_0 ok, okR_0_0 ok, okK_1 ok, okR_1_5 ok, okT_4 ok, okL_4 ok, dh, y1, b1, x, z, r, d2.1.1.1, e5, b2]
  · rw [if_neg c] at dh
    simp only [e71_0, e71_1, e71_4, e71_5, e71_6, e71_9, e71_12, e71_13, e71_16, e71_17, e71_18, e71_21, e71_24, e71_25f, e71_25d, e71_25b, e71_25l, e71_25t, e71_26, e71_29, e71_32, e71_33, e71_36, e71_37, am_bd_some, Option.toList_some, Option.toList_none, List.cons_append, List.nil_append, am_w8_0, am_w8_1, am_w8_2, am_w8_3, am_w8_4, eq_self, or_true, true_or, am_kd_sI, am_kd_sL, am_kd_sR, am_tc_sI, am_tc_sL, am_tc_sR, am_len_sI, am_len_sL, am_len_sR, am_rfs, if_true, if_false, am_rdL_sI, am_rR_sL, am_rt_cq, am_kd_cq, am_tc_cq, am_len_cq, am_rd_sL, am_rd_sR, am_rdL_sR, okK_0 ok, okR_0_0 ok, okK_1 ok, dh, c, false_and]
