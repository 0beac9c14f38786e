/-! part 58: drawn -/
theorem e124_0 {ls : List (Option Value)} {st : List Value} {h : am_H} {a : Nat} : am_ev 124 0 (some (.ref a) :: ls) (st) h = am_ev 124 1 (some (.ref a) :: ls) (.ref a :: st) h := am_ev_step (q := (1, some (.ref a) :: ls, .ref a :: st, h)) _ (.aload_n 0) 1 am_my_124 (by decide +kernel) rfl
theorem e124_1 {ls : List (Option Value)} {st : List Value} {h : am_H} {o : Nat} (hk : am_kd h o = some (.inl 10)) : am_ev 124 1 ls (.ref o :: st) h = am_ev 124 4 ls (va_rf (h.2.2.1 o 0) :: st) h := am_u_gfR (idx := 10) (wn := 2146) (a := 0) am_my_124 (by decide +kernel) (by decide +kernel) (by decide +kernel) hk
theorem e124_4 {ls : List (Option Value)} {st : List Value} {h : am_H} : am_ev 124 4 (ls) (st) h = am_ev 124 5 (ls) (.int (0) :: st) h := am_ev_step (q := (5, ls, .int (0) :: st, h)) _ (.iconst (0)) 1 am_my_124 (by decide +kernel) rfl
theorem e124_5 {ls : List (Option Value)} {st : List Value} {h : am_H} {l0 : Option Value} {a : Int32} : am_ev 124 5 (l0 :: some (.int a) :: ls) (st) h = am_ev 124 6 (l0 :: some (.int a) :: ls) (.int a :: st) h := am_ev_step (q := (6, l0 :: some (.int a) :: ls, .int a :: st, h)) _ (.iload_n 1) 1 am_my_124 (by decide +kernel) rfl
theorem e124_6 {ls : List (Option Value)} {st : List Value} {h : am_H} {p0 : Int32} {p1 : Int32} {o : Nat} (hw : am_w8 st ≤ 8) (hk : am_kd h o = some (.inl 8)) : am_ev 124 6 ls (.int p1 :: .int p0 :: .ref o :: st) h = am_bd (am_den 17 [.ref o, .int p0, .int p1] h) (fun v h1 => am_ev 124 9 ls (v.toList ++ st) h1) := am_u_cV (idx := 108) (wn := 2200) (as := [.int p0, .int p1]) am_my_124 (by decide +kernel) (Or.inl (by decide +kernel)) am_my_17 (by decide +kernel) rfl ⟨Nat.le_of_ble_eq_true rfl, rfl⟩ (by decide +kernel) hw hk
theorem e124_9 {ls : List (Option Value)} {st : List Value} {h : am_H} {a : Int32} : am_ev 124 9 ls (.int a :: st) h = if a = 0 then am_ev 124 22 ls st h else am_ev 124 12 ls st h := am_u_if1 (c := .eq) (off := 13) am_my_124 (by decide +kernel) (by decide)
theorem e124_12 {ls : List (Option Value)} {st : List Value} {h : am_H} {l0 l1 l2 : Option Value} {a : Int32} : am_ev 124 12 (l0 :: l1 :: l2 :: some (.int a) :: ls) (st) h = am_ev 124 13 (l0 :: l1 :: l2 :: some (.int a) :: ls) (.int a :: st) h := am_ev_step (q := (13, l0 :: l1 :: l2 :: some (.int a) :: ls, .int a :: st, h)) _ (.iload_n 3) 1 am_my_124 (by decide +kernel) rfl
theorem e124_13 {ls : List (Option Value)} {st : List Value} {h : am_H} {a : Int32} : am_ev 124 13 ls (.int a :: st) h = if a < 0 then am_ev 124 22 ls st h else am_ev 124 16 ls st h := am_u_if1 (c := .lt) (off := 9) am_my_124 (by decide +kernel) (by decide)
theorem e124_16 {ls : List (Option Value)} {st : List Value} {h : am_H} {l0 l1 l2 : Option Value} {a : Int32} : am_ev 124 16 (l0 :: l1 :: l2 :: some (.int a) :: ls) (st) h = am_ev 124 17 (l0 :: l1 :: l2 :: some (.int a) :: ls) (.int a :: st) h := am_ev_step (q := (17, l0 :: l1 :: l2 :: some (.int a) :: ls, .int a :: st, h)) _ (.iload_n 3) 1 am_my_124 (by decide +kernel) rfl
theorem e124_17 {ls : List (Option Value)} {st : List Value} {h : am_H} : am_ev 124 17 (ls) (st) h = am_ev 124 19 (ls) (.int (60) :: st) h := am_ev_step (q := (19, ls, .int (60) :: st, h)) _ (.bipush (60)) 2 am_my_124 (by decide +kernel) rfl
theorem e124_19 {ls : List (Option Value)} {st : List Value} {h : am_H} {a b : Int32} : am_ev 124 19 ls (.int b :: .int a :: st) h = if a ≤ b then am_ev 124 25 ls st h else am_ev 124 22 ls st h := am_u_if2 (c := .le) (off := 6) am_my_124 (by decide +kernel) (by decide)
theorem e124_22 {ls : List (Option Value)} {st : List Value} {h : am_H} : am_ev 124 22 (ls) (st) h = am_ev 124 24 (ls) (.int (-2) :: st) h := am_ev_step (q := (24, ls, .int (-2) :: st, h)) _ (.bipush (-2)) 2 am_my_124 (by decide +kernel) rfl
theorem e124_24 {ls : List (Option Value)} {h : am_H} {v : Int32} : am_ev 124 24 ls [.int v] h = some (some (.int v), h) := am_u_rtI am_my_124 (by decide +kernel) rfl
theorem e124_25 {ls : List (Option Value)} {st : List Value} {h : am_H} {a : Nat} : am_ev 124 25 (some (.ref a) :: ls) (st) h = am_ev 124 26 (some (.ref a) :: ls) (.ref a :: st) h := am_ev_step (q := (26, some (.ref a) :: ls, .ref a :: st, h)) _ (.aload_n 0) 1 am_my_124 (by decide +kernel) rfl
theorem e124_26 {ls : List (Option Value)} {st : List Value} {h : am_H} {o : Nat} (hk : am_kd h o = some (.inl 10)) : am_ev 124 26 ls (.ref o :: st) h = am_ev 124 29 ls (va_rf (h.2.2.1 o 4) :: st) h := am_u_gfR (idx := 34) (wn := 2150) (a := 0) am_my_124 (by decide +kernel) (by decide +kernel) (by decide +kernel) hk
theorem e124_29 {ls : List (Option Value)} {st : List Value} {h : am_H} {a : Nat} : am_ev 124 29 (some (.ref a) :: ls) (st) h = am_ev 124 30 (some (.ref a) :: ls) (.ref a :: st) h := am_ev_step (q := (30, some (.ref a) :: ls, .ref a :: st, h)) _ (.aload_n 0) 1 am_my_124 (by decide +kernel) rfl
theorem e124_30 {ls : List (Option Value)} {st : List Value} {h : am_H} {o : Nat} (hk : am_kd h o = some (.inl 10)) : am_ev 124 30 ls (.ref o :: st) h = am_ev 124 33 ls (va_rf (h.2.2.1 o 0) :: st) h := am_u_gfR (idx := 10) (wn := 2146) (a := 0) am_my_124 (by decide +kernel) (by decide +kernel) (by decide +kernel) hk
theorem e124_33 {ls : List (Option Value)} {st : List Value} {h : am_H} {o : Nat} (hk : am_kd h o = some (.inl 8)) : am_ev 124 33 ls (.ref o :: st) h = am_ev 124 36 ls (va_rf (h.2.2.1 o 5) :: st) h := am_u_gfR (idx := 116) (wn := 1191) (a := 0) am_my_124 (by decide +kernel) (by decide +kernel) (by decide +kernel) hk
theorem e124_36 {ls : List (Option Value)} {st : List Value} {h : am_H} {l0 : Option Value} {a : Int32} : am_ev 124 36 (l0 :: some (.int a) :: ls) (st) h = am_ev 124 37 (l0 :: some (.int a) :: ls) (.int a :: st) h := am_ev_step (q := (37, l0 :: some (.int a) :: ls, .int a :: st, h)) _ (.iload_n 1) 1 am_my_124 (by decide +kernel) rfl
theorem e124_37f {ls : List (Option Value)} {st : List Value} {h : am_H} {i : Int32} {a : Nat} (ht : am_tc h a = some 4) : am_ev 124 37 ls (.int i :: .ref a :: st) h = if am_ix i (am_len h a) = true then am_ev 124 38 ls (va_rf (h.2.2.1 a i.toNatClampNeg) :: st) h else none := am_u_rA am_my_124 (by decide +kernel) ht (by decide)
theorem e124_37d {ls : List (Option Value)} {st : List Value} {h : am_H} {i : Int32} {a : Nat} (ht : am_tc h a = some 5) : am_ev 124 37 ls (.int i :: .ref a :: st) h = if am_ix i (am_len h a) = true then am_ev 124 38 ls (va_rf (h.2.2.1 a i.toNatClampNeg) :: st) h else none := am_u_rA am_my_124 (by decide +kernel) ht (by decide)
theorem e124_37b {ls : List (Option Value)} {st : List Value} {h : am_H} {i : Int32} {a : Nat} (ht : am_tc h a = some 6) : am_ev 124 37 ls (.int i :: .ref a :: st) h = if am_ix i (am_len h a) = true then am_ev 124 38 ls (va_rf (h.2.2.1 a i.toNatClampNeg) :: st) h else none := am_u_rA am_my_124 (by decide +kernel) ht (by decide)
theorem e124_37l {ls : List (Option Value)} {st : List Value} {h : am_H} {i : Int32} {a : Nat} (ht : am_tc h a = some 7) : am_ev 124 37 ls (.int i :: .ref a :: st) h = if am_ix i (am_len h a) = true then am_ev 124 38 ls (va_rf (h.2.2.1 a i.toNatClampNeg) :: st) h else none := am_u_rA am_my_124 (by decide +kernel) ht (by decide)
theorem e124_37t {ls : List (Option Value)} {st : List Value} {h : am_H} {i : Int32} {a : Nat} (ht : am_tc h a = some 8) : am_ev 124 37 ls (.int i :: .ref a :: st) h = if am_ix i (am_len h a) = true then am_ev 124 38 ls (va_rf (h.2.2.1 a i.toNatClampNeg) :: st) h else none := am_u_rA am_my_124 (by decide +kernel) ht (by decide)
theorem e124_38 {ls : List (Option Value)} {st : List Value} {h : am_H} {p0 : Nat} {o : Nat} (hw : am_w8 st ≤ 8) (hk : am_kd h o = some (.inl 4)) : am_ev 124 38 ls (.ref p0 :: .ref o :: st) h = am_bd (am_den 72 [.ref o, .ref p0] h) (fun v h1 => am_ev 124 41 ls (v.toList ++ st) h1) := am_u_cV (idx := 130) (wn := 3210) (as := [.ref p0]) am_my_124 (by decide +kernel) (Or.inl (by decide +kernel)) am_my_72 (by decide +kernel) rfl ⟨Nat.le_of_ble_eq_true rfl, rfl⟩ (by decide +kernel) hw hk
theorem e124_41 {ls : List (Option Value)} {st : List Value} {h : am_H} {l0 l1 : Option Value} {a : Int32} : am_ev 124 41 (l0 :: l1 :: some (.int a) :: ls) (st) h = am_ev 124 42 (l0 :: l1 :: some (.int a) :: ls) (.int a :: st) h := am_ev_step (q := (42, l0 :: l1 :: some (.int a) :: ls, .int a :: st, h)) _ (.iload_n 2) 1 am_my_124 (by decide +kernel) rfl
theorem e124_42 {ls : List (Option Value)} {st : List Value} {h : am_H} {l0 l1 l2 l3 l4 : Option Value} {z : Option Value} {a : Int32} : am_ev 124 42 (l0 :: l1 :: l2 :: l3 :: l4 :: z :: ls) (.int a :: st) h = am_ev 124 44 (l0 :: l1 :: l2 :: l3 :: l4 :: some (.int a) :: ls) (st) h := am_ev_step (q := (44, l0 :: l1 :: l2 :: l3 :: l4 :: some (.int a) :: ls, st, h)) _ (.istore 5) 2 am_my_124 (by decide +kernel) rfl
theorem e124_44 {ls : List (Option Value)} {st : List Value} {h : am_H} : am_ev 124 44 (ls) (st) h = am_ev 124 45 (ls) (.int (0) :: st) h := am_ev_step (q := (45, ls, .int (0) :: st, h)) _ (.iconst (0)) 1 am_my_124 (by decide +kernel) rfl
theorem e124_45 {ls : List (Option Value)} {st : List Value} {h : am_H} {l0 l1 l2 l3 l4 l5 : Option Value} {z : Option Value} {a : Int32} : am_ev 124 45 (l0 :: l1 :: l2 :: l3 :: l4 :: l5 :: z :: ls) (.int a :: st) h = am_ev 124 47 (l0 :: l1 :: l2 :: l3 :: l4 :: l5 :: some (.int a) :: ls) (st) h := am_ev_step (q := (47, l0 :: l1 :: l2 :: l3 :: l4 :: l5 :: some (.int a) :: ls, st, h)) _ (.istore 6) 2 am_my_124 (by decide +kernel) rfl
theorem e124_47 {ls : List (Option Value)} {st : List Value} {h : am_H} {l0 l1 l2 l3 l4 l5 : Option Value} {a : Int32} : am_ev 124 47 (l0 :: l1 :: l2 :: l3 :: l4 :: l5 :: some (.int a) :: ls) (st) h = am_ev 124 49 (l0 :: l1 :: l2 :: l3 :: l4 :: l5 :: some (.int a) :: ls) (.int a :: st) h := am_ev_step (q := (49, l0 :: l1 :: l2 :: l3 :: l4 :: l5 :: some (.int a) :: ls, .int a :: st, h)) _ (.iload 6) 2 am_my_124 (by decide +kernel) rfl
theorem e124_49 {ls : List (Option Value)} {st : List Value} {h : am_H} {l0 l1 l2 : Option Value} {a : Int32} : am_ev 124 49 (l0 :: l1 :: l2 :: some (.int a) :: ls) (st) h = am_ev 124 50 (l0 :: l1 :: l2 :: some (.int a) :: ls) (.int a :: st) h := am_ev_step (q := (50, l0 :: l1 :: l2 :: some (.int a) :: ls, .int a :: st, h)) _ (.iload_n 3) 1 am_my_124 (by decide +kernel) rfl
theorem e124_50 {ls : List (Option Value)} {st : List Value} {h : am_H} {a b : Int32} : am_ev 124 50 ls (.int b :: .int a :: st) h = if b ≤ a then am_ev 124 121 ls st h else am_ev 124 53 ls st h := am_u_if2 (c := .ge) (off := 71) am_my_124 (by decide +kernel) (by decide)
theorem e124_53 {ls : List (Option Value)} {st : List Value} {h : am_H} {l0 l1 l2 l3 l4 : Option Value} {a : Int32} : am_ev 124 53 (l0 :: l1 :: l2 :: l3 :: l4 :: some (.int a) :: ls) (st) h = am_ev 124 55 (l0 :: l1 :: l2 :: l3 :: l4 :: some (.int a) :: ls) (.int a :: st) h := am_ev_step (q := (55, l0 :: l1 :: l2 :: l3 :: l4 :: some (.int a) :: ls, .int a :: st, h)) _ (.iload 5) 2 am_my_124 (by decide +kernel) rfl
theorem e124_55 {ls : List (Option Value)} {st : List Value} {h : am_H} {p0 : Int32} (hw : am_w8 st ≤ 8) : am_ev 124 55 ls (.int p0 :: st) h = am_bd (am_den 125 [.int p0] h) (fun v h1 => am_ev 124 58 ls (v.toList ++ st) h1) := am_u_cS (idx := 258) (wn := 4204) (as := [.int p0]) am_my_124 (by decide +kernel) (by decide +kernel) am_my_125 (by decide +kernel) rfl ⟨Nat.le_of_ble_eq_true rfl, rfl⟩ hw
theorem e124_58 {ls : List (Option Value)} {st : List Value} {h : am_H} {l0 l1 l2 l3 l4 : Option Value} {z : Option Value} {a : Int32} : am_ev 124 58 (l0 :: l1 :: l2 :: l3 :: l4 :: z :: ls) (.int a :: st) h = am_ev 124 60 (l0 :: l1 :: l2 :: l3 :: l4 :: some (.int a) :: ls) (st) h := am_ev_step (q := (60, l0 :: l1 :: l2 :: l3 :: l4 :: some (.int a) :: ls, st, h)) _ (.istore 5) 2 am_my_124 (by decide +kernel) rfl
theorem e124_60 {ls : List (Option Value)} {st : List Value} {h : am_H} {l0 l1 l2 l3 l4 : Option Value} {a : Int32} : am_ev 124 60 (l0 :: l1 :: l2 :: l3 :: l4 :: some (.int a) :: ls) (st) h = am_ev 124 62 (l0 :: l1 :: l2 :: l3 :: l4 :: some (.int a) :: ls) (.int a :: st) h := am_ev_step (q := (62, l0 :: l1 :: l2 :: l3 :: l4 :: some (.int a) :: ls, .int a :: st, h)) _ (.iload 5) 2 am_my_124 (by decide +kernel) rfl
theorem e124_62 {ls : List (Option Value)} {st : List Value} {h : am_H} : am_ev 124 62 (ls) (st) h = am_ev 124 64 (ls) (.int (16) :: st) h := am_ev_step (q := (64, ls, .int (16) :: st, h)) _ (.bipush (16)) 2 am_my_124 (by decide +kernel) rfl
theorem e124_64 {ls : List (Option Value)} {st : List Value} {h : am_H} {a b : Int32} : am_ev 124 64 (ls) (.int b :: .int a :: st) h = am_ev 124 65 (ls) (.int ((a.toUInt32 >>> (b.toUInt32 &&& Int32.toUInt32 31)).toInt32) :: st) h := am_ev_step (q := (65, ls, .int ((a.toUInt32 >>> (b.toUInt32 &&& Int32.toUInt32 31)).toInt32) :: st, h)) _ (.iushr) 1 am_my_124 (by decide +kernel) rfl
theorem e124_65 {ls : List (Option Value)} {st : List Value} {h : am_H} : am_ev 124 65 (ls) (st) h = am_ev 124 67 (ls) (.int (8) :: st) h := am_ev_step (q := (67, ls, .int (8) :: st, h)) _ (.bipush (8)) 2 am_my_124 (by decide +kernel) rfl
theorem e124_67 {ls : List (Option Value)} {st : List Value} {h : am_H} {a b : Int32} : am_ev 124 67 ls (.int b :: .int a :: st) h = if b = 0 then none else am_ev 124 68 ls (.int (a - a / b * b) :: st) h := am_u_iz (i := .irem) (f := fun a b => a - a / b * b) am_my_124 (by decide +kernel) (fun _ => rfl)
theorem e124_68 {ls : List (Option Value)} {st : List Value} {h : am_H} {l0 l1 l2 l3 l4 l5 l6 : Option Value} {z : Option Value} {a : Int32} : am_ev 124 68 (l0 :: l1 :: l2 :: l3 :: l4 :: l5 :: l6 :: z :: ls) (.int a :: st) h = am_ev 124 70 (l0 :: l1 :: l2 :: l3 :: l4 :: l5 :: l6 :: some (.int a) :: ls) (st) h := am_ev_step (q := (70, l0 :: l1 :: l2 :: l3 :: l4 :: l5 :: l6 :: some (.int a) :: ls, st, h)) _ (.istore 7) 2 am_my_124 (by decide +kernel) rfl
theorem e124_70 {ls : List (Option Value)} {st : List Value} {h : am_H} {l0 l1 l2 l3 l4 l5 l6 : Option Value} {a : Int32} : am_ev 124 70 (l0 :: l1 :: l2 :: l3 :: l4 :: l5 :: l6 :: some (.int a) :: ls) (st) h = am_ev 124 72 (l0 :: l1 :: l2 :: l3 :: l4 :: l5 :: l6 :: some (.int a) :: ls) (.int a :: st) h := am_ev_step (q := (72, l0 :: l1 :: l2 :: l3 :: l4 :: l5 :: l6 :: some (.int a) :: ls, .int a :: st, h)) _ (.iload 7) 2 am_my_124 (by decide +kernel) rfl
theorem e124_72 {ls : List (Option Value)} {st : List Value} {h : am_H} : am_ev 124 72 (ls) (st) h = am_ev 124 73 (ls) (.int (5) :: st) h := am_ev_step (q := (73, ls, .int (5) :: st, h)) _ (.iconst (5)) 1 am_my_124 (by decide +kernel) rfl
theorem e124_73 {ls : List (Option Value)} {st : List Value} {h : am_H} {a b : Int32} : am_ev 124 73 ls (.int b :: .int a :: st) h = if b ≤ a then am_ev 124 101 ls st h else am_ev 124 76 ls st h := am_u_if2 (c := .ge) (off := 28) am_my_124 (by decide +kernel) (by decide)
theorem e124_76 {ls : List (Option Value)} {st : List Value} {h : am_H} {l0 l1 l2 l3 l4 : Option Value} {a : Int32} : am_ev 124 76 (l0 :: l1 :: l2 :: l3 :: l4 :: some (.int a) :: ls) (st) h = am_ev 124 78 (l0 :: l1 :: l2 :: l3 :: l4 :: some (.int a) :: ls) (.int a :: st) h := am_ev_step (q := (78, l0 :: l1 :: l2 :: l3 :: l4 :: some (.int a) :: ls, .int a :: st, h)) _ (.iload 5) 2 am_my_124 (by decide +kernel) rfl
theorem e124_78 {ls : List (Option Value)} {st : List Value} {h : am_H} {p0 : Int32} (hw : am_w8 st ≤ 8) : am_ev 124 78 ls (.int p0 :: st) h = am_bd (am_den 125 [.int p0] h) (fun v h1 => am_ev 124 81 ls (v.toList ++ st) h1) := am_u_cS (idx := 258) (wn := 4204) (as := [.int p0]) am_my_124 (by decide +kernel) (by decide +kernel) am_my_125 (by decide +kernel) rfl ⟨Nat.le_of_ble_eq_true rfl, rfl⟩ hw
theorem e124_81 {ls : List (Option Value)} {st : List Value} {h : am_H} {l0 l1 l2 l3 l4 : Option Value} {z : Option Value} {a : Int32} : am_ev 124 81 (l0 :: l1 :: l2 :: l3 :: l4 :: z :: ls) (.int a :: st) h = am_ev 124 83 (l0 :: l1 :: l2 :: l3 :: l4 :: some (.int a) :: ls) (st) h := am_ev_step (q := (83, l0 :: l1 :: l2 :: l3 :: l4 :: some (.int a) :: ls, st, h)) _ (.istore 5) 2 am_my_124 (by decide +kernel) rfl
theorem e124_83 {ls : List (Option Value)} {st : List Value} {h : am_H} {a : Nat} : am_ev 124 83 (some (.ref a) :: ls) (st) h = am_ev 124 84 (some (.ref a) :: ls) (.ref a :: st) h := am_ev_step (q := (84, some (.ref a) :: ls, .ref a :: st, h)) _ (.aload_n 0) 1 am_my_124 (by decide +kernel) rfl
theorem e124_84 {ls : List (Option Value)} {st : List Value} {h : am_H} {o : Nat} (hk : am_kd h o = some (.inl 10)) : am_ev 124 84 ls (.ref o :: st) h = am_ev 124 87 ls (va_rf (h.2.2.1 o 4) :: st) h := am_u_gfR (idx := 34) (wn := 2150) (a := 0) am_my_124 (by decide +kernel) (by decide +kernel) (by decide +kernel) hk
theorem e124_87 {ls : List (Option Value)} {st : List Value} {h : am_H} {l0 l1 l2 l3 l4 : Option Value} {a : Int32} : am_ev 124 87 (l0 :: l1 :: l2 :: l3 :: l4 :: some (.int a) :: ls) (st) h = am_ev 124 89 (l0 :: l1 :: l2 :: l3 :: l4 :: some (.int a) :: ls) (.int a :: st) h := am_ev_step (q := (89, l0 :: l1 :: l2 :: l3 :: l4 :: some (.int a) :: ls, .int a :: st, h)) _ (.iload 5) 2 am_my_124 (by decide +kernel) rfl
theorem e124_89 {ls : List (Option Value)} {st : List Value} {h : am_H} : am_ev 124 89 (ls) (st) h = am_ev 124 91 (ls) (.int (16) :: st) h := am_ev_step (q := (91, ls, .int (16) :: st, h)) _ (.bipush (16)) 2 am_my_124 (by decide +kernel) rfl
theorem e124_91 {ls : List (Option Value)} {st : List Value} {h : am_H} {a b : Int32} : am_ev 124 91 (ls) (.int b :: .int a :: st) h = am_ev 124 92 (ls) (.int ((a.toUInt32 >>> (b.toUInt32 &&& Int32.toUInt32 31)).toInt32) :: st) h := am_ev_step (q := (92, ls, .int ((a.toUInt32 >>> (b.toUInt32 &&& Int32.toUInt32 31)).toInt32) :: st, h)) _ (.iushr) 1 am_my_124 (by decide +kernel) rfl
theorem e124_92 {ls : List (Option Value)} {st : List Value} {h : am_H} : am_ev 124 92 (ls) (st) h = am_ev 124 93 (ls) (.int (4) :: st) h := am_ev_step (q := (93, ls, .int (4) :: st, h)) _ (.iconst (4)) 1 am_my_124 (by decide +kernel) rfl
theorem e124_93 {ls : List (Option Value)} {st : List Value} {h : am_H} {a b : Int32} : am_ev 124 93 ls (.int b :: .int a :: st) h = if b = 0 then none else am_ev 124 94 ls (.int (a - a / b * b) :: st) h := am_u_iz (i := .irem) (f := fun a b => a - a / b * b) am_my_124 (by decide +kernel) (fun _ => rfl)
theorem e124_94 {ls : List (Option Value)} {st : List Value} {h : am_H} {p0 : Int32} {o : Nat} (hw : am_w8 st ≤ 8) (hk : am_kd h o = some (.inl 4)) : am_ev 124 94 ls (.int p0 :: .ref o :: st) h = am_bd (am_den 108 [.ref o, .int p0] h) (fun v h1 => am_ev 124 97 ls (v.toList ++ st) h1) := am_u_cV (idx := 224) (wn := 4128) (as := [.int p0]) am_my_124 (by decide +kernel) (Or.inl (by decide +kernel)) am_my_108 (by decide +kernel) rfl ⟨Nat.le_of_ble_eq_true rfl, rfl⟩ (by decide +kernel) hw hk
theorem e124_97 {ls : List (Option Value)} {st : List Value} {h : am_H} {a : Int32} : am_ev 124 97 (ls) (.int a :: st) h = am_ev 124 98 (ls) (st) h := am_ev_step (q := (98, ls, st, h)) _ (.pop) 1 am_my_124 (by decide +kernel) rfl
theorem e124_98 {ls : List (Option Value)} {st : List Value} {h : am_H} : am_ev 124 98 (ls) (st) h = am_ev 124 115 (ls) (st) h := am_ev_step (q := (115, ls, st, h)) _ (.goto (17)) 3 am_my_124 (by decide +kernel) rfl
theorem e124_101 {ls : List (Option Value)} {st : List Value} {h : am_H} {a : Nat} : am_ev 124 101 (some (.ref a) :: ls) (st) h = am_ev 124 102 (some (.ref a) :: ls) (.ref a :: st) h := am_ev_step (q := (102, some (.ref a) :: ls, .ref a :: st, h)) _ (.aload_n 0) 1 am_my_124 (by decide +kernel) rfl
theorem e124_102 {ls : List (Option Value)} {st : List Value} {h : am_H} {o : Nat} (hk : am_kd h o = some (.inl 10)) : am_ev 124 102 ls (.ref o :: st) h = am_ev 124 105 ls (va_rf (h.2.2.1 o 4) :: st) h := am_u_gfR (idx := 34) (wn := 2150) (a := 0) am_my_124 (by decide +kernel) (by decide +kernel) (by decide +kernel) hk
theorem e124_105 {ls : List (Option Value)} {st : List Value} {h : am_H} : am_ev 124 105 (ls) (st) h = am_ev 124 106 (ls) (.int (4) :: st) h := am_ev_step (q := (106, ls, .int (4) :: st, h)) _ (.iconst (4)) 1 am_my_124 (by decide +kernel) rfl
theorem e124_106 {ls : List (Option Value)} {st : List Value} {h : am_H} {l0 l1 l2 l3 l4 l5 l6 : Option Value} {a : Int32} : am_ev 124 106 (l0 :: l1 :: l2 :: l3 :: l4 :: l5 :: l6 :: some (.int a) :: ls) (st) h = am_ev 124 108 (l0 :: l1 :: l2 :: l3 :: l4 :: l5 :: l6 :: some (.int a) :: ls) (.int a :: st) h := am_ev_step (q := (108, l0 :: l1 :: l2 :: l3 :: l4 :: l5 :: l6 :: some (.int a) :: ls, .int a :: st, h)) _ (.iload 7) 2 am_my_124 (by decide +kernel) rfl
theorem e124_108 {ls : List (Option Value)} {st : List Value} {h : am_H} {a b : Int32} : am_ev 124 108 (ls) (.int b :: .int a :: st) h = am_ev 124 109 (ls) (.int (a + b) :: st) h := am_ev_step (q := (109, ls, .int (a + b) :: st, h)) _ (.iadd) 1 am_my_124 (by decide +kernel) rfl
theorem e124_109 {ls : List (Option Value)} {st : List Value} {h : am_H} : am_ev 124 109 (ls) (st) h = am_ev 124 110 (ls) (.int (5) :: st) h := am_ev_step (q := (110, ls, .int (5) :: st, h)) _ (.iconst (5)) 1 am_my_124 (by decide +kernel) rfl
theorem e124_110 {ls : List (Option Value)} {st : List Value} {h : am_H} {a b : Int32} : am_ev 124 110 (ls) (.int b :: .int a :: st) h = am_ev 124 111 (ls) (.int (a - b) :: st) h := am_ev_step (q := (111, ls, .int (a - b) :: st, h)) _ (.isub) 1 am_my_124 (by decide +kernel) rfl
theorem e124_111 {ls : List (Option Value)} {st : List Value} {h : am_H} {p0 : Int32} {o : Nat} (hw : am_w8 st ≤ 8) (hk : am_kd h o = some (.inl 4)) : am_ev 124 111 ls (.int p0 :: .ref o :: st) h = am_bd (am_den 108 [.ref o, .int p0] h) (fun v h1 => am_ev 124 114 ls (v.toList ++ st) h1) := am_u_cV (idx := 224) (wn := 4128) (as := [.int p0]) am_my_124 (by decide +kernel) (Or.inl (by decide +kernel)) am_my_108 (by decide +kernel) rfl ⟨Nat.le_of_ble_eq_true rfl, rfl⟩ (by decide +kernel) hw hk
theorem e124_114 {ls : List (Option Value)} {st : List Value} {h : am_H} {a : Int32} : am_ev 124 114 (ls) (.int a :: st) h = am_ev 124 115 (ls) (st) h := am_ev_step (q := (115, ls, st, h)) _ (.pop) 1 am_my_124 (by decide +kernel) rfl
theorem e124_115 {ls : List (Option Value)} {st : List Value} {h : am_H} {l0 l1 l2 l3 l4 l5 : Option Value} {a : Int32} : am_ev 124 115 (l0 :: l1 :: l2 :: l3 :: l4 :: l5 :: some (.int a) :: ls) (st) h = am_ev 124 118 (l0 :: l1 :: l2 :: l3 :: l4 :: l5 :: some (.int (a + (1))) :: ls) (st) h := am_ev_step (q := (118, l0 :: l1 :: l2 :: l3 :: l4 :: l5 :: some (.int (a + (1))) :: ls, st, h)) _ (.iinc 6 (1)) 3 am_my_124 (by decide +kernel) rfl
theorem e124_118 {ls : List (Option Value)} {st : List Value} {h : am_H} : am_ev 124 118 (ls) (st) h = am_ev 124 47 (ls) (st) h := am_ev_step (q := (47, ls, st, h)) _ (.goto (-71)) 3 am_my_124 (by decide +kernel) rfl
theorem e124_121 {ls : List (Option Value)} {st : List Value} {h : am_H} {a : Nat} : am_ev 124 121 (some (.ref a) :: ls) (st) h = am_ev 124 122 (some (.ref a) :: ls) (.ref a :: st) h := am_ev_step (q := (122, some (.ref a) :: ls, .ref a :: st, h)) _ (.aload_n 0) 1 am_my_124 (by decide +kernel) rfl
theorem e124_122 {ls : List (Option Value)} {st : List Value} {h : am_H} {o : Nat} (hk : am_kd h o = some (.inl 10)) : am_ev 124 122 ls (.ref o :: st) h = am_ev 124 125 ls (va_rf (h.2.2.1 o 4) :: st) h := am_u_gfR (idx := 34) (wn := 2150) (a := 0) am_my_124 (by decide +kernel) (by decide +kernel) (by decide +kernel) hk
theorem e124_125 {ls : List (Option Value)} {st : List Value} {h : am_H} {l0 l1 l2 l3 : Option Value} {a : Int32} : am_ev 124 125 (l0 :: l1 :: l2 :: l3 :: some (.int a) :: ls) (st) h = am_ev 124 127 (l0 :: l1 :: l2 :: l3 :: some (.int a) :: ls) (.int a :: st) h := am_ev_step (q := (127, l0 :: l1 :: l2 :: l3 :: some (.int a) :: ls, .int a :: st, h)) _ (.iload 4) 2 am_my_124 (by decide +kernel) rfl
theorem e124_127 {ls : List (Option Value)} {st : List Value} {h : am_H} {p0 : Int32} {o : Nat} (hw : am_w8 st ≤ 8) (hk : am_kd h o = some (.inl 4)) : am_ev 124 127 ls (.int p0 :: .ref o :: st) h = am_bd (am_den 117 [.ref o, .int p0] h) (fun v h1 => am_ev 124 130 ls (v.toList ++ st) h1) := am_u_cV (idx := 245) (wn := 4170) (as := [.int p0]) am_my_124 (by decide +kernel) (Or.inl (by decide +kernel)) am_my_117 (by decide +kernel) rfl ⟨Nat.le_of_ble_eq_true rfl, rfl⟩ (by decide +kernel) hw hk
theorem e124_130 {ls : List (Option Value)} {h : am_H} {v : Int32} : am_ev 124 130 ls [.int v] h = some (some (.int v), h) := am_u_rtI am_my_124 (by decide +kernel) rfl
theorem e125_0 {ls : List (Option Value)} {st : List Value} {h : am_H} {a : Int32} : am_ev 125 0 (some (.int a) :: ls) (st) h = am_ev 125 1 (some (.int a) :: ls) (.int a :: st) h := am_ev_step (q := (1, some (.int a) :: ls, .int a :: st, h)) _ (.iload_n 0) 1 am_my_125 (by decide +kernel) rfl
theorem e125_1 {ls : List (Option Value)} {st : List Value} {h : am_H} : am_ev 125 1 ls st h = am_ev 125 4 ls (.int (1103515245) :: st) h := am_u_ldc_w (idx := 261) am_my_125 (by decide +kernel) (by decide +kernel)
theorem e125_4 {ls : List (Option Value)} {st : List Value} {h : am_H} {a b : Int32} : am_ev 125 4 (ls) (.int b :: .int a :: st) h = am_ev 125 5 (ls) (.int (a * b) :: st) h := am_ev_step (q := (5, ls, .int (a * b) :: st, h)) _ (.imul) 1 am_my_125 (by decide +kernel) rfl
theorem e125_5 {ls : List (Option Value)} {st : List Value} {h : am_H} : am_ev 125 5 (ls) (st) h = am_ev 125 8 (ls) (.int (12345) :: st) h := am_ev_step (q := (8, ls, .int (12345) :: st, h)) _ (.sipush (12345)) 3 am_my_125 (by decide +kernel) rfl
theorem e125_8 {ls : List (Option Value)} {st : List Value} {h : am_H} {a b : Int32} : am_ev 125 8 (ls) (.int b :: .int a :: st) h = am_ev 125 9 (ls) (.int (a + b) :: st) h := am_ev_step (q := (9, ls, .int (a + b) :: st, h)) _ (.iadd) 1 am_my_125 (by decide +kernel) rfl
theorem e125_9 {ls : List (Option Value)} {h : am_H} {v : Int32} : am_ev 125 9 ls [.int v] h = some (some (.int v), h) := am_u_rtI am_my_125 (by decide +kernel) rfl
theorem e273_0 {ls : List (Option Value)} {st : List Value} {h : am_H} {a : Nat} : am_ev 273 0 (some (.ref a) :: ls) (st) h = am_ev 273 1 (some (.ref a) :: ls) (.ref a :: st) h := am_ev_step (q := (1, some (.ref a) :: ls, .ref a :: st, h)) _ (.aload_n 0) 1 am_my_273 (by decide +kernel) rfl
theorem e273_1 {ls : List (Option Value)} {st : List Value} {h : am_H} : am_ev 273 1 (ls) (st) h = am_ev 273 2 (ls) (.int (0) :: st) h := am_ev_step (q := (2, ls, .int (0) :: st, h)) _ (.iconst (0)) 1 am_my_273 (by decide +kernel) rfl
theorem e273_2 {ls : List (Option Value)} {st : List Value} {h : am_H} {o : Nat} {v : Int32} (hk : am_kd h o = some (.inl 11)) : am_ev 273 2 ls (.int v :: .ref o :: st) h = am_ev 273 5 ls st (am_sI h o 0 v) := am_u_pfI (idx := 87) (wn := 5132) am_my_273 (by decide +kernel) (by decide +kernel) (by decide +kernel) (by decide +kernel) hk
theorem e273_5 {ls : List (Option Value)} {st : List Value} {h : am_H} {l0 l1 l2 : Option Value} {a : Int32} : am_ev 273 5 (l0 :: l1 :: l2 :: some (.int a) :: ls) (st) h = am_ev 273 6 (l0 :: l1 :: l2 :: some (.int a) :: ls) (.int a :: st) h := am_ev_step (q := (6, l0 :: l1 :: l2 :: some (.int a) :: ls, .int a :: st, h)) _ (.iload_n 3) 1 am_my_273 (by decide +kernel) rfl
theorem e273_6 {ls : List (Option Value)} {st : List Value} {h : am_H} : am_ev 273 6 (ls) (st) h = am_ev 273 7 (ls) (.int (0) :: st) h := am_ev_step (q := (7, ls, .int (0) :: st, h)) _ (.iconst (0)) 1 am_my_273 (by decide +kernel) rfl
theorem e273_7 {ls : List (Option Value)} {st : List Value} {h : am_H} : am_ev 273 7 (ls) (st) h = am_ev 273 9 (ls) (.int (60) :: st) h := am_ev_step (q := (9, ls, .int (60) :: st, h)) _ (.bipush (60)) 2 am_my_273 (by decide +kernel) rfl
theorem e273_9 {ls : List (Option Value)} {st : List Value} {h : am_H} {p0 : Int32} {p1 : Int32} {p2 : Int32} (hw : am_w8 st ≤ 8) : am_ev 273 9 ls (.int p2 :: .int p1 :: .int p0 :: st) h = am_bd (am_den 168 [.int p0, .int p1, .int p2] h) (fun v h1 => am_ev 273 12 ls (v.toList ++ st) h1) := am_u_cS (idx := 99) (wn := 6085) (as := [.int p0, .int p1, .int p2]) am_my_273 (by decide +kernel) (by decide +kernel) am_my_168 (by decide +kernel) rfl ⟨Nat.le_of_ble_eq_true rfl, rfl⟩ hw
theorem e273_12 {ls : List (Option Value)} {st : List Value} {h : am_H} {a : Int32} : am_ev 273 12 ls (.int a :: st) h = if a = 0 then am_ev 273 23 ls st h else am_ev 273 15 ls st h := am_u_if1 (c := .eq) (off := 11) am_my_273 (by decide +kernel) (by decide)
theorem e273_15 {ls : List (Option Value)} {st : List Value} {h : am_H} {a : Nat} : am_ev 273 15 (some (.ref a) :: ls) (st) h = am_ev 273 16 (some (.ref a) :: ls) (.ref a :: st) h := am_ev_step (q := (16, some (.ref a) :: ls, .ref a :: st, h)) _ (.aload_n 0) 1 am_my_273 (by decide +kernel) rfl
theorem e273_16 {ls : List (Option Value)} {st : List Value} {h : am_H} {l0 : Option Value} {a : Int32} : am_ev 273 16 (l0 :: some (.int a) :: ls) (st) h = am_ev 273 17 (l0 :: some (.int a) :: ls) (.int a :: st) h := am_ev_step (q := (17, l0 :: some (.int a) :: ls, .int a :: st, h)) _ (.iload_n 1) 1 am_my_273 (by decide +kernel) rfl
theorem e273_17 {ls : List (Option Value)} {st : List Value} {h : am_H} {p0 : Int32} {o : Nat} (hw : am_w8 st ≤ 8) (hk : am_kd h o = some (.inl 11)) : am_ev 273 17 ls (.int p0 :: .ref o :: st) h = am_bd (am_den 201 [.ref o, .int p0] h) (fun v h1 => am_ev 273 20 ls (v.toList ++ st) h1) := am_u_cV (idx := 339) (wn := 6230) (as := [.int p0]) am_my_273 (by decide +kernel) (Or.inl (by decide +kernel)) am_my_201 (by decide +kernel) rfl ⟨Nat.le_of_ble_eq_true rfl, rfl⟩ (by decide +kernel) hw hk
theorem e273_20 {ls : List (Option Value)} {st : List Value} {h : am_H} {a : Int32} : am_ev 273 20 ls (.int a :: st) h = if ¬ a = 0 then am_ev 273 26 ls st h else am_ev 273 23 ls st h := am_u_if1 (c := .ne) (off := 6) am_my_273 (by decide +kernel) (by decide)
theorem e273_23 {ls : List (Option Value)} {st : List Value} {h : am_H} : am_ev 273 23 (ls) (st) h = am_ev 273 25 (ls) (.int (-2) :: st) h := am_ev_step (q := (25, ls, .int (-2) :: st, h)) _ (.bipush (-2)) 2 am_my_273 (by decide +kernel) rfl
theorem e273_25 {ls : List (Option Value)} {h : am_H} {v : Int32} : am_ev 273 25 ls [.int v] h = some (some (.int v), h) := am_u_rtI am_my_273 (by decide +kernel) rfl
theorem e273_26 {ls : List (Option Value)} {st : List Value} {h : am_H} {a : Nat} : am_ev 273 26 (some (.ref a) :: ls) (st) h = am_ev 273 27 (some (.ref a) :: ls) (.ref a :: st) h := am_ev_step (q := (27, some (.ref a) :: ls, .ref a :: st, h)) _ (.aload_n 0) 1 am_my_273 (by decide +kernel) rfl
theorem e273_27 {ls : List (Option Value)} {st : List Value} {h : am_H} {l0 l1 : Option Value} {a : Int32} : am_ev 273 27 (l0 :: l1 :: some (.int a) :: ls) (st) h = am_ev 273 28 (l0 :: l1 :: some (.int a) :: ls) (.int a :: st) h := am_ev_step (q := (28, l0 :: l1 :: some (.int a) :: ls, .int a :: st, h)) _ (.iload_n 2) 1 am_my_273 (by decide +kernel) rfl
theorem e273_28 {ls : List (Option Value)} {st : List Value} {h : am_H} {o : Nat} {v : Int32} (hk : am_kd h o = some (.inl 11)) : am_ev 273 28 ls (.int v :: .ref o :: st) h = am_ev 273 31 ls st (am_sI h o 55 v) := am_u_pfI (idx := 511) (wn := 5187) am_my_273 (by decide +kernel) (by decide +kernel) (by decide +kernel) (by decide +kernel) hk
theorem e273_31 {ls : List (Option Value)} {st : List Value} {h : am_H} : am_ev 273 31 (ls) (st) h = am_ev 273 32 (ls) (.int (0) :: st) h := am_ev_step (q := (32, ls, .int (0) :: st, h)) _ (.iconst (0)) 1 am_my_273 (by decide +kernel) rfl
theorem e273_32 {ls : List (Option Value)} {st : List Value} {h : am_H} {l0 l1 l2 l3 l4 : Option Value} {z : Option Value} {a : Int32} : am_ev 273 32 (l0 :: l1 :: l2 :: l3 :: l4 :: z :: ls) (.int a :: st) h = am_ev 273 34 (l0 :: l1 :: l2 :: l3 :: l4 :: some (.int a) :: ls) (st) h := am_ev_step (q := (34, l0 :: l1 :: l2 :: l3 :: l4 :: some (.int a) :: ls, st, h)) _ (.istore 5) 2 am_my_273 (by decide +kernel) rfl
theorem e273_34 {ls : List (Option Value)} {st : List Value} {h : am_H} {l0 l1 l2 l3 l4 : Option Value} {a : Int32} : am_ev 273 34 (l0 :: l1 :: l2 :: l3 :: l4 :: some (.int a) :: ls) (st) h = am_ev 273 36 (l0 :: l1 :: l2 :: l3 :: l4 :: some (.int a) :: ls) (.int a :: st) h := am_ev_step (q := (36, l0 :: l1 :: l2 :: l3 :: l4 :: some (.int a) :: ls, .int a :: st, h)) _ (.iload 5) 2 am_my_273 (by decide +kernel) rfl
theorem e273_36 {ls : List (Option Value)} {st : List Value} {h : am_H} {l0 l1 l2 : Option Value} {a : Int32} : am_ev 273 36 (l0 :: l1 :: l2 :: some (.int a) :: ls) (st) h = am_ev 273 37 (l0 :: l1 :: l2 :: some (.int a) :: ls) (.int a :: st) h := am_ev_step (q := (37, l0 :: l1 :: l2 :: some (.int a) :: ls, .int a :: st, h)) _ (.iload_n 3) 1 am_my_273 (by decide +kernel) rfl
theorem e273_37 {ls : List (Option Value)} {st : List Value} {h : am_H} {a b : Int32} : am_ev 273 37 ls (.int b :: .int a :: st) h = if b ≤ a then am_ev 273 84 ls st h else am_ev 273 40 ls st h := am_u_if2 (c := .ge) (off := 47) am_my_273 (by decide +kernel) (by decide)
theorem e273_40 {ls : List (Option Value)} {st : List Value} {h : am_H} {a : Nat} : am_ev 273 40 (some (.ref a) :: ls) (st) h = am_ev 273 41 (some (.ref a) :: ls) (.ref a :: st) h := am_ev_step (q := (41, some (.ref a) :: ls, .ref a :: st, h)) _ (.aload_n 0) 1 am_my_273 (by decide +kernel) rfl
theorem e273_41 {ls : List (Option Value)} {st : List Value} {h : am_H} : am_ev 273 41 (ls) (st) h = am_ev 273 43 (ls) (.int (8) :: st) h := am_ev_step (q := (43, ls, .int (8) :: st, h)) _ (.bipush (8)) 2 am_my_273 (by decide +kernel) rfl
theorem e273_43 {ls : List (Option Value)} {st : List Value} {h : am_H} {p0 : Int32} {o : Nat} (hw : am_w8 st ≤ 8) (hk : am_kd h o = some (.inl 11)) : am_ev 273 43 ls (.int p0 :: .ref o :: st) h = am_bd (am_den 274 [.ref o, .int p0] h) (fun v h1 => am_ev 273 46 ls (v.toList ++ st) h1) := am_u_cV (idx := 515) (wn := 8037) (as := [.int p0]) am_my_273 (by decide +kernel) (Or.inl (by decide +kernel)) am_my_274 (by decide +kernel) rfl ⟨Nat.le_of_ble_eq_true rfl, rfl⟩ (by decide +kernel) hw hk
theorem e273_46 {ls : List (Option Value)} {st : List Value} {h : am_H} {l0 l1 l2 l3 l4 l5 : Option Value} {z : Option Value} {a : Int32} : am_ev 273 46 (l0 :: l1 :: l2 :: l3 :: l4 :: l5 :: z :: ls) (.int a :: st) h = am_ev 273 48 (l0 :: l1 :: l2 :: l3 :: l4 :: l5 :: some (.int a) :: ls) (st) h := am_ev_step (q := (48, l0 :: l1 :: l2 :: l3 :: l4 :: l5 :: some (.int a) :: ls, st, h)) _ (.istore 6) 2 am_my_273 (by decide +kernel) rfl
theorem e273_48 {ls : List (Option Value)} {st : List Value} {h : am_H} {l0 l1 l2 l3 l4 l5 : Option Value} {a : Int32} : am_ev 273 48 (l0 :: l1 :: l2 :: l3 :: l4 :: l5 :: some (.int a) :: ls) (st) h = am_ev 273 50 (l0 :: l1 :: l2 :: l3 :: l4 :: l5 :: some (.int a) :: ls) (.int a :: st) h := am_ev_step (q := (50, l0 :: l1 :: l2 :: l3 :: l4 :: l5 :: some (.int a) :: ls, .int a :: st, h)) _ (.iload 6) 2 am_my_273 (by decide +kernel) rfl
theorem e273_50 {ls : List (Option Value)} {st : List Value} {h : am_H} : am_ev 273 50 (ls) (st) h = am_ev 273 51 (ls) (.int (5) :: st) h := am_ev_step (q := (51, ls, .int (5) :: st, h)) _ (.iconst (5)) 1 am_my_273 (by decide +kernel) rfl
theorem e273_51 {ls : List (Option Value)} {st : List Value} {h : am_H} {a b : Int32} : am_ev 273 51 ls (.int b :: .int a :: st) h = if b ≤ a then am_ev 273 68 ls st h else am_ev 273 54 ls st h := am_u_if2 (c := .ge) (off := 17) am_my_273 (by decide +kernel) (by decide)
theorem e273_54 {ls : List (Option Value)} {st : List Value} {h : am_H} {a : Nat} : am_ev 273 54 (some (.ref a) :: ls) (st) h = am_ev 273 55 (some (.ref a) :: ls) (.ref a :: st) h := am_ev_step (q := (55, some (.ref a) :: ls, .ref a :: st, h)) _ (.aload_n 0) 1 am_my_273 (by decide +kernel) rfl
theorem e273_55 {ls : List (Option Value)} {st : List Value} {h : am_H} : am_ev 273 55 (ls) (st) h = am_ev 273 56 (ls) (.int (0) :: st) h := am_ev_step (q := (56, ls, .int (0) :: st, h)) _ (.iconst (0)) 1 am_my_273 (by decide +kernel) rfl
theorem e273_56 {ls : List (Option Value)} {st : List Value} {h : am_H} {a : Nat} : am_ev 273 56 (some (.ref a) :: ls) (st) h = am_ev 273 57 (some (.ref a) :: ls) (.ref a :: st) h := am_ev_step (q := (57, some (.ref a) :: ls, .ref a :: st, h)) _ (.aload_n 0) 1 am_my_273 (by decide +kernel) rfl
theorem e273_57 {ls : List (Option Value)} {st : List Value} {h : am_H} : am_ev 273 57 (ls) (st) h = am_ev 273 58 (ls) (.int (4) :: st) h := am_ev_step (q := (58, ls, .int (4) :: st, h)) _ (.iconst (4)) 1 am_my_273 (by decide +kernel) rfl
theorem e273_58 {ls : List (Option Value)} {st : List Value} {h : am_H} {p0 : Int32} {o : Nat} (hw : am_w8 st ≤ 8) (hk : am_kd h o = some (.inl 11)) : am_ev 273 58 ls (.int p0 :: .ref o :: st) h = am_bd (am_den 274 [.ref o, .int p0] h) (fun v h1 => am_ev 273 61 ls (v.toList ++ st) h1) := am_u_cV (idx := 515) (wn := 8037) (as := [.int p0]) am_my_273 (by decide +kernel) (Or.inl (by decide +kernel)) am_my_274 (by decide +kernel) rfl ⟨Nat.le_of_ble_eq_true rfl, rfl⟩ (by decide +kernel) hw hk
theorem e273_61 {ls : List (Option Value)} {st : List Value} {h : am_H} {p0 : Int32} {p1 : Int32} {o : Nat} (hw : am_w8 st ≤ 8) (hk : am_kd h o = some (.inl 11)) : am_ev 273 61 ls (.int p1 :: .int p0 :: .ref o :: st) h = am_bd (am_den 211 [.ref o, .int p0, .int p1] h) (fun v h1 => am_ev 273 64 ls (v.toList ++ st) h1) := am_u_cV (idx := 370) (wn := 7030) (as := [.int p0, .int p1]) am_my_273 (by decide +kernel) (Or.inl (by decide +kernel)) am_my_211 (by decide +kernel) rfl ⟨Nat.le_of_ble_eq_true rfl, rfl⟩ (by decide +kernel) hw hk
theorem e273_64 {ls : List (Option Value)} {st : List Value} {h : am_H} {a : Int32} : am_ev 273 64 (ls) (.int a :: st) h = am_ev 273 65 (ls) (st) h := am_ev_step (q := (65, ls, st, h)) _ (.pop) 1 am_my_273 (by decide +kernel) rfl
theorem e273_65 {ls : List (Option Value)} {st : List Value} {h : am_H} : am_ev 273 65 (ls) (st) h = am_ev 273 78 (ls) (st) h := am_ev_step (q := (78, ls, st, h)) _ (.goto (13)) 3 am_my_273 (by decide +kernel) rfl
theorem e273_68 {ls : List (Option Value)} {st : List Value} {h : am_H} {a : Nat} : am_ev 273 68 (some (.ref a) :: ls) (st) h = am_ev 273 69 (some (.ref a) :: ls) (.ref a :: st) h := am_ev_step (q := (69, some (.ref a) :: ls, .ref a :: st, h)) _ (.aload_n 0) 1 am_my_273 (by decide +kernel) rfl
theorem e273_69 {ls : List (Option Value)} {st : List Value} {h : am_H} {l0 l1 l2 l3 l4 l5 : Option Value} {a : Int32} : am_ev 273 69 (l0 :: l1 :: l2 :: l3 :: l4 :: l5 :: some (.int a) :: ls) (st) h = am_ev 273 71 (l0 :: l1 :: l2 :: l3 :: l4 :: l5 :: some (.int a) :: ls) (.int a :: st) h := am_ev_step (q := (71, l0 :: l1 :: l2 :: l3 :: l4 :: l5 :: some (.int a) :: ls, .int a :: st, h)) _ (.iload 6) 2 am_my_273 (by decide +kernel) rfl
theorem e273_71 {ls : List (Option Value)} {st : List Value} {h : am_H} : am_ev 273 71 (ls) (st) h = am_ev 273 72 (ls) (.int (4) :: st) h := am_ev_step (q := (72, ls, .int (4) :: st, h)) _ (.iconst (4)) 1 am_my_273 (by decide +kernel) rfl
theorem e273_72 {ls : List (Option Value)} {st : List Value} {h : am_H} {a b : Int32} : am_ev 273 72 (ls) (.int b :: .int a :: st) h = am_ev 273 73 (ls) (.int (a - b) :: st) h := am_ev_step (q := (73, ls, .int (a - b) :: st, h)) _ (.isub) 1 am_my_273 (by decide +kernel) rfl
theorem e273_73 {ls : List (Option Value)} {st : List Value} {h : am_H} : am_ev 273 73 (ls) (st) h = am_ev 273 74 (ls) (.int (-1) :: st) h := am_ev_step (q := (74, ls, .int (-1) :: st, h)) _ (.iconst (-1)) 1 am_my_273 (by decide +kernel) rfl
theorem e273_74 {ls : List (Option Value)} {st : List Value} {h : am_H} {p0 : Int32} {p1 : Int32} {o : Nat} (hw : am_w8 st ≤ 8) (hk : am_kd h o = some (.inl 11)) : am_ev 273 74 ls (.int p1 :: .int p0 :: .ref o :: st) h = am_bd (am_den 211 [.ref o, .int p0, .int p1] h) (fun v h1 => am_ev 273 77 ls (v.toList ++ st) h1) := am_u_cV (idx := 370) (wn := 7030) (as := [.int p0, .int p1]) am_my_273 (by decide +kernel) (Or.inl (by decide +kernel)) am_my_211 (by decide +kernel) rfl ⟨Nat.le_of_ble_eq_true rfl, rfl⟩ (by decide +kernel) hw hk
theorem e273_77 {ls : List (Option Value)} {st : List Value} {h : am_H} {a : Int32} : am_ev 273 77 (ls) (.int a :: st) h = am_ev 273 78 (ls) (st) h := am_ev_step (q := (78, ls, st, h)) _ (.pop) 1 am_my_273 (by decide +kernel) rfl
theorem e273_78 {ls : List (Option Value)} {st : List Value} {h : am_H} {l0 l1 l2 l3 l4 : Option Value} {a : Int32} : am_ev 273 78 (l0 :: l1 :: l2 :: l3 :: l4 :: some (.int a) :: ls) (st) h = am_ev 273 81 (l0 :: l1 :: l2 :: l3 :: l4 :: some (.int (a + (1))) :: ls) (st) h := am_ev_step (q := (81, l0 :: l1 :: l2 :: l3 :: l4 :: some (.int (a + (1))) :: ls, st, h)) _ (.iinc 5 (1)) 3 am_my_273 (by decide +kernel) rfl
theorem e273_81 {ls : List (Option Value)} {st : List Value} {h : am_H} : am_ev 273 81 (ls) (st) h = am_ev 273 34 (ls) (st) h := am_ev_step (q := (34, ls, st, h)) _ (.goto (-47)) 3 am_my_273 (by decide +kernel) rfl
theorem e273_84 {ls : List (Option Value)} {st : List Value} {h : am_H} {a : Nat} : am_ev 273 84 (some (.ref a) :: ls) (st) h = am_ev 273 85 (some (.ref a) :: ls) (.ref a :: st) h := am_ev_step (q := (85, some (.ref a) :: ls, .ref a :: st, h)) _ (.aload_n 0) 1 am_my_273 (by decide +kernel) rfl
theorem e273_85 {ls : List (Option Value)} {st : List Value} {h : am_H} {l0 l1 l2 l3 : Option Value} {a : Int32} : am_ev 273 85 (l0 :: l1 :: l2 :: l3 :: some (.int a) :: ls) (st) h = am_ev 273 87 (l0 :: l1 :: l2 :: l3 :: some (.int a) :: ls) (.int a :: st) h := am_ev_step (q := (87, l0 :: l1 :: l2 :: l3 :: some (.int a) :: ls, .int a :: st, h)) _ (.iload 4) 2 am_my_273 (by decide +kernel) rfl
theorem e273_87 {ls : List (Option Value)} {st : List Value} {h : am_H} {p0 : Int32} {o : Nat} (hw : am_w8 st ≤ 8) (hk : am_kd h o = some (.inl 11)) : am_ev 273 87 ls (.int p0 :: .ref o :: st) h = am_bd (am_den 225 [.ref o, .int p0] h) (fun v h1 => am_ev 273 90 ls (v.toList ++ st) h1) := am_u_cV (idx := 382) (wn := 7085) (as := [.int p0]) am_my_273 (by decide +kernel) (Or.inl (by decide +kernel)) am_my_225 (by decide +kernel) rfl ⟨Nat.le_of_ble_eq_true rfl, rfl⟩ (by decide +kernel) hw hk
theorem e273_90 {ls : List (Option Value)} {h : am_H} {v : Int32} : am_ev 273 90 ls [.int v] h = some (some (.int v), h) := am_u_rtI am_my_273 (by decide +kernel) rfl
theorem e274_0 {ls : List (Option Value)} {st : List Value} {h : am_H} {a : Nat} : am_ev 274 0 (some (.ref a) :: ls) (st) h = am_ev 274 1 (some (.ref a) :: ls) (.ref a :: st) h := am_ev_step (q := (1, some (.ref a) :: ls, .ref a :: st, h)) _ (.aload_n 0) 1 am_my_274 (by decide +kernel) rfl
theorem e274_1 {ls : List (Option Value)} {st : List Value} {h : am_H} {a : Nat} : am_ev 274 1 (some (.ref a) :: ls) (st) h = am_ev 274 2 (some (.ref a) :: ls) (.ref a :: st) h := am_ev_step (q := (2, some (.ref a) :: ls, .ref a :: st, h)) _ (.aload_n 0) 1 am_my_274 (by decide +kernel) rfl
theorem e274_2 {ls : List (Option Value)} {st : List Value} {h : am_H} {o : Nat} (hk : am_kd h o = some (.inl 11)) : am_ev 274 2 ls (.ref o :: st) h = am_ev 274 5 ls (.int (h.1 o 55) :: st) h := am_u_gfI (idx := 511) (wn := 5187) am_my_274 (by decide +kernel) (by decide +kernel) (by decide +kernel) hk
theorem e274_5 {ls : List (Option Value)} {st : List Value} {h : am_H} : am_ev 274 5 ls st h = am_ev 274 8 ls (.int (1103515245) :: st) h := am_u_ldc_w (idx := 514) am_my_274 (by decide +kernel) (by decide +kernel)
theorem e274_8 {ls : List (Option Value)} {st : List Value} {h : am_H} {a b : Int32} : am_ev 274 8 (ls) (.int b :: .int a :: st) h = am_ev 274 9 (ls) (.int (a * b) :: st) h := am_ev_step (q := (9, ls, .int (a * b) :: st, h)) _ (.imul) 1 am_my_274 (by decide +kernel) rfl
theorem e274_9 {ls : List (Option Value)} {st : List Value} {h : am_H} : am_ev 274 9 (ls) (st) h = am_ev 274 12 (ls) (.int (12345) :: st) h := am_ev_step (q := (12, ls, .int (12345) :: st, h)) _ (.sipush (12345)) 3 am_my_274 (by decide +kernel) rfl
theorem e274_12 {ls : List (Option Value)} {st : List Value} {h : am_H} {a b : Int32} : am_ev 274 12 (ls) (.int b :: .int a :: st) h = am_ev 274 13 (ls) (.int (a + b) :: st) h := am_ev_step (q := (13, ls, .int (a + b) :: st, h)) _ (.iadd) 1 am_my_274 (by decide +kernel) rfl
theorem e274_13 {ls : List (Option Value)} {st : List Value} {h : am_H} {o : Nat} {v : Int32} (hk : am_kd h o = some (.inl 11)) : am_ev 274 13 ls (.int v :: .ref o :: st) h = am_ev 274 16 ls st (am_sI h o 55 v) := am_u_pfI (idx := 511) (wn := 5187) am_my_274 (by decide +kernel) (by decide +kernel) (by decide +kernel) (by decide +kernel) hk
theorem e274_16 {ls : List (Option Value)} {st : List Value} {h : am_H} {a : Nat} : am_ev 274 16 (some (.ref a) :: ls) (st) h = am_ev 274 17 (some (.ref a) :: ls) (.ref a :: st) h := am_ev_step (q := (17, some (.ref a) :: ls, .ref a :: st, h)) _ (.aload_n 0) 1 am_my_274 (by decide +kernel) rfl
theorem e274_17 {ls : List (Option Value)} {st : List Value} {h : am_H} {o : Nat} (hk : am_kd h o = some (.inl 11)) : am_ev 274 17 ls (.ref o :: st) h = am_ev 274 20 ls (.int (h.1 o 55) :: st) h := am_u_gfI (idx := 511) (wn := 5187) am_my_274 (by decide +kernel) (by decide +kernel) (by decide +kernel) hk
theorem e274_20 {ls : List (Option Value)} {st : List Value} {h : am_H} : am_ev 274 20 (ls) (st) h = am_ev 274 22 (ls) (.int (16) :: st) h := am_ev_step (q := (22, ls, .int (16) :: st, h)) _ (.bipush (16)) 2 am_my_274 (by decide +kernel) rfl
theorem e274_22 {ls : List (Option Value)} {st : List Value} {h : am_H} {a b : Int32} : am_ev 274 22 (ls) (.int b :: .int a :: st) h = am_ev 274 23 (ls) (.int ((a.toUInt32 >>> (b.toUInt32 &&& Int32.toUInt32 31)).toInt32) :: st) h := am_ev_step (q := (23, ls, .int ((a.toUInt32 >>> (b.toUInt32 &&& Int32.toUInt32 31)).toInt32) :: st, h)) _ (.iushr) 1 am_my_274 (by decide +kernel) rfl
theorem e274_23 {ls : List (Option Value)} {st : List Value} {h : am_H} {l0 : Option Value} {a : Int32} : am_ev 274 23 (l0 :: some (.int a) :: ls) (st) h = am_ev 274 24 (l0 :: some (.int a) :: ls) (.int a :: st) h := am_ev_step (q := (24, l0 :: some (.int a) :: ls, .int a :: st, h)) _ (.iload_n 1) 1 am_my_274 (by decide +kernel) rfl
theorem e274_24 {ls : List (Option Value)} {st : List Value} {h : am_H} {a b : Int32} : am_ev 274 24 ls (.int b :: .int a :: st) h = if b = 0 then none else am_ev 274 25 ls (.int (a - a / b * b) :: st) h := am_u_iz (i := .irem) (f := fun a b => a - a / b * b) am_my_274 (by decide +kernel) (fun _ => rfl)
theorem e274_25 {ls : List (Option Value)} {h : am_H} {v : Int32} : am_ev 274 25 ls [.int v] h = some (some (.int v), h) := am_u_rtI am_my_274 (by decide +kernel) rfl
def q_ns (x : Int32) : Int32 := x * 1103515245 + 12345
def q_hi (x : Int32) : Nat := x.toBitVec.toNat / 65536
theorem q_hi_lt (x : Int32) : q_hi x < 65536 := by
  have := x.toBitVec.isLt
  unfold q_hi
  omega
theorem q_ush16 (x : Int32) : (x.toUInt32 >>> ((16 : Int32).toUInt32 &&& Int32.toUInt32 31)).toInt32 = nI (q_hi x) := by
  apply Int32.toBitVec_inj.mp
  apply BitVec.eq_of_toNat_eq
  rw [pk_ushr x 16 16 (by decide), pk_tn (by have := q_hi_lt x; omega)]
  rfl
theorem q_hr (x : Int32) (m : Nat) (hm : 0 < m) (hm2 : m < 100) : nI (q_hi x) - nI (q_hi x) / nI m * nI m = nI (q_hi x % m) := pk_rem (by have := q_hi_lt x; omega) hm (by omega)
def G_obd (f : q_Fl) (g : q_G) (c : Nat) : q_G := (G_ob f g c).getD g
def G_dr (f : q_Fl) : Nat → Int32 → q_G → q_G
  | 0, _, g => g
  | r + 1, x, g => if q_hi (q_ns x) % 8 < 5 then G_dr f r (q_ns (q_ns x)) (G_obd f g (q_hi (q_ns (q_ns x)) % 4)) else G_dr f r (q_ns x) (G_obd f g (q_hi (q_ns x) % 8 - 1))
theorem G_obd_in {f : q_Fl} {g : q_G} {c : Nat} (wf : F_wf f) (i : G_in f g) : G_in f (G_obd f g c) := by
  unfold G_obd
  cases h : G_ob f g c with
  | none => exact i
  | some g' => exact G_ob_in wf i h
theorem G_obd_pi {f : q_Fl} {g : q_G} {c : Nat} (wf : F_wf f) (i : G_in f g) (p : G_pi f g) : G_pi f (G_obd f g c) := by
  unfold G_obd
  cases h : G_ob f g c with
  | none => exact p
  | some g' => exact G_ob_pi wf i p h
theorem G_dr_in {f : q_Fl} (wf : F_wf f) : ∀ r x g, G_in f g → G_in f (G_dr f r x g) := by
  intro r
  induction r with
  | zero => intro x g i; exact i
  | succ r ih =>
    intro x g i
    rw [G_dr]
    split
    · exact ih _ _ (G_obd_in wf i)
    · exact ih _ _ (G_obd_in wf i)
theorem den_obd (h : am_H) (q o : Nat) (f : q_Fl) (g : q_G) (cg : q_cg h q o f g) (wf : F_wf f) (i : G_in f g) (c : Nat) (hc : c < 7) : ∃ (h' : am_H) (v : Int32), q_ff q h h' ∧ q_cg h' q o f (G_obd f g c) ∧ am_den 108 [.ref q, .int (nI c)] h = some (some (.int v), h') := by
  obtain ⟨b1, b2⟩ := den_obeys h q o f g cg wf i c hc
  unfold G_obd
  cases hg : G_ob f g c with
  | none => exact ⟨h, 0, q_ff.rf q h, cg, b1 hg⟩
  | some g' =>
    obtain ⟨h', f1, g1, s1⟩ := b2 g' hg
    exact ⟨h', 1, f1, g1, s1⟩
theorem den_doesd (h : am_H) (f : q_Fl) (g : q_G) (mg : q_mg h f g) (wf : F_wf f) (i : G_in f g) (p : G_pi f g) (c : Nat) (hc : c < 7) : ∃ (h' : am_H) (v : Int32), q_mw h h' ∧ q_mg h' f (G_obd f g c) ∧ am_den 211 [.ref 211, .int (q_what c), .int (q_wway c)] h = some (some (.int v), h') := by
  obtain ⟨b1, b2⟩ := den_does h f g mg wf i p c hc
  unfold G_obd
  cases hg : G_ob f g c with
  | none => exact ⟨h, 0, q_mw.rf h, mg, b1 hg⟩
  | some g' =>
    obtain ⟨h', f1, g1, s1⟩ := b2 g' hg
    exact ⟨h', 1, f1, g1, s1⟩
theorem den_nextSeed (x : Int32) (h : am_H) : am_den 125 [.int x] h = some (some (.int (q_ns x)), h) := by
  show am_ev 125 0 [some (.int x)] [] h = _
  simp only [e125_0, e125_1, e125_4, e125_5, e125_8, e125_9, am_bd_some, Option.toList_some, Option.toList_none, List.cons_append, List.nil_append, am_w8_0, am_w8_1, am_w8_2, am_w8_3, am_w8_4, eq_self, or_true, true_or, am_kd_sI, am_kd_sL, am_kd_sR, am_tc_sI, am_tc_sL, am_tc_sR, am_len_sI, am_len_sL, am_len_sR, am_rfs, if_true, if_false, am_rdL_sI, am_rR_sL, am_rt_cq, am_kd_cq, am_tc_cq, am_len_cq, am_rd_sL, am_rd_sR, am_rdL_sR, q_ns]
theorem q_dr_c (o : Nat) (f : q_Fl) (wf : F_wf f) (n : Nat) (hn : n ≤ 60) (a1 sd wh : Int32) : ∀ (r i : Nat) (x : Int32) (g : q_G) (h : am_H) (z7 : Option Value), i + r = n → am_okH h → q_cg h 178 o f g → G_in f g → ∃ h' : am_H, q_ff 178 h h' ∧ am_ev 124 47 [some (.ref 0), some (.int a1), some (.int sd), some (.int (nI n)), some (.int wh), some (.int x), some (.int (nI i)), z7] [] h = some (some (.int (G_ans f (G_dr f r x g) wh)), h') := by
  intro r
  induction r with
  | zero =>
    intro i x g h z7 hi ok cg gi
    have h1 : nI n ≤ nI i := nI_le (by omega) (by omega)
    have da := den_cans h 178 o f g cg wf gi wh
    refine ⟨h, q_ff.rf _ h, ?_⟩
    rw [e124_47]
    simp only [e124_0, e124_1, e124_4, e124_5, e124_6, e124_9, e124_12, e124_13, e124_16, e124_17, e124_19, e124_22, e124_24, e124_25, e124_26, e124_29, e124_30, e124_33, e124_36, e124_37f, e124_37d, e124_37b, e124_37l, e124_37t, e124_38, e124_41, e124_42, e124_44, e124_45, e124_49, e124_50, e124_53, e124_55, e124_58, e124_60, e124_62, e124_64, e124_65, e124_67, e124_68, e124_70, e124_72, e124_73, e124_76, e124_78, e124_81, e124_83, e124_84, e124_87, e124_89, e124_91, e124_92, e124_93, e124_94, e124_97, e124_98, e124_101, e124_102, e124_105, e124_106, e124_108, e124_109, e124_110, e124_111, e124_114, e124_115, e124_118, e124_121, e124_122, e124_125, e124_127, e124_130, am_bd_some, Option.toList_some, Option.toList_none, List.cons_append, List.nil_append, am_w8_0, am_w8_1, am_w8_2, am_w8_3, am_w8_4, eq_self, or_true, true_or, am_kd_sI, am_kd_sL, am_kd_sR, am_tc_sI, am_tc_sL, am_tc_sR, am_len_sI, am_len_sL, am_len_sR, am_rfs, if_true, if_false, am_rdL_sI, am_rR_sL, am_rt_cq, am_kd_cq, am_tc_cq, am_len_cq, am_rd_sL, am_rd_sR, am_rdL_sR, h1, okK_0 ok, okR_0_4 ok, okK_178 ok, da, G_dr]
  | succ r ih =>
    intro i x g h z7 hi ok cg gi
    have h1 : ¬ nI n ≤ nI i := nI_ge (by omega) (by omega)
    have n8 : ¬ (8 : Int32) = 0 := by decide
    have n4 : ¬ (4 : Int32) = 0 := by decide
    have u1 := q_ush16 (q_ns x)
    have u2 := q_ush16 (q_ns (q_ns x))
    have r8 : nI (q_hi (q_ns x)) - nI (q_hi (q_ns x)) / 8 * 8 = nI (q_hi (q_ns x) % 8) := q_hr (q_ns x) 8 (by decide) (by decide)
    have r4 : nI (q_hi (q_ns (q_ns x))) - nI (q_hi (q_ns (q_ns x))) / 4 * 4 = nI (q_hi (q_ns (q_ns x)) % 4) := q_hr (q_ns (q_ns x)) 4 (by decide) (by decide)
    have c5 : (5 : Int32) ≤ nI (q_hi (q_ns x) % 8) ↔ 5 ≤ q_hi (q_ns x) % 8 := nI_leI (a := 5) (by decide) (by omega)
    rw [e124_47, G_dr]
    by_cases c : q_hi (q_ns x) % 8 < 5
    · have c' : ¬ (5 : Int32) ≤ nI (q_hi (q_ns x) % 8) := fun w => by have := c5.mp w; omega
      obtain ⟨h', v, f1, g1, s1⟩ := den_obd h 178 o f g cg wf gi (q_hi (q_ns (q_ns x)) % 4) (by omega)
      have ok' : am_okH h' := ok.of (congrArg Prod.snd f1.1)
      obtain ⟨h'', f2, s2⟩ := ih (i + 1) (q_ns (q_ns x)) _ h' (some (.int (nI (q_hi (q_ns x) % 8)))) (by omega) ok' g1 (G_obd_in wf gi)
      refine ⟨h'', f1.tr f2, ?_⟩
      rw [if_pos c]
      simp only [e124_0, e124_1, e124_4, e124_5, e124_6, e124_9, e124_12, e124_13, e124_16, e124_17, e124_19, e124_22, e124_24, e124_25, e124_26, e124_29, e124_30, e124_33, e124_36, e124_37f, e124_37d, e124_37b, e124_37l, e124_37t, e124_38, e124_41, e124_42, e124_44, e124_45, e124_49, e124_50, e124_53, e124_55, e124_58, e124_60, e124_62, e124_64, e124_65, e124_67, e124_68, e124_70, e124_72, e124_73, e124_76, e124_78, e124_81, e124_83, e124_84, e124_87, e124_89, e124_91, e124_92, e124_93, e124_94, e124_97, e124_98, e124_101, e124_102, e124_105, e124_106, e124_108, e124_109, e124_110, e124_111, e124_114, e124_115, e124_118, e124_121, e124_122, e124_125, e124_127, e124_130, am_bd_some, Option.toList_some, Option.toList_none, List.cons_append, List.nil_append, am_w8_0, am_w8_1, am_w8_2, am_w8_3, am_w8_4, eq_self, or_true, true_or, am_kd_sI, am_kd_sL, am_kd_sR, am_tc_sI, am_tc_sL, am_tc_sR, am_len_sI, am_len_sL, am_len_sR, am_rfs, if_true, if_false, am_rdL_sI, am_rR_sL, am_rt_cq, am_kd_cq, am_tc_cq, am_len_cq, am_rd_sL, am_rd_sR, am_rdL_sR, h1, den_nextSeed, u1, u2, n8, n4, r8, r4, c', okK_0 ok, okR_0_4 ok, okK_178 ok, s1, nI_1]
      exact s2
    · have c' : (5 : Int32) ≤ nI (q_hi (q_ns x) % 8) := c5.mpr (by omega)
      have s4 : 4 + nI (q_hi (q_ns x) % 8) - 5 = nI (q_hi (q_ns x) % 8 - 1) := by
        rw [show (4 : Int32) + nI (q_hi (q_ns x) % 8) = nI (4 + q_hi (q_ns x) % 8) from nI_add 4 _, show nI (4 + q_hi (q_ns x) % 8) - 5 = nI (4 + q_hi (q_ns x) % 8 - 5) from pk_sub (b := 5) (by omega)]
        congr 1
        omega
      obtain ⟨h', v, f1, g1, s1⟩ := den_obd h 178 o f g cg wf gi (q_hi (q_ns x) % 8 - 1) (by omega)
      have ok' : am_okH h' := ok.of (congrArg Prod.snd f1.1)
      obtain ⟨h'', f2, s2⟩ := ih (i + 1) (q_ns x) _ h' (some (.int (nI (q_hi (q_ns x) % 8)))) (by omega) ok' g1 (G_obd_in wf gi)
      refine ⟨h'', f1.tr f2, ?_⟩
      rw [if_neg c]
      simp only [e124_0, e124_1, e124_4, e124_5, e124_6, e124_9, e124_12, e124_13, e124_16, e124_17, e124_19, e124_22, e124_24, e124_25, e124_26, e124_29, e124_30, e124_33, e124_36, e124_37f, e124_37d, e124_37b, e124_37l, e124_37t, e124_38, e124_41, e124_42, e124_44, e124_45, e124_49, e124_50, e124_53, e124_55, e124_58, e124_60, e124_62, e124_64, e124_65, e124_67, e124_68, e124_70, e124_72, e124_73, e124_76, e124_78, e124_81, e124_83, e124_84, e124_87, e124_89, e124_91, e124_92, e124_93, e124_94, e124_97, e124_98, e124_101, e124_102, e124_105, e124_106, e124_108, e124_109, e124_110, e124_111, e124_114, e124_115, e124_118, e124_121, e124_122, e124_125, e124_127, e124_130, am_bd_some, Option.toList_some, Option.toList_none, List.cons_append, List.nil_append, am_w8_0, am_w8_1, am_w8_2, am_w8_3, am_w8_4, eq_self, or_true, true_or, am_kd_sI, am_kd_sL, am_kd_sR, am_tc_sI, am_tc_sL, am_tc_sR, am_len_sI, am_len_sL, am_len_sR, am_rfs, if_true, if_false, am_rdL_sI, am_rR_sL, am_rt_cq, am_kd_cq, am_tc_cq, am_len_cq, am_rd_sL, am_rd_sR, am_rdL_sR, h1, den_nextSeed, u1, n8, r8, c', s4, okK_0 ok, okR_0_4 ok, okK_178 ok, s1, nI_1]
      exact s2
theorem q_mg_seed {h : am_H} {f : q_Fl} {g : q_G} (mg : q_mg h f g) (v : Int32) : q_mg (am_sI h 211 55 v) f g := by
  obtain ⟨⟨ok, a1, a2, a3, a4, a5, a6, a7⟩, ⟨e1, e2, e3, e4, e5⟩, ea, ew⟩ := mg
  exact ⟨⟨ok, a1, a2, a3, a4, a5, a6, a7⟩, ⟨e1, e2, e3, e4, e5⟩, ea, ew⟩
theorem den_draw (h : am_H) (ok : am_okH h) (x : Int32) (e : h.1 211 55 = x) (m : Nat) (hm : 0 < m) (hm2 : m < 100) : am_den 274 [.ref 211, .int (nI m)] h = some (some (.int (nI (q_hi (q_ns x) % m))), am_sI h 211 55 (q_ns x)) := by
  have n0 : ¬ nI m = 0 := nI_ne0 hm (by omega)
  have u1 := q_ush16 (q_ns x)
  have rr := q_hr (q_ns x) m hm hm2
  have e' : (am_sI h 211 55 (q_ns x)).1 211 55 = q_ns x := rfl
  unfold q_ns at e' u1
  show am_ev 274 0 [some (.ref 211), some (.int (nI m))] [] h = _
  unfold q_ns at rr ⊢
  simp only [e274_0, e274_1, e274_2, e274_5, e274_8, e274_9, e274_12, e274_13, e274_16, e274_17, e274_20, e274_22, e274_23, e274_24, e274_25, am_bd_some, Option.toList_some, Option.toList_none, List.cons_append, List.nil_append, am_w8_0, am_w8_1, am_w8_2, am_w8_3, am_w8_4, eq_self, or_true, true_or, am_kd_sI, am_kd_sL, am_kd_sR, am_tc_sI, am_tc_sL, am_tc_sR, am_len_sI, am_len_sL, am_len_sR, am_rfs, if_true, if_false, am_rdL_sI, am_rR_sL, am_rt_cq, am_kd_cq, am_tc_cq, am_len_cq, am_rd_sL, am_rd_sR, am_rdL_sR, okK_211 ok, e, e', u1, n0, rr]
/-- only untold fields -/
theorem q_wk_mw {h h' h'' : am_H} (w : q_wk h h') (m : q_mw h' h'') : q_wk h h'' := w.tr (m.wk w.1)
theorem q_dr_m (f : q_Fl) (wf : F_wf f) (n : Nat) (hn : n ≤ 60) (a1 sd wh : Int32) : ∀ (r i : Nat) (x : Int32) (g : q_G) (h : am_H) (z6 : Option Value), i + r = n → q_mg h f g → h.1 211 55 = x → G_in f g → G_pi f g → ∃ h' : am_H, q_wk h h' ∧ am_ev 273 34 [some (.ref 211), some (.int a1), some (.int sd), some (.int (nI n)), some (.int wh), some (.int (nI i)), z6] [] h = some (some (.int (G_ans f (G_dr f r x g) wh)), h') := by
  intro r
  induction r with
  | zero =>
    intro i x g h z6 hi mg ex gi gp
    have ok := mg.1.1
    have h1 : nI n ≤ nI i := nI_le (by omega) (by omega)
    have da := den_mans h f g mg wf gi wh
    refine ⟨h, q_wk.rf ok, ?_⟩
    rw [e273_34]
    simp only [e273_0, e273_1, e273_2, e273_5, e273_6, e273_7, e273_9, e273_12, e273_15, e273_16, e273_17, e273_20, e273_23, e273_25, e273_26, e273_27, e273_28, e273_31, e273_32, e273_36, e273_37, e273_40, e273_41, e273_43, e273_46, e273_48, e273_50, e273_51, e273_54, e273_55, e273_56, e273_57, e273_58, e273_61, e273_64, e273_65, e273_68, e273_69, e273_71, e273_72, e273_73, e273_74, e273_77, e273_78, e273_81, e273_84, e273_85, e273_87, e273_90, am_bd_some, Option.toList_some, Option.toList_none, List.cons_append, List.nil_append, am_w8_0, am_w8_1, am_w8_2, am_w8_3, am_w8_4, eq_self, or_true, true_or, am_kd_sI, am_kd_sL, am_kd_sR, am_tc_sI, am_tc_sL, am_tc_sR, am_len_sI, am_len_sL, am_len_sR, am_rfs, if_true, if_false, am_rdL_sI, am_rR_sL, am_rt_cq, am_kd_cq, am_tc_cq, am_len_cq, am_rd_sL, am_rd_sR, am_rdL_sR, h1, okK_211 ok, da, G_dr]
  | succ r ih =>
    intro i x g h z6 hi mg ex gi gp
    have ok := mg.1.1
    have h1 : ¬ nI n ≤ nI i := nI_ge (by omega) (by omega)
    have c5 : (5 : Int32) ≤ nI (q_hi (q_ns x) % 8) ↔ 5 ≤ q_hi (q_ns x) % 8 := nI_leI (a := 5) (by decide) (by omega)
    have d8 : am_den 274 [.ref 211, .int 8] h = some (some (.int (nI (q_hi (q_ns x) % 8))), am_sI h 211 55 (q_ns x)) := den_draw h ok x ex 8 (by decide) (by decide)
    have mg1 := q_mg_seed mg (q_ns x)
    have ok1 : am_okH (am_sI h 211 55 (q_ns x)) := ok
    have w1 := q_wk1 ok 55 (by decide) (q_ns x)
    rw [e273_34, G_dr]
    by_cases c : q_hi (q_ns x) % 8 < 5
    · have c' : ¬ (5 : Int32) ≤ nI (q_hi (q_ns x) % 8) := fun w => by have := c5.mp w; omega
      have d4 : am_den 274 [.ref 211, .int 4] (am_sI h 211 55 (q_ns x)) = some (some (.int (nI (q_hi (q_ns (q_ns x)) % 4))), am_sI (am_sI h 211 55 (q_ns x)) 211 55 (q_ns (q_ns x))) := den_draw (am_sI h 211 55 (q_ns x)) ok1 (q_ns x) rfl 4 (by decide) (by decide)
      have mg2 := q_mg_seed mg1 (q_ns (q_ns x))
      have w2 := w1.tr (q_wk1 ok1 55 (by decide) (q_ns (q_ns x)))
      obtain ⟨h', v, f1, g1, s1⟩ := den_doesd (am_sI (am_sI h 211 55 (q_ns x)) 211 55 (q_ns (q_ns x))) f g mg2 wf gi gp (q_hi (q_ns (q_ns x)) % 4) (by omega)
      have wt : q_what (q_hi (q_ns (q_ns x)) % 4) = 0 := by unfold q_what; rw [if_pos (by omega), nI_0]
      have ww : q_wway (q_hi (q_ns (q_ns x)) % 4) = nI (q_hi (q_ns (q_ns x)) % 4) := by unfold q_wway; rw [if_pos (by omega)]
      rw [wt, ww] at s1
      have ex' : h'.1 211 55 = q_ns (q_ns x) := by rw [f1.2 _ _ (by decide) (by decide) (by decide)]; rfl
      obtain ⟨h'', f2, s2⟩ := ih (i + 1) (q_ns (q_ns x)) _ h' (some (.int (nI (q_hi (q_ns x) % 8)))) (by omega) g1 ex' (G_obd_in wf gi) (G_obd_pi wf gi gp)
      refine ⟨h'', (q_wk_mw w2 f1).tr f2, ?_⟩
      rw [if_pos c]
      simp only [e273_0, e273_1, e273_2, e273_5, e273_6, e273_7, e273_9, e273_12, e273_15, e273_16, e273_17, e273_20, e273_23, e273_25, e273_26, e273_27, e273_28, e273_31, e273_32, e273_36, e273_37, e273_40, e273_41, e273_43, e273_46, e273_48, e273_50, e273_51, e273_54, e273_55, e273_56, e273_57, e273_58, e273_61, e273_64, e273_65, e273_68, e273_69, e273_71, e273_72, e273_73, e273_74, e273_77, e273_78, e273_81, e273_84, e273_85, e273_87, e273_90, am_bd_some, Option.toList_some, Option.toList_none, List.cons_append, List.nil_append, am_w8_0, am_w8_1, am_w8_2, am_w8_3, am_w8_4, eq_self, or_true, true_or, am_kd_sI, am_kd_sL, am_kd_sR, am_tc_sI, am_tc_sL, am_tc_sR, am_len_sI, am_len_sL, am_len_sR, am_rfs, if_true, if_false, am_rdL_sI, am_rR_sL, am_rt_cq, am_kd_cq, am_tc_cq, am_len_cq, am_rd_sL, am_rd_sR, am_rdL_sR, h1, okK_211 ok, d8, c', d4, s1, nI_1]
      exact s2
    · have c' : (5 : Int32) ≤ nI (q_hi (q_ns x) % 8) := c5.mpr (by omega)
      have s4 : nI (q_hi (q_ns x) % 8) - 4 = nI (q_hi (q_ns x) % 8 - 4) := pk_sub (b := 4) (by omega)
      obtain ⟨h', v, f1, g1, s1⟩ := den_doesd (am_sI h 211 55 (q_ns x)) f g mg1 wf gi gp (q_hi (q_ns x) % 8 - 1) (by omega)
      have wt : q_what (q_hi (q_ns x) % 8 - 1) = nI (q_hi (q_ns x) % 8 - 4) := by unfold q_what; rw [if_neg (by omega)]; rfl
      have ww : q_wway (q_hi (q_ns x) % 8 - 1) = -1 := by unfold q_wway; rw [if_neg (by omega)]
      rw [wt, ww] at s1
      have ex' : h'.1 211 55 = q_ns x := by rw [f1.2 _ _ (by decide) (by decide) (by decide)]; rfl
      obtain ⟨h'', f2, s2⟩ := ih (i + 1) (q_ns x) _ h' (some (.int (nI (q_hi (q_ns x) % 8)))) (by omega) g1 ex' (G_obd_in wf gi) (G_obd_pi wf gi gp)
      refine ⟨h'', (q_wk_mw w1 f1).tr f2, ?_⟩
      rw [if_neg c]
      simp only [e273_0, e273_1, e273_2, e273_5, e273_6, e273_7, e273_9, e273_12, e273_15, e273_16, e273_17, e273_20, e273_23, e273_25, e273_26, e273_27, e273_28, e273_31, e273_32, e273_36, e273_37, e273_40, e273_41, e273_43, e273_46, e273_48, e273_50, e273_51, e273_54, e273_55, e273_56, e273_57, e273_58, e273_61, e273_64, e273_65, e273_68, e273_69, e273_71, e273_72, e273_73, e273_74, e273_77, e273_78, e273_81, e273_84, e273_85, e273_87, e273_90, am_bd_some, Option.toList_some, Option.toList_none, List.cons_append, List.nil_append, am_w8_0, am_w8_1, am_w8_2, am_w8_3, am_w8_4, eq_self, or_true, true_or, am_kd_sI, am_kd_sL, am_kd_sR, am_tc_sI, am_tc_sL, am_tc_sR, am_len_sI, am_len_sL, am_len_sR, am_rfs, if_true, if_false, am_rdL_sI, am_rR_sL, am_rt_cq, am_kd_cq, am_tc_cq, am_len_cq, am_rd_sL, am_rd_sR, am_rdL_sR, h1, okK_211 ok, d8, c', s4, s1, nI_1]
      exact s2
def q_dwA (A : q_All) (a sd n wh : Int32) : Int32 := if (0 ≤ a ∧ a < nI (A.2.1 0)) ∧ (0 ≤ n ∧ n ≤ 60) then G_ans (A.2.2.1 a.toNatClampNeg) (G_dr (A.2.2.1 a.toNatClampNeg) n.toNatClampNeg sd (G_0 (A.2.2.1 a.toNatClampNeg))) wh else -2
theorem den_cdrawn {A : q_All} {h : am_H} (H : q_Rel A h) (a sd n wh : Int32) : ∃ h' : am_H, q_wk h h' ∧ am_den 124 [.ref 0, .int a, .int sd, .int n, .int wh] h = some (some (.int (q_dwA A a sd n wh)), h') := by
  have ok := H.1
  obtain ⟨c1, c2, c3⟩ := H.cnt 0 (by decide)
  have dh := den_has h ok 0 (by decide) (A.2.1 0) c1 c2 a
  rw [nI_0] at dh
  have y : ¬ (1 : Int32) = 0 := by decide
  show ∃ h' : am_H, q_wk h h' ∧ am_ev 124 0 [some (.ref 0), some (.int a), some (.int sd), some (.int n), some (.int wh), none, none, none] [] h = _
  unfold q_dwA
  by_cases ca : 0 ≤ a ∧ a < nI (A.2.1 0)
  · rw [if_pos ca] at dh
    by_cases cn : 0 ≤ n ∧ n ≤ 60
    · rw [if_pos ⟨ca, cn⟩]
      obtain ⟨i, hi, rfl⟩ := q_in2 c1 ca
      obtain ⟨k, hk, rfl⟩ := q_rg 60 (by decide) cn
      obtain ⟨fk, cF, -⟩ := H.fl i hi
      have wf := fk.wf
      have z : (nI i).toNatClampNeg = i := nI_clamp (by omega)
      have x : am_ix (nI i) 2 = true := am_ix_nI (by omega) (by decide)
      have zk : (nI k).toNatClampNeg = k := nI_clamp (by omega)
      have r := q_fo_ref ok i (by omega)
      have q178 : q_flk 178 := Or.inl rfl
      have n1 := Int32.not_lt.mpr cn.1
      have n2 := cn.2
      obtain ⟨h1, f1, g1, s1⟩ := den_begin h ok 178 (8 + 16 * i) q178 (by omega) _ wf cF
      have ok1 := f1.ok q178 ok
      obtain ⟨h2, f2, s2⟩ := q_dr_c (8 + 16 * i) _ wf k hk (nI i) sd wh k 0 sd (G_0 _) h1 none (by omega) ok1 g1 (G_0_in fk)
      rw [nI_0] at s2
      refine ⟨h2, (f1.tr f2.fb).wk q178 ok, ?_⟩
      rw [z, zk]
      simp only [e124_0, e124_1, e124_4, e124_5, e124_6, e124_9, e124_12, e124_13, e124_16, e124_17, e124_19, e124_22, e124_24, e124_25, e124_26, e124_29, e124_30, e124_33, e124_36, e124_37f, e124_37d, e124_37b, e124_37l, e124_37t, e124_38, e124_41, e124_42, e124_44, e124_45, e124_49, e124_50, e124_53, e124_55, e124_58, e124_60, e124_62, e124_64, e124_65, e124_67, e124_68, e124_70, e124_72, e124_73, e124_76, e124_78, e124_81, e124_83, e124_84, e124_87, e124_89, e124_91, e124_92, e124_93, e124_94, e124_97, e124_98, e124_101, e124_102, e124_105, e124_106, e124_108, e124_109, e124_110, e124_111, e124_114, e124_115, e124_118, e124_121, e124_122, e124_125, e124_127, e124_130, am_bd_some, Option.toList_some, Option.toList_none, List.cons_append, List.nil_append, am_w8_0, am_w8_1, am_w8_2, am_w8_3, am_w8_4, eq_self, or_true, true_or, am_kd_sI, am_kd_sL, am_kd_sR, am_tc_sI, am_tc_sL, am_tc_sR, am_len_sI, am_len_sL, am_len_sR, am_rfs, if_true, if_false, am_rdL_sI, am_rR_sL, am_rt_cq, am_kd_cq, am_tc_cq, am_len_cq, am_rd_sL, am_rd_sR, am_rdL_sR, okK_0 ok, okR_0_0 ok, okK_1 ok, okR_1_5 ok, okT_4 ok, okL_4 ok, okR_0_4 ok, okK_178 ok, dh, y, n1, n2, x, z, r, s1]
      exact s2
    · rw [if_neg (fun w => cn w.2)]
      refine ⟨h, q_wk.rf ok, ?_⟩
      by_cases n1 : n < 0
      · simp only [e124_0, e124_1, e124_4, e124_5, e124_6, e124_9, e124_12, e124_13, e124_16, e124_17, e124_19, e124_22, e124_24, e124_25, e124_26, e124_29, e124_30, e124_33, e124_36, e124_37f, e124_37d, e124_37b, e124_37l, e124_37t, e124_38, e124_41, e124_42, e124_44, e124_45, e124_49, e124_50, e124_53, e124_55, e124_58, e124_60, e124_62, e124_64, e124_65, e124_67, e124_68, e124_70, e124_72, e124_73, e124_76, e124_78, e124_81, e124_83, e124_84, e124_87, e124_89, e124_91, e124_92, e124_93, e124_94, e124_97, e124_98, e124_101, e124_102, e124_105, e124_106, e124_108, e124_109, e124_110, e124_111, e124_114, e124_115, e124_118, e124_121, e124_122, e124_125, e124_127, e124_130, am_bd_some, Option.toList_some, Option.toList_none, List.cons_append, List.nil_append, am_w8_0, am_w8_1, am_w8_2, am_w8_3, am_w8_4, eq_self, or_true, true_or, am_kd_sI, am_kd_sL, am_kd_sR, am_tc_sI, am_tc_sL, am_tc_sR, am_len_sI, am_len_sL, am_len_sR, am_rfs, if_true, if_false, am_rdL_sI, am_rR_sL, am_rt_cq, am_kd_cq, am_tc_cq, am_len_cq, am_rd_sL, am_rd_sR, am_rdL_sR, okK_0 ok, okR_0_0 ok, okK_1 ok, dh, y, n1]
      · have n2 : ¬ n ≤ 60 := fun w => cn ⟨Int32.not_lt.mp n1, w⟩
        simp only [e124_0, e124_1, e124_4, e124_5, e124_6, e124_9, e124_12, e124_13, e124_16, e124_17, e124_19, e124_22, e124_24, e124_25, e124_26, e124_29, e124_30, e124_33, e124_36, e124_37f, e124_37d, e124_37b, e124_37l, e124_37t, e124_38, e124_41, e124_42, e124_44, e124_45, e124_49, e124_50, e124_53, e124_55, e124_58, e124_60, e124_62, e124_64, e124_65, e124_67, e124_68, e124_70, e124_72, e124_73, e124_76, e124_78, e124_81, e124_83, e124_84, e124_87, e124_89, e124_91, e124_92, e124_93, e124_94, e124_97, e124_98, e124_101, e124_102, e124_105, e124_106, e124_108, e124_109, e124_110, e124_111, e124_114, e124_115, e124_118, e124_121, e124_122, e124_125, e124_127, e124_130, am_bd_some, Option.toList_some, Option.toList_none, List.cons_append, List.nil_append, am_w8_0, am_w8_1, am_w8_2, am_w8_3, am_w8_4, eq_self, or_true, true_or, am_kd_sI, am_kd_sL, am_kd_sR, am_tc_sI, am_tc_sL, am_tc_sR, am_len_sI, am_len_sL, am_len_sR, am_rfs, if_true, if_false, am_rdL_sI, am_rR_sL, am_rt_cq, am_kd_cq, am_tc_cq, am_len_cq, am_rd_sL, am_rd_sR, am_rdL_sR, okK_0 ok, okR_0_0 ok, okK_1 ok, dh, y, n1, n2]
  · rw [if_neg ca] at dh
    rw [if_neg (fun w => ca w.1)]
    refine ⟨h, q_wk.rf ok, ?_⟩
    simp only [e124_0, e124_1, e124_4, e124_5, e124_6, e124_9, e124_12, e124_13, e124_16, e124_17, e124_19, e124_22, e124_24, e124_25, e124_26, e124_29, e124_30, e124_33, e124_36, e124_37f, e124_37d, e124_37b, e124_37l, e124_37t, e124_38, e124_41, e124_42, e124_44, e124_45, e124_49, e124_50, e124_53, e124_55, e124_58, e124_60, e124_62, e124_64, e124_65, e124_67, e124_68, e124_70, e124_72, e124_73, e124_76, e124_78, e124_81, e124_83, e124_84, e124_87, e124_89, e124_91, e124_92, e124_93, e124_94, e124_97, e124_98, e124_101, e124_102, e124_105, e124_106, e124_108, e124_109, e124_110, e124_111, e124_114, e124_115, e124_118, e124_121, e124_122, e124_125, e124_127, e124_130, am_bd_some, Option.toList_some, Option.toList_none, List.cons_append, List.nil_append, am_w8_0, am_w8_1, am_w8_2, am_w8_3, am_w8_4, eq_self, or_true, true_or, am_kd_sI, am_kd_sL, am_kd_sR, am_tc_sI, am_tc_sL, am_tc_sR, am_len_sI, am_len_sL, am_len_sR, am_rfs, if_true, if_false, am_rdL_sI, am_rR_sL, am_rt_cq, am_kd_cq, am_tc_cq, am_len_cq, am_rd_sL, am_rd_sR, am_rdL_sR, okK_0 ok, okR_0_0 ok, okK_1 ok, dh]
theorem den_mdrawn {A : q_All} {h : am_H} (H : q_Rel A h) (a sd n wh : Int32) : ∃ h' : am_H, q_wk h h' ∧ am_den 273 [.ref 211, .int a, .int sd, .int n, .int wh] h = some (some (.int (q_dwA A a sd n wh)), h') := by
  have ok := H.1
  have h0 := H.2.1
  obtain ⟨c1, c2, c3⟩ := H.cnt 0 (by decide)
  have y : ¬ (1 : Int32) = 0 := by decide
  show ∃ h' : am_H, q_wk h h' ∧ am_ev 273 0 [some (.ref 211), some (.int a), some (.int sd), some (.int n), some (.int wh), none, none] [] h = _
  unfold q_dwA
  by_cases cn : 0 ≤ n ∧ n ≤ 60
  · by_cases ca : 0 ≤ a ∧ a < nI (A.2.1 0)
    · rw [if_pos ⟨ca, cn⟩]
      obtain ⟨i, hi, rfl⟩ := q_in2 c1 ca
      obtain ⟨k, hk, rfl⟩ := q_rg 60 (by decide) cn
      obtain ⟨fk, cF, fm⟩ := H.fl i hi
      have wf := fk.wf
      have z : (nI i).toNatClampNeg = i := nI_clamp (by omega)
      have zk : (nI k).toNatClampNeg = k := nI_clamp (by omega)
      obtain ⟨h1, f1, e24, g1, s1⟩ := den_hand1 h ok i (by omega) _ fk fm (A.2.1 0) c1 hi c3
      have ok1 := g1.1.1
      have w1 := f1.wk ok
      have w2 := w1.tr (q_wk1 ok1 55 (by decide) sd)
      obtain ⟨h2, f2, s2⟩ := q_dr_m _ wf k hk (nI i) sd wh k 0 sd (G_0 _) (am_sI h1 211 55 sd) none (by omega) (q_mg_seed g1 sd) rfl (G_0_in fk) (G_0_pi fk)
      rw [nI_0] at s2
      refine ⟨h2, w2.tr f2, ?_⟩
      rw [z, zk]
      simp only [e273_0, e273_1, e273_2, e273_5, e273_6, e273_7, e273_9, e273_12, e273_15, e273_16, e273_17, e273_20, e273_23, e273_25, e273_26, e273_27, e273_28, e273_31, e273_32, e273_36, e273_37, e273_40, e273_41, e273_43, e273_46, e273_48, e273_50, e273_51, e273_54, e273_55, e273_56, e273_57, e273_58, e273_61, e273_64, e273_65, e273_68, e273_69, e273_71, e273_72, e273_73, e273_74, e273_77, e273_78, e273_81, e273_84, e273_85, e273_87, e273_90, am_bd_some, Option.toList_some, Option.toList_none, List.cons_append, List.nil_append, am_w8_0, am_w8_1, am_w8_2, am_w8_3, am_w8_4, eq_self, or_true, true_or, am_kd_sI, am_kd_sL, am_kd_sR, am_tc_sI, am_tc_sL, am_tc_sR, am_len_sI, am_len_sL, am_len_sR, am_rfs, if_true, if_false, am_rdL_sI, am_rR_sL, am_rt_cq, am_kd_cq, am_tc_cq, am_len_cq, am_rd_sL, am_rd_sR, am_rdL_sR, okK_211 ok, am_sI_id h0, den_in, cn, and_self, y, s1, not_false_eq_true, okK_211 ok1]
      exact s2
    · rw [if_neg (fun w => ca w.1)]
      have s0 := den_hand0 h ok (A.2.1 0) c1 c3 a ca
      refine ⟨h, q_wk.rf ok, ?_⟩
      simp only [e273_0, e273_1, e273_2, e273_5, e273_6, e273_7, e273_9, e273_12, e273_15, e273_16, e273_17, e273_20, e273_23, e273_25, e273_26, e273_27, e273_28, e273_31, e273_32, e273_36, e273_37, e273_40, e273_41, e273_43, e273_46, e273_48, e273_50, e273_51, e273_54, e273_55, e273_56, e273_57, e273_58, e273_61, e273_64, e273_65, e273_68, e273_69, e273_71, e273_72, e273_73, e273_74, e273_77, e273_78, e273_81, e273_84, e273_85, e273_87, e273_90, am_bd_some, Option.toList_some, Option.toList_none, List.cons_append, List.nil_append, am_w8_0, am_w8_1, am_w8_2, am_w8_3, am_w8_4, eq_self, or_true, true_or, am_kd_sI, am_kd_sL, am_kd_sR, am_tc_sI, am_tc_sL, am_tc_sR, am_len_sI, am_len_sL, am_len_sR, am_rfs, if_true, if_false, am_rdL_sI, am_rR_sL, am_rt_cq, am_kd_cq, am_tc_cq, am_len_cq, am_rd_sL, am_rd_sR, am_rdL_sR, okK_211 ok, am_sI_id h0, den_in, cn, and_self, y, s0, not_true]
  · rw [if_neg (fun w => cn w.2)]
    refine ⟨h, q_wk.rf ok, ?_⟩
    simp only [e273_0, e273_1, e273_2, e273_5, e273_6, e273_7, e273_9, e273_12, e273_15, e273_16, e273_17, e273_20, e273_23, e273_25, e273_26, e273_27, e273_28, e273_31, e273_32, e273_36, e273_37, e273_40, e273_41, e273_43, e273_46, e273_48, e273_50, e273_51, e273_54, e273_55, e273_56, e273_57, e273_58, e273_61, e273_64, e273_65, e273_68, e273_69, e273_71, e273_72, e273_73, e273_74, e273_77, e273_78, e273_81, e273_84, e273_85, e273_87, e273_90, am_bd_some, Option.toList_some, Option.toList_none, List.cons_append, List.nil_append, am_w8_0, am_w8_1, am_w8_2, am_w8_3, am_w8_4, eq_self, or_true, true_or, am_kd_sI, am_kd_sL, am_kd_sR, am_tc_sI, am_tc_sL, am_tc_sR, am_len_sI, am_len_sL, am_len_sR, am_rfs, if_true, if_false, am_rdL_sI, am_rR_sL, am_rt_cq, am_kd_cq, am_tc_cq, am_len_cq, am_rd_sL, am_rd_sR, am_rdL_sR, okK_211 ok, am_sI_id h0, den_in, cn]
theorem ly_21 : ly_p21 := fun a sd n wh => pr_wk (fun A => q_dwA A a sd n wh) (fun A h H => den_cdrawn H a sd n wh) (fun A h H => den_mdrawn H a sd n wh)
