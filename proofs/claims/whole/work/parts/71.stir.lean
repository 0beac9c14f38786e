/-! part 71: stir: what is meant -/
theorem e110_0 {ls : List (Option Value)} {st : List Value} {h : am_H} {a : Nat} : am_ev 110 0 (some (.ref a) :: ls) (st) h = am_ev 110 1 (some (.ref a) :: ls) (.ref a :: st) h := am_ev_step (q := (1, some (.ref a) :: ls, .ref a :: st, h)) _ (.aload_n 0) 1 am_my_110 (by decide +kernel) rfl
theorem e110_1 {ls : List (Option Value)} {st : List Value} {h : am_H} {o : Nat} (hk : am_kd h o = some (.inl 10)) : am_ev 110 1 ls (.ref o :: st) h = am_ev 110 4 ls (va_rf (h.2.2.1 o 0) :: st) h := am_u_gfR (idx := 10) (wn := 2146) (a := 0) am_my_110 (by decide +kernel) (by decide +kernel) (by decide +kernel) hk
theorem e110_4 {ls : List (Option Value)} {st : List Value} {h : am_H} : am_ev 110 4 (ls) (st) h = am_ev 110 5 (ls) (.int (0) :: st) h := am_ev_step (q := (5, ls, .int (0) :: st, h)) _ (.iconst (0)) 1 am_my_110 (by decide +kernel) rfl
theorem e110_5 {ls : List (Option Value)} {st : List Value} {h : am_H} {l0 : Option Value} {a : Int32} : am_ev 110 5 (l0 :: some (.int a) :: ls) (st) h = am_ev 110 6 (l0 :: some (.int a) :: ls) (.int a :: st) h := am_ev_step (q := (6, l0 :: some (.int a) :: ls, .int a :: st, h)) _ (.iload_n 1) 1 am_my_110 (by decide +kernel) rfl
theorem e110_6 {ls : List (Option Value)} {st : List Value} {h : am_H} {p0 : Int32} {p1 : Int32} {o : Nat} (hw : am_w8 st ≤ 8) (hk : am_kd h o = some (.inl 8)) : am_ev 110 6 ls (.int p1 :: .int p0 :: .ref o :: st) h = am_bd (am_den 17 [.ref o, .int p0, .int p1] h) (fun v h1 => am_ev 110 9 ls (v.toList ++ st) h1) := am_u_cV (idx := 108) (wn := 2200) (as := [.int p0, .int p1]) am_my_110 (by decide +kernel) (Or.inl (by decide +kernel)) am_my_17 (by decide +kernel) rfl ⟨Nat.le_of_ble_eq_true rfl, rfl⟩ (by decide +kernel) hw hk
theorem e110_9 {ls : List (Option Value)} {st : List Value} {h : am_H} {a : Int32} : am_ev 110 9 ls (.int a :: st) h = if ¬ a = 0 then am_ev 110 14 ls st h else am_ev 110 12 ls st h := am_u_if1 (c := .ne) (off := 5) am_my_110 (by decide +kernel) (by decide)
theorem e110_12 {ls : List (Option Value)} {st : List Value} {h : am_H} : am_ev 110 12 (ls) (st) h = am_ev 110 13 (ls) (.int (-1) :: st) h := am_ev_step (q := (13, ls, .int (-1) :: st, h)) _ (.iconst (-1)) 1 am_my_110 (by decide +kernel) rfl
theorem e110_13 {ls : List (Option Value)} {h : am_H} {v : Int32} : am_ev 110 13 ls [.int v] h = some (some (.int v), h) := am_u_rtI am_my_110 (by decide +kernel) rfl
theorem e110_14 {ls : List (Option Value)} {st : List Value} {h : am_H} {a : Nat} : am_ev 110 14 (some (.ref a) :: ls) (st) h = am_ev 110 15 (some (.ref a) :: ls) (.ref a :: st) h := am_ev_step (q := (15, some (.ref a) :: ls, .ref a :: st, h)) _ (.aload_n 0) 1 am_my_110 (by decide +kernel) rfl
theorem e110_15 {ls : List (Option Value)} {st : List Value} {h : am_H} {o : Nat} (hk : am_kd h o = some (.inl 10)) : am_ev 110 15 ls (.ref o :: st) h = am_ev 110 18 ls (va_rf (h.2.2.1 o 0) :: st) h := am_u_gfR (idx := 10) (wn := 2146) (a := 0) am_my_110 (by decide +kernel) (by decide +kernel) (by decide +kernel) hk
theorem e110_18 {ls : List (Option Value)} {st : List Value} {h : am_H} {o : Nat} (hk : am_kd h o = some (.inl 8)) : am_ev 110 18 ls (.ref o :: st) h = am_ev 110 21 ls (va_rf (h.2.2.1 o 5) :: st) h := am_u_gfR (idx := 116) (wn := 1191) (a := 0) am_my_110 (by decide +kernel) (by decide +kernel) (by decide +kernel) hk
theorem e110_21 {ls : List (Option Value)} {st : List Value} {h : am_H} {l0 : Option Value} {a : Int32} : am_ev 110 21 (l0 :: some (.int a) :: ls) (st) h = am_ev 110 22 (l0 :: some (.int a) :: ls) (.int a :: st) h := am_ev_step (q := (22, l0 :: some (.int a) :: ls, .int a :: st, h)) _ (.iload_n 1) 1 am_my_110 (by decide +kernel) rfl
theorem e110_22f {ls : List (Option Value)} {st : List Value} {h : am_H} {i : Int32} {a : Nat} (ht : am_tc h a = some 4) : am_ev 110 22 ls (.int i :: .ref a :: st) h = if am_ix i (am_len h a) = true then am_ev 110 23 ls (va_rf (h.2.2.1 a i.toNatClampNeg) :: st) h else none := am_u_rA am_my_110 (by decide +kernel) ht (by decide)
theorem e110_22d {ls : List (Option Value)} {st : List Value} {h : am_H} {i : Int32} {a : Nat} (ht : am_tc h a = some 5) : am_ev 110 22 ls (.int i :: .ref a :: st) h = if am_ix i (am_len h a) = true then am_ev 110 23 ls (va_rf (h.2.2.1 a i.toNatClampNeg) :: st) h else none := am_u_rA am_my_110 (by decide +kernel) ht (by decide)
theorem e110_22b {ls : List (Option Value)} {st : List Value} {h : am_H} {i : Int32} {a : Nat} (ht : am_tc h a = some 6) : am_ev 110 22 ls (.int i :: .ref a :: st) h = if am_ix i (am_len h a) = true then am_ev 110 23 ls (va_rf (h.2.2.1 a i.toNatClampNeg) :: st) h else none := am_u_rA am_my_110 (by decide +kernel) ht (by decide)
theorem e110_22l {ls : List (Option Value)} {st : List Value} {h : am_H} {i : Int32} {a : Nat} (ht : am_tc h a = some 7) : am_ev 110 22 ls (.int i :: .ref a :: st) h = if am_ix i (am_len h a) = true then am_ev 110 23 ls (va_rf (h.2.2.1 a i.toNatClampNeg) :: st) h else none := am_u_rA am_my_110 (by decide +kernel) ht (by decide)
theorem e110_22t {ls : List (Option Value)} {st : List Value} {h : am_H} {i : Int32} {a : Nat} (ht : am_tc h a = some 8) : am_ev 110 22 ls (.int i :: .ref a :: st) h = if am_ix i (am_len h a) = true then am_ev 110 23 ls (va_rf (h.2.2.1 a i.toNatClampNeg) :: st) h else none := am_u_rA am_my_110 (by decide +kernel) ht (by decide)
theorem e110_23 {ls : List (Option Value)} {st : List Value} {h : am_H} {l0 l1 l2 : Option Value} {z : Option Value} {a : Nat} : am_ev 110 23 (l0 :: l1 :: l2 :: z :: ls) (.ref a :: st) h = am_ev 110 24 (l0 :: l1 :: l2 :: some (.ref a) :: ls) (st) h := am_ev_step (q := (24, l0 :: l1 :: l2 :: some (.ref a) :: ls, st, h)) _ (.astore_n 3) 1 am_my_110 (by decide +kernel) rfl
theorem e110_24 {ls : List (Option Value)} {st : List Value} {h : am_H} : am_ev 110 24 (ls) (st) h = am_ev 110 25 (ls) (.int (-1) :: st) h := am_ev_step (q := (25, ls, .int (-1) :: st, h)) _ (.iconst (-1)) 1 am_my_110 (by decide +kernel) rfl
theorem e110_25 {ls : List (Option Value)} {st : List Value} {h : am_H} {l0 l1 l2 l3 : Option Value} {z : Option Value} {a : Int32} : am_ev 110 25 (l0 :: l1 :: l2 :: l3 :: z :: ls) (.int a :: st) h = am_ev 110 27 (l0 :: l1 :: l2 :: l3 :: some (.int a) :: ls) (st) h := am_ev_step (q := (27, l0 :: l1 :: l2 :: l3 :: some (.int a) :: ls, st, h)) _ (.istore 4) 2 am_my_110 (by decide +kernel) rfl
theorem e110_27 {ls : List (Option Value)} {st : List Value} {h : am_H} : am_ev 110 27 (ls) (st) h = am_ev 110 28 (ls) (.int (-1) :: st) h := am_ev_step (q := (28, ls, .int (-1) :: st, h)) _ (.iconst (-1)) 1 am_my_110 (by decide +kernel) rfl
theorem e110_28 {ls : List (Option Value)} {st : List Value} {h : am_H} {l0 l1 l2 l3 l4 : Option Value} {z : Option Value} {a : Int32} : am_ev 110 28 (l0 :: l1 :: l2 :: l3 :: l4 :: z :: ls) (.int a :: st) h = am_ev 110 30 (l0 :: l1 :: l2 :: l3 :: l4 :: some (.int a) :: ls) (st) h := am_ev_step (q := (30, l0 :: l1 :: l2 :: l3 :: l4 :: some (.int a) :: ls, st, h)) _ (.istore 5) 2 am_my_110 (by decide +kernel) rfl
theorem e110_30 {ls : List (Option Value)} {st : List Value} {h : am_H} : am_ev 110 30 (ls) (st) h = am_ev 110 31 (ls) (.int (0) :: st) h := am_ev_step (q := (31, ls, .int (0) :: st, h)) _ (.iconst (0)) 1 am_my_110 (by decide +kernel) rfl
theorem e110_31 {ls : List (Option Value)} {st : List Value} {h : am_H} {l0 l1 l2 l3 l4 l5 : Option Value} {z : Option Value} {a : Int32} : am_ev 110 31 (l0 :: l1 :: l2 :: l3 :: l4 :: l5 :: z :: ls) (.int a :: st) h = am_ev 110 33 (l0 :: l1 :: l2 :: l3 :: l4 :: l5 :: some (.int a) :: ls) (st) h := am_ev_step (q := (33, l0 :: l1 :: l2 :: l3 :: l4 :: l5 :: some (.int a) :: ls, st, h)) _ (.istore 6) 2 am_my_110 (by decide +kernel) rfl
theorem e110_33 {ls : List (Option Value)} {st : List Value} {h : am_H} {l0 l1 l2 l3 l4 l5 : Option Value} {a : Int32} : am_ev 110 33 (l0 :: l1 :: l2 :: l3 :: l4 :: l5 :: some (.int a) :: ls) (st) h = am_ev 110 35 (l0 :: l1 :: l2 :: l3 :: l4 :: l5 :: some (.int a) :: ls) (.int a :: st) h := am_ev_step (q := (35, l0 :: l1 :: l2 :: l3 :: l4 :: l5 :: some (.int a) :: ls, .int a :: st, h)) _ (.iload 6) 2 am_my_110 (by decide +kernel) rfl
theorem e110_35 {ls : List (Option Value)} {st : List Value} {h : am_H} : am_ev 110 35 (ls) (st) h = am_ev 110 37 (ls) (.int (64) :: st) h := am_ev_step (q := (37, ls, .int (64) :: st, h)) _ (.bipush (64)) 2 am_my_110 (by decide +kernel) rfl
theorem e110_37 {ls : List (Option Value)} {st : List Value} {h : am_H} {a b : Int32} : am_ev 110 37 ls (.int b :: .int a :: st) h = if b ≤ a then am_ev 110 99 ls st h else am_ev 110 40 ls st h := am_u_if2 (c := .ge) (off := 62) am_my_110 (by decide +kernel) (by decide)
theorem e110_40 {ls : List (Option Value)} {st : List Value} {h : am_H} {l0 l1 l2 : Option Value} {a : Nat} : am_ev 110 40 (l0 :: l1 :: l2 :: some (.ref a) :: ls) (st) h = am_ev 110 41 (l0 :: l1 :: l2 :: some (.ref a) :: ls) (.ref a :: st) h := am_ev_step (q := (41, l0 :: l1 :: l2 :: some (.ref a) :: ls, .ref a :: st, h)) _ (.aload_n 3) 1 am_my_110 (by decide +kernel) rfl
theorem e110_41 {ls : List (Option Value)} {st : List Value} {h : am_H} {l0 l1 l2 l3 l4 l5 : Option Value} {a : Int32} : am_ev 110 41 (l0 :: l1 :: l2 :: l3 :: l4 :: l5 :: some (.int a) :: ls) (st) h = am_ev 110 43 (l0 :: l1 :: l2 :: l3 :: l4 :: l5 :: some (.int a) :: ls) (.int a :: st) h := am_ev_step (q := (43, l0 :: l1 :: l2 :: l3 :: l4 :: l5 :: some (.int a) :: ls, .int a :: st, h)) _ (.iload 6) 2 am_my_110 (by decide +kernel) rfl
theorem e110_43 {ls : List (Option Value)} {st : List Value} {h : am_H} {p0 : Int32} {o : Nat} (hw : am_w8 st ≤ 8) (hk : am_kd h o = some (.inl 3)) : am_ev 110 43 ls (.int p0 :: .ref o :: st) h = am_bd (am_den 94 [.ref o, .int p0] h) (fun v h1 => am_ev 110 46 ls (v.toList ++ st) h1) := am_u_cV (idx := 173) (wn := 4066) (as := [.int p0]) am_my_110 (by decide +kernel) (Or.inl (by decide +kernel)) am_my_94 (by decide +kernel) rfl ⟨Nat.le_of_ble_eq_true rfl, rfl⟩ (by decide +kernel) hw hk
theorem e110_46 {ls : List (Option Value)} {st : List Value} {h : am_H} {a : Int32} : am_ev 110 46 ls (.int a :: st) h = if ¬ a = 0 then am_ev 110 52 ls st h else am_ev 110 49 ls st h := am_u_if1 (c := .ne) (off := 6) am_my_110 (by decide +kernel) (by decide)
theorem e110_49 {ls : List (Option Value)} {st : List Value} {h : am_H} : am_ev 110 49 (ls) (st) h = am_ev 110 93 (ls) (st) h := am_ev_step (q := (93, ls, st, h)) _ (.goto (44)) 3 am_my_110 (by decide +kernel) rfl
theorem e110_52 {ls : List (Option Value)} {st : List Value} {h : am_H} {a : Nat} : am_ev 110 52 (some (.ref a) :: ls) (st) h = am_ev 110 53 (some (.ref a) :: ls) (.ref a :: st) h := am_ev_step (q := (53, some (.ref a) :: ls, .ref a :: st, h)) _ (.aload_n 0) 1 am_my_110 (by decide +kernel) rfl
theorem e110_53 {ls : List (Option Value)} {st : List Value} {h : am_H} {o : Nat} (hk : am_kd h o = some (.inl 10)) : am_ev 110 53 ls (.ref o :: st) h = am_ev 110 56 ls (va_rf (h.2.2.1 o 4) :: st) h := am_u_gfR (idx := 34) (wn := 2150) (a := 0) am_my_110 (by decide +kernel) (by decide +kernel) (by decide +kernel) hk
theorem e110_56 {ls : List (Option Value)} {st : List Value} {h : am_H} {l0 l1 l2 : Option Value} {a : Nat} : am_ev 110 56 (l0 :: l1 :: l2 :: some (.ref a) :: ls) (st) h = am_ev 110 57 (l0 :: l1 :: l2 :: some (.ref a) :: ls) (.ref a :: st) h := am_ev_step (q := (57, l0 :: l1 :: l2 :: some (.ref a) :: ls, .ref a :: st, h)) _ (.aload_n 3) 1 am_my_110 (by decide +kernel) rfl
theorem e110_57 {ls : List (Option Value)} {st : List Value} {h : am_H} {p0 : Nat} {o : Nat} (hw : am_w8 st ≤ 8) (hk : am_kd h o = some (.inl 4)) : am_ev 110 57 ls (.ref p0 :: .ref o :: st) h = am_bd (am_den 72 [.ref o, .ref p0] h) (fun v h1 => am_ev 110 60 ls (v.toList ++ st) h1) := am_u_cV (idx := 130) (wn := 3210) (as := [.ref p0]) am_my_110 (by decide +kernel) (Or.inl (by decide +kernel)) am_my_72 (by decide +kernel) rfl ⟨Nat.le_of_ble_eq_true rfl, rfl⟩ (by decide +kernel) hw hk
theorem e110_60 {ls : List (Option Value)} {st : List Value} {h : am_H} {a : Nat} : am_ev 110 60 (some (.ref a) :: ls) (st) h = am_ev 110 61 (some (.ref a) :: ls) (.ref a :: st) h := am_ev_step (q := (61, some (.ref a) :: ls, .ref a :: st, h)) _ (.aload_n 0) 1 am_my_110 (by decide +kernel) rfl
theorem e110_61 {ls : List (Option Value)} {st : List Value} {h : am_H} {o : Nat} (hk : am_kd h o = some (.inl 10)) : am_ev 110 61 ls (.ref o :: st) h = am_ev 110 64 ls (va_rf (h.2.2.1 o 4) :: st) h := am_u_gfR (idx := 34) (wn := 2150) (a := 0) am_my_110 (by decide +kernel) (by decide +kernel) (by decide +kernel) hk
theorem e110_64 {ls : List (Option Value)} {st : List Value} {h : am_H} {l0 l1 l2 l3 l4 l5 : Option Value} {a : Int32} : am_ev 110 64 (l0 :: l1 :: l2 :: l3 :: l4 :: l5 :: some (.int a) :: ls) (st) h = am_ev 110 66 (l0 :: l1 :: l2 :: l3 :: l4 :: l5 :: some (.int a) :: ls) (.int a :: st) h := am_ev_step (q := (66, l0 :: l1 :: l2 :: l3 :: l4 :: l5 :: some (.int a) :: ls, .int a :: st, h)) _ (.iload 6) 2 am_my_110 (by decide +kernel) rfl
theorem e110_66 {ls : List (Option Value)} {st : List Value} {h : am_H} {o : Nat} {v : Int32} (hk : am_kd h o = some (.inl 4)) : am_ev 110 66 ls (.int v :: .ref o :: st) h = am_ev 110 69 ls st (am_sI h o 1 v) := am_u_pfI (idx := 176) (wn := 2050) am_my_110 (by decide +kernel) (by decide +kernel) (by decide +kernel) (by decide +kernel) hk
theorem e110_69 {ls : List (Option Value)} {st : List Value} {h : am_H} {a : Nat} : am_ev 110 69 (some (.ref a) :: ls) (st) h = am_ev 110 70 (some (.ref a) :: ls) (.ref a :: st) h := am_ev_step (q := (70, some (.ref a) :: ls, .ref a :: st, h)) _ (.aload_n 0) 1 am_my_110 (by decide +kernel) rfl
theorem e110_70 {ls : List (Option Value)} {st : List Value} {h : am_H} {o : Nat} (hk : am_kd h o = some (.inl 10)) : am_ev 110 70 ls (.ref o :: st) h = am_ev 110 73 ls (va_rf (h.2.2.1 o 4) :: st) h := am_u_gfR (idx := 34) (wn := 2150) (a := 0) am_my_110 (by decide +kernel) (by decide +kernel) (by decide +kernel) hk
theorem e110_73 {ls : List (Option Value)} {st : List Value} {h : am_H}  {o : Nat} (hw : am_w8 st ≤ 8) (hk : am_kd h o = some (.inl 4)) : am_ev 110 73 ls (.ref o :: st) h = am_bd (am_den 109 [.ref o] h) (fun v h1 => am_ev 110 76 ls (v.toList ++ st) h1) := am_u_cV (idx := 227) (wn := 4142) (as := []) am_my_110 (by decide +kernel) (Or.inl (by decide +kernel)) am_my_109 (by decide +kernel) rfl ⟨Nat.le_of_ble_eq_true rfl, rfl⟩ (by decide +kernel) hw hk
theorem e110_76 {ls : List (Option Value)} {st : List Value} {h : am_H} {l0 l1 l2 l3 l4 l5 l6 : Option Value} {z : Option Value} {a : Int32} : am_ev 110 76 (l0 :: l1 :: l2 :: l3 :: l4 :: l5 :: l6 :: z :: ls) (.int a :: st) h = am_ev 110 78 (l0 :: l1 :: l2 :: l3 :: l4 :: l5 :: l6 :: some (.int a) :: ls) (st) h := am_ev_step (q := (78, l0 :: l1 :: l2 :: l3 :: l4 :: l5 :: l6 :: some (.int a) :: ls, st, h)) _ (.istore 7) 2 am_my_110 (by decide +kernel) rfl
theorem e110_78 {ls : List (Option Value)} {st : List Value} {h : am_H} {l0 l1 l2 l3 l4 l5 l6 : Option Value} {a : Int32} : am_ev 110 78 (l0 :: l1 :: l2 :: l3 :: l4 :: l5 :: l6 :: some (.int a) :: ls) (st) h = am_ev 110 80 (l0 :: l1 :: l2 :: l3 :: l4 :: l5 :: l6 :: some (.int a) :: ls) (.int a :: st) h := am_ev_step (q := (80, l0 :: l1 :: l2 :: l3 :: l4 :: l5 :: l6 :: some (.int a) :: ls, .int a :: st, h)) _ (.iload 7) 2 am_my_110 (by decide +kernel) rfl
theorem e110_80 {ls : List (Option Value)} {st : List Value} {h : am_H} {l0 l1 l2 l3 l4 : Option Value} {a : Int32} : am_ev 110 80 (l0 :: l1 :: l2 :: l3 :: l4 :: some (.int a) :: ls) (st) h = am_ev 110 82 (l0 :: l1 :: l2 :: l3 :: l4 :: some (.int a) :: ls) (.int a :: st) h := am_ev_step (q := (82, l0 :: l1 :: l2 :: l3 :: l4 :: some (.int a) :: ls, .int a :: st, h)) _ (.iload 5) 2 am_my_110 (by decide +kernel) rfl
theorem e110_82 {ls : List (Option Value)} {st : List Value} {h : am_H} {a b : Int32} : am_ev 110 82 ls (.int b :: .int a :: st) h = if a ≤ b then am_ev 110 93 ls st h else am_ev 110 85 ls st h := am_u_if2 (c := .le) (off := 11) am_my_110 (by decide +kernel) (by decide)
theorem e110_85 {ls : List (Option Value)} {st : List Value} {h : am_H} {l0 l1 l2 l3 l4 l5 : Option Value} {a : Int32} : am_ev 110 85 (l0 :: l1 :: l2 :: l3 :: l4 :: l5 :: some (.int a) :: ls) (st) h = am_ev 110 87 (l0 :: l1 :: l2 :: l3 :: l4 :: l5 :: some (.int a) :: ls) (.int a :: st) h := am_ev_step (q := (87, l0 :: l1 :: l2 :: l3 :: l4 :: l5 :: some (.int a) :: ls, .int a :: st, h)) _ (.iload 6) 2 am_my_110 (by decide +kernel) rfl
theorem e110_87 {ls : List (Option Value)} {st : List Value} {h : am_H} {l0 l1 l2 l3 : Option Value} {z : Option Value} {a : Int32} : am_ev 110 87 (l0 :: l1 :: l2 :: l3 :: z :: ls) (.int a :: st) h = am_ev 110 89 (l0 :: l1 :: l2 :: l3 :: some (.int a) :: ls) (st) h := am_ev_step (q := (89, l0 :: l1 :: l2 :: l3 :: some (.int a) :: ls, st, h)) _ (.istore 4) 2 am_my_110 (by decide +kernel) rfl
theorem e110_89 {ls : List (Option Value)} {st : List Value} {h : am_H} {l0 l1 l2 l3 l4 l5 l6 : Option Value} {a : Int32} : am_ev 110 89 (l0 :: l1 :: l2 :: l3 :: l4 :: l5 :: l6 :: some (.int a) :: ls) (st) h = am_ev 110 91 (l0 :: l1 :: l2 :: l3 :: l4 :: l5 :: l6 :: some (.int a) :: ls) (.int a :: st) h := am_ev_step (q := (91, l0 :: l1 :: l2 :: l3 :: l4 :: l5 :: l6 :: some (.int a) :: ls, .int a :: st, h)) _ (.iload 7) 2 am_my_110 (by decide +kernel) rfl
theorem e110_91 {ls : List (Option Value)} {st : List Value} {h : am_H} {l0 l1 l2 l3 l4 : Option Value} {z : Option Value} {a : Int32} : am_ev 110 91 (l0 :: l1 :: l2 :: l3 :: l4 :: z :: ls) (.int a :: st) h = am_ev 110 93 (l0 :: l1 :: l2 :: l3 :: l4 :: some (.int a) :: ls) (st) h := am_ev_step (q := (93, l0 :: l1 :: l2 :: l3 :: l4 :: some (.int a) :: ls, st, h)) _ (.istore 5) 2 am_my_110 (by decide +kernel) rfl
theorem e110_93 {ls : List (Option Value)} {st : List Value} {h : am_H} {l0 l1 l2 l3 l4 l5 : Option Value} {a : Int32} : am_ev 110 93 (l0 :: l1 :: l2 :: l3 :: l4 :: l5 :: some (.int a) :: ls) (st) h = am_ev 110 96 (l0 :: l1 :: l2 :: l3 :: l4 :: l5 :: some (.int (a + (1))) :: ls) (st) h := am_ev_step (q := (96, l0 :: l1 :: l2 :: l3 :: l4 :: l5 :: some (.int (a + (1))) :: ls, st, h)) _ (.iinc 6 (1)) 3 am_my_110 (by decide +kernel) rfl
theorem e110_96 {ls : List (Option Value)} {st : List Value} {h : am_H} : am_ev 110 96 (ls) (st) h = am_ev 110 33 (ls) (st) h := am_ev_step (q := (33, ls, st, h)) _ (.goto (-63)) 3 am_my_110 (by decide +kernel) rfl
theorem e110_99 {ls : List (Option Value)} {st : List Value} {h : am_H} {l0 l1 : Option Value} {a : Int32} : am_ev 110 99 (l0 :: l1 :: some (.int a) :: ls) (st) h = am_ev 110 100 (l0 :: l1 :: some (.int a) :: ls) (.int a :: st) h := am_ev_step (q := (100, l0 :: l1 :: some (.int a) :: ls, .int a :: st, h)) _ (.iload_n 2) 1 am_my_110 (by decide +kernel) rfl
theorem e110_100 {ls : List (Option Value)} {st : List Value} {h : am_H} {a : Int32} : am_ev 110 100 ls (.int a :: st) h = if a = 0 then am_ev 110 108 ls st h else am_ev 110 103 ls st h := am_u_if1 (c := .eq) (off := 8) am_my_110 (by decide +kernel) (by decide)
theorem e110_103 {ls : List (Option Value)} {st : List Value} {h : am_H} {l0 l1 l2 l3 l4 : Option Value} {a : Int32} : am_ev 110 103 (l0 :: l1 :: l2 :: l3 :: l4 :: some (.int a) :: ls) (st) h = am_ev 110 105 (l0 :: l1 :: l2 :: l3 :: l4 :: some (.int a) :: ls) (.int a :: st) h := am_ev_step (q := (105, l0 :: l1 :: l2 :: l3 :: l4 :: some (.int a) :: ls, .int a :: st, h)) _ (.iload 5) 2 am_my_110 (by decide +kernel) rfl
theorem e110_105 {ls : List (Option Value)} {st : List Value} {h : am_H} : am_ev 110 105 (ls) (st) h = am_ev 110 114 (ls) (st) h := am_ev_step (q := (114, ls, st, h)) _ (.goto (9)) 3 am_my_110 (by decide +kernel) rfl
theorem e110_108 {ls : List (Option Value)} {st : List Value} {h : am_H} {l0 l1 l2 : Option Value} {a : Nat} : am_ev 110 108 (l0 :: l1 :: l2 :: some (.ref a) :: ls) (st) h = am_ev 110 109 (l0 :: l1 :: l2 :: some (.ref a) :: ls) (.ref a :: st) h := am_ev_step (q := (109, l0 :: l1 :: l2 :: some (.ref a) :: ls, .ref a :: st, h)) _ (.aload_n 3) 1 am_my_110 (by decide +kernel) rfl
theorem e110_109 {ls : List (Option Value)} {st : List Value} {h : am_H} {l0 l1 l2 l3 : Option Value} {a : Int32} : am_ev 110 109 (l0 :: l1 :: l2 :: l3 :: some (.int a) :: ls) (st) h = am_ev 110 111 (l0 :: l1 :: l2 :: l3 :: some (.int a) :: ls) (.int a :: st) h := am_ev_step (q := (111, l0 :: l1 :: l2 :: l3 :: some (.int a) :: ls, .int a :: st, h)) _ (.iload 4) 2 am_my_110 (by decide +kernel) rfl
theorem e110_111 {ls : List (Option Value)} {st : List Value} {h : am_H} {p0 : Int32} {o : Nat} (hw : am_w8 st ≤ 8) (hk : am_kd h o = some (.inl 3)) : am_ev 110 111 ls (.int p0 :: .ref o :: st) h = am_bd (am_den 67 [.ref o, .int p0] h) (fun v h1 => am_ev 110 114 ls (v.toList ++ st) h1) := am_u_cV (idx := 141) (wn := 4012) (as := [.int p0]) am_my_110 (by decide +kernel) (Or.inl (by decide +kernel)) am_my_67 (by decide +kernel) rfl ⟨Nat.le_of_ble_eq_true rfl, rfl⟩ (by decide +kernel) hw hk
theorem e110_114 {ls : List (Option Value)} {h : am_H} {v : Int32} : am_ev 110 114 ls [.int v] h = some (some (.int v), h) := am_u_rtI am_my_110 (by decide +kernel) rfl
theorem e287_0 {ls : List (Option Value)} {st : List Value} {h : am_H} {a : Nat} : am_ev 287 0 (some (.ref a) :: ls) (st) h = am_ev 287 1 (some (.ref a) :: ls) (.ref a :: st) h := am_ev_step (q := (1, some (.ref a) :: ls, .ref a :: st, h)) _ (.aload_n 0) 1 am_my_287 (by decide +kernel) rfl
theorem e287_1 {ls : List (Option Value)} {st : List Value} {h : am_H} : am_ev 287 1 (ls) (st) h = am_ev 287 2 (ls) (.int (0) :: st) h := am_ev_step (q := (2, ls, .int (0) :: st, h)) _ (.iconst (0)) 1 am_my_287 (by decide +kernel) rfl
theorem e287_2 {ls : List (Option Value)} {st : List Value} {h : am_H} {o : Nat} {v : Int32} (hk : am_kd h o = some (.inl 11)) : am_ev 287 2 ls (.int v :: .ref o :: st) h = am_ev 287 5 ls st (am_sI h o 0 v) := am_u_pfI (idx := 87) (wn := 5132) am_my_287 (by decide +kernel) (by decide +kernel) (by decide +kernel) (by decide +kernel) hk
theorem e287_5 {ls : List (Option Value)} {st : List Value} {h : am_H} {a : Nat} : am_ev 287 5 (some (.ref a) :: ls) (st) h = am_ev 287 6 (some (.ref a) :: ls) (.ref a :: st) h := am_ev_step (q := (6, some (.ref a) :: ls, .ref a :: st, h)) _ (.aload_n 0) 1 am_my_287 (by decide +kernel) rfl
theorem e287_6 {ls : List (Option Value)} {st : List Value} {h : am_H} {l0 : Option Value} {a : Int32} : am_ev 287 6 (l0 :: some (.int a) :: ls) (st) h = am_ev 287 7 (l0 :: some (.int a) :: ls) (.int a :: st) h := am_ev_step (q := (7, l0 :: some (.int a) :: ls, .int a :: st, h)) _ (.iload_n 1) 1 am_my_287 (by decide +kernel) rfl
theorem e287_7 {ls : List (Option Value)} {st : List Value} {h : am_H} {p0 : Int32} {o : Nat} (hw : am_w8 st ≤ 8) (hk : am_kd h o = some (.inl 11)) : am_ev 287 7 ls (.int p0 :: .ref o :: st) h = am_bd (am_den 201 [.ref o, .int p0] h) (fun v h1 => am_ev 287 10 ls (v.toList ++ st) h1) := am_u_cV (idx := 339) (wn := 6230) (as := [.int p0]) am_my_287 (by decide +kernel) (Or.inl (by decide +kernel)) am_my_201 (by decide +kernel) rfl ⟨Nat.le_of_ble_eq_true rfl, rfl⟩ (by decide +kernel) hw hk
theorem e287_10 {ls : List (Option Value)} {st : List Value} {h : am_H} {a : Int32} : am_ev 287 10 ls (.int a :: st) h = if ¬ a = 0 then am_ev 287 15 ls st h else am_ev 287 13 ls st h := am_u_if1 (c := .ne) (off := 5) am_my_287 (by decide +kernel) (by decide)
theorem e287_13 {ls : List (Option Value)} {st : List Value} {h : am_H} : am_ev 287 13 (ls) (st) h = am_ev 287 14 (ls) (.int (-1) :: st) h := am_ev_step (q := (14, ls, .int (-1) :: st, h)) _ (.iconst (-1)) 1 am_my_287 (by decide +kernel) rfl
theorem e287_14 {ls : List (Option Value)} {h : am_H} {v : Int32} : am_ev 287 14 ls [.int v] h = some (some (.int v), h) := am_u_rtI am_my_287 (by decide +kernel) rfl
theorem e287_15 {ls : List (Option Value)} {st : List Value} {h : am_H} : am_ev 287 15 (ls) (st) h = am_ev 287 16 (ls) (.int (-1) :: st) h := am_ev_step (q := (16, ls, .int (-1) :: st, h)) _ (.iconst (-1)) 1 am_my_287 (by decide +kernel) rfl
theorem e287_16 {ls : List (Option Value)} {st : List Value} {h : am_H} {l0 l1 l2 : Option Value} {z : Option Value} {a : Int32} : am_ev 287 16 (l0 :: l1 :: l2 :: z :: ls) (.int a :: st) h = am_ev 287 17 (l0 :: l1 :: l2 :: some (.int a) :: ls) (st) h := am_ev_step (q := (17, l0 :: l1 :: l2 :: some (.int a) :: ls, st, h)) _ (.istore_n 3) 1 am_my_287 (by decide +kernel) rfl
theorem e287_17 {ls : List (Option Value)} {st : List Value} {h : am_H} : am_ev 287 17 (ls) (st) h = am_ev 287 18 (ls) (.int (-1) :: st) h := am_ev_step (q := (18, ls, .int (-1) :: st, h)) _ (.iconst (-1)) 1 am_my_287 (by decide +kernel) rfl
theorem e287_18 {ls : List (Option Value)} {st : List Value} {h : am_H} {l0 l1 l2 l3 : Option Value} {z : Option Value} {a : Int32} : am_ev 287 18 (l0 :: l1 :: l2 :: l3 :: z :: ls) (.int a :: st) h = am_ev 287 20 (l0 :: l1 :: l2 :: l3 :: some (.int a) :: ls) (st) h := am_ev_step (q := (20, l0 :: l1 :: l2 :: l3 :: some (.int a) :: ls, st, h)) _ (.istore 4) 2 am_my_287 (by decide +kernel) rfl
theorem e287_20 {ls : List (Option Value)} {st : List Value} {h : am_H} {a : Nat} : am_ev 287 20 (some (.ref a) :: ls) (st) h = am_ev 287 21 (some (.ref a) :: ls) (.ref a :: st) h := am_ev_step (q := (21, some (.ref a) :: ls, .ref a :: st, h)) _ (.aload_n 0) 1 am_my_287 (by decide +kernel) rfl
theorem e287_21 {ls : List (Option Value)} {st : List Value} {h : am_H}  {o : Nat} (hw : am_w8 st ≤ 8) (hk : am_kd h o = some (.inl 11)) : am_ev 287 21 ls (.ref o :: st) h = am_bd (am_den 281 [.ref o] h) (fun v h1 => am_ev 287 24 ls (v.toList ++ st) h1) := am_u_cV (idx := 524) (wn := 8066) (as := []) am_my_287 (by decide +kernel) (Or.inl (by decide +kernel)) am_my_281 (by decide +kernel) rfl ⟨Nat.le_of_ble_eq_true rfl, rfl⟩ (by decide +kernel) hw hk
theorem e287_24 {ls : List (Option Value)} {st : List Value} {h : am_H} : am_ev 287 24 (ls) (st) h = am_ev 287 25 (ls) (.int (0) :: st) h := am_ev_step (q := (25, ls, .int (0) :: st, h)) _ (.iconst (0)) 1 am_my_287 (by decide +kernel) rfl
theorem e287_25 {ls : List (Option Value)} {st : List Value} {h : am_H} {l0 l1 l2 l3 l4 : Option Value} {z : Option Value} {a : Int32} : am_ev 287 25 (l0 :: l1 :: l2 :: l3 :: l4 :: z :: ls) (.int a :: st) h = am_ev 287 27 (l0 :: l1 :: l2 :: l3 :: l4 :: some (.int a) :: ls) (st) h := am_ev_step (q := (27, l0 :: l1 :: l2 :: l3 :: l4 :: some (.int a) :: ls, st, h)) _ (.istore 5) 2 am_my_287 (by decide +kernel) rfl
theorem e287_27 {ls : List (Option Value)} {st : List Value} {h : am_H} {l0 l1 l2 l3 l4 : Option Value} {a : Int32} : am_ev 287 27 (l0 :: l1 :: l2 :: l3 :: l4 :: some (.int a) :: ls) (st) h = am_ev 287 29 (l0 :: l1 :: l2 :: l3 :: l4 :: some (.int a) :: ls) (.int a :: st) h := am_ev_step (q := (29, l0 :: l1 :: l2 :: l3 :: l4 :: some (.int a) :: ls, .int a :: st, h)) _ (.iload 5) 2 am_my_287 (by decide +kernel) rfl
theorem e287_29 {ls : List (Option Value)} {st : List Value} {h : am_H} {a : Nat} : am_ev 287 29 (some (.ref a) :: ls) (st) h = am_ev 287 30 (some (.ref a) :: ls) (.ref a :: st) h := am_ev_step (q := (30, some (.ref a) :: ls, .ref a :: st, h)) _ (.aload_n 0) 1 am_my_287 (by decide +kernel) rfl
theorem e287_30 {ls : List (Option Value)} {st : List Value} {h : am_H} {o : Nat} (hk : am_kd h o = some (.inl 11)) : am_ev 287 30 ls (.ref o :: st) h = am_ev 287 33 ls (.int (h.1 o 26) :: st) h := am_u_gfI (idx := 288) (wn := 5158) am_my_287 (by decide +kernel) (by decide +kernel) (by decide +kernel) hk
theorem e287_33 {ls : List (Option Value)} {st : List Value} {h : am_H} {a b : Int32} : am_ev 287 33 ls (.int b :: .int a :: st) h = if b ≤ a then am_ev 287 136 ls st h else am_ev 287 36 ls st h := am_u_if2 (c := .ge) (off := 103) am_my_287 (by decide +kernel) (by decide)
theorem e287_36 {ls : List (Option Value)} {st : List Value} {h : am_H} {a : Nat} : am_ev 287 36 (some (.ref a) :: ls) (st) h = am_ev 287 37 (some (.ref a) :: ls) (.ref a :: st) h := am_ev_step (q := (37, some (.ref a) :: ls, .ref a :: st, h)) _ (.aload_n 0) 1 am_my_287 (by decide +kernel) rfl
theorem e287_37 {ls : List (Option Value)} {st : List Value} {h : am_H} {l0 l1 l2 l3 l4 : Option Value} {a : Int32} : am_ev 287 37 (l0 :: l1 :: l2 :: l3 :: l4 :: some (.int a) :: ls) (st) h = am_ev 287 39 (l0 :: l1 :: l2 :: l3 :: l4 :: some (.int a) :: ls) (.int a :: st) h := am_ev_step (q := (39, l0 :: l1 :: l2 :: l3 :: l4 :: some (.int a) :: ls, .int a :: st, h)) _ (.iload 5) 2 am_my_287 (by decide +kernel) rfl
theorem e287_39 {ls : List (Option Value)} {st : List Value} {h : am_H} {p0 : Int32} {o : Nat} (hw : am_w8 st ≤ 8) (hk : am_kd h o = some (.inl 11)) : am_ev 287 39 ls (.int p0 :: .ref o :: st) h = am_bd (am_den 214 [.ref o, .int p0] h) (fun v h1 => am_ev 287 42 ls (v.toList ++ st) h1) := am_u_cV (idx := 357) (wn := 7042) (as := [.int p0]) am_my_287 (by decide +kernel) (Or.inl (by decide +kernel)) am_my_214 (by decide +kernel) rfl ⟨Nat.le_of_ble_eq_true rfl, rfl⟩ (by decide +kernel) hw hk
theorem e287_42 {ls : List (Option Value)} {st : List Value} {h : am_H} {a : Int32} : am_ev 287 42 ls (.int a :: st) h = if a = 0 then am_ev 287 130 ls st h else am_ev 287 45 ls st h := am_u_if1 (c := .eq) (off := 88) am_my_287 (by decide +kernel) (by decide)
theorem e287_45 {ls : List (Option Value)} {st : List Value} {h : am_H} {a : Nat} : am_ev 287 45 (some (.ref a) :: ls) (st) h = am_ev 287 46 (some (.ref a) :: ls) (.ref a :: st) h := am_ev_step (q := (46, some (.ref a) :: ls, .ref a :: st, h)) _ (.aload_n 0) 1 am_my_287 (by decide +kernel) rfl
theorem e287_46 {ls : List (Option Value)} {st : List Value} {h : am_H} {l0 l1 l2 l3 l4 : Option Value} {a : Int32} : am_ev 287 46 (l0 :: l1 :: l2 :: l3 :: l4 :: some (.int a) :: ls) (st) h = am_ev 287 48 (l0 :: l1 :: l2 :: l3 :: l4 :: some (.int a) :: ls) (.int a :: st) h := am_ev_step (q := (48, l0 :: l1 :: l2 :: l3 :: l4 :: some (.int a) :: ls, .int a :: st, h)) _ (.iload 5) 2 am_my_287 (by decide +kernel) rfl
theorem e287_48 {ls : List (Option Value)} {st : List Value} {h : am_H} {o : Nat} {v : Int32} (hk : am_kd h o = some (.inl 11)) : am_ev 287 48 ls (.int v :: .ref o :: st) h = am_ev 287 51 ls st (am_sI h o 28 v) := am_u_pfI (idx := 294) (wn := 5160) am_my_287 (by decide +kernel) (by decide +kernel) (by decide +kernel) (by decide +kernel) hk
theorem e287_51 {ls : List (Option Value)} {st : List Value} {h : am_H} {a : Nat} : am_ev 287 51 (some (.ref a) :: ls) (st) h = am_ev 287 52 (some (.ref a) :: ls) (.ref a :: st) h := am_ev_step (q := (52, some (.ref a) :: ls, .ref a :: st, h)) _ (.aload_n 0) 1 am_my_287 (by decide +kernel) rfl
theorem e287_52 {ls : List (Option Value)} {st : List Value} {h : am_H}  {o : Nat} (hw : am_w8 st ≤ 8) (hk : am_kd h o = some (.inl 11)) : am_ev 287 52 ls (.ref o :: st) h = am_bd (am_den 217 [.ref o] h) (fun v h1 => am_ev 287 55 ls (v.toList ++ st) h1) := am_u_cV (idx := 367) (wn := 7054) (as := []) am_my_287 (by decide +kernel) (Or.inl (by decide +kernel)) am_my_217 (by decide +kernel) rfl ⟨Nat.le_of_ble_eq_true rfl, rfl⟩ (by decide +kernel) hw hk
theorem e287_55 {ls : List (Option Value)} {st : List Value} {h : am_H} : am_ev 287 55 (ls) (st) h = am_ev 287 56 (ls) (.int (0) :: st) h := am_ev_step (q := (56, ls, .int (0) :: st, h)) _ (.iconst (0)) 1 am_my_287 (by decide +kernel) rfl
theorem e287_56 {ls : List (Option Value)} {st : List Value} {h : am_H} {l0 l1 l2 l3 l4 l5 : Option Value} {z : Option Value} {a : Int32} : am_ev 287 56 (l0 :: l1 :: l2 :: l3 :: l4 :: l5 :: z :: ls) (.int a :: st) h = am_ev 287 58 (l0 :: l1 :: l2 :: l3 :: l4 :: l5 :: some (.int a) :: ls) (st) h := am_ev_step (q := (58, l0 :: l1 :: l2 :: l3 :: l4 :: l5 :: some (.int a) :: ls, st, h)) _ (.istore 6) 2 am_my_287 (by decide +kernel) rfl
theorem e287_58 {ls : List (Option Value)} {st : List Value} {h : am_H} : am_ev 287 58 (ls) (st) h = am_ev 287 59 (ls) (.int (0) :: st) h := am_ev_step (q := (59, ls, .int (0) :: st, h)) _ (.iconst (0)) 1 am_my_287 (by decide +kernel) rfl
theorem e287_59 {ls : List (Option Value)} {st : List Value} {h : am_H} {l0 l1 l2 l3 l4 l5 l6 : Option Value} {z : Option Value} {a : Int32} : am_ev 287 59 (l0 :: l1 :: l2 :: l3 :: l4 :: l5 :: l6 :: z :: ls) (.int a :: st) h = am_ev 287 61 (l0 :: l1 :: l2 :: l3 :: l4 :: l5 :: l6 :: some (.int a) :: ls) (st) h := am_ev_step (q := (61, l0 :: l1 :: l2 :: l3 :: l4 :: l5 :: l6 :: some (.int a) :: ls, st, h)) _ (.istore 7) 2 am_my_287 (by decide +kernel) rfl
theorem e287_61 {ls : List (Option Value)} {st : List Value} {h : am_H} {l0 l1 l2 l3 l4 l5 l6 : Option Value} {a : Int32} : am_ev 287 61 (l0 :: l1 :: l2 :: l3 :: l4 :: l5 :: l6 :: some (.int a) :: ls) (st) h = am_ev 287 63 (l0 :: l1 :: l2 :: l3 :: l4 :: l5 :: l6 :: some (.int a) :: ls) (.int a :: st) h := am_ev_step (q := (63, l0 :: l1 :: l2 :: l3 :: l4 :: l5 :: l6 :: some (.int a) :: ls, .int a :: st, h)) _ (.iload 7) 2 am_my_287 (by decide +kernel) rfl
theorem e287_63 {ls : List (Option Value)} {st : List Value} {h : am_H} {a : Nat} : am_ev 287 63 (some (.ref a) :: ls) (st) h = am_ev 287 64 (some (.ref a) :: ls) (.ref a :: st) h := am_ev_step (q := (64, some (.ref a) :: ls, .ref a :: st, h)) _ (.aload_n 0) 1 am_my_287 (by decide +kernel) rfl
theorem e287_64 {ls : List (Option Value)} {st : List Value} {h : am_H} {o : Nat} (hk : am_kd h o = some (.inl 11)) : am_ev 287 64 ls (.ref o :: st) h = am_ev 287 67 ls (.int (h.1 o 30) :: st) h := am_u_gfI (idx := 300) (wn := 5162) am_my_287 (by decide +kernel) (by decide +kernel) (by decide +kernel) hk
theorem e287_67 {ls : List (Option Value)} {st : List Value} {h : am_H} {a b : Int32} : am_ev 287 67 ls (.int b :: .int a :: st) h = if b ≤ a then am_ev 287 103 ls st h else am_ev 287 70 ls st h := am_u_if2 (c := .ge) (off := 36) am_my_287 (by decide +kernel) (by decide)
theorem e287_70 {ls : List (Option Value)} {st : List Value} {h : am_H} {l0 l1 l2 l3 l4 l5 : Option Value} {a : Int32} : am_ev 287 70 (l0 :: l1 :: l2 :: l3 :: l4 :: l5 :: some (.int a) :: ls) (st) h = am_ev 287 72 (l0 :: l1 :: l2 :: l3 :: l4 :: l5 :: some (.int a) :: ls) (.int a :: st) h := am_ev_step (q := (72, l0 :: l1 :: l2 :: l3 :: l4 :: l5 :: some (.int a) :: ls, .int a :: st, h)) _ (.iload 6) 2 am_my_287 (by decide +kernel) rfl
theorem e287_72 {ls : List (Option Value)} {st : List Value} {h : am_H} {a : Nat} : am_ev 287 72 (some (.ref a) :: ls) (st) h = am_ev 287 73 (some (.ref a) :: ls) (.ref a :: st) h := am_ev_step (q := (73, some (.ref a) :: ls, .ref a :: st, h)) _ (.aload_n 0) 1 am_my_287 (by decide +kernel) rfl
theorem e287_73 {ls : List (Option Value)} {st : List Value} {h : am_H} {o : Nat} (hk : am_kd h o = some (.inl 11)) : am_ev 287 73 ls (.ref o :: st) h = am_ev 287 76 ls (va_rf (h.2.2.1 o 36) :: st) h := am_u_gfR (idx := 51) (wn := 5168) (a := 0) am_my_287 (by decide +kernel) (by decide +kernel) (by decide +kernel) hk
theorem e287_76 {ls : List (Option Value)} {st : List Value} {h : am_H} {l0 l1 l2 l3 l4 l5 l6 : Option Value} {a : Int32} : am_ev 287 76 (l0 :: l1 :: l2 :: l3 :: l4 :: l5 :: l6 :: some (.int a) :: ls) (st) h = am_ev 287 78 (l0 :: l1 :: l2 :: l3 :: l4 :: l5 :: l6 :: some (.int a) :: ls) (.int a :: st) h := am_ev_step (q := (78, l0 :: l1 :: l2 :: l3 :: l4 :: l5 :: l6 :: some (.int a) :: ls, .int a :: st, h)) _ (.iload 7) 2 am_my_287 (by decide +kernel) rfl
theorem e287_78 {ls : List (Option Value)} {st : List Value} {h : am_H} {i : Int32} {a : Nat} (ht : am_tc h a = some 0) : am_ev 287 78 ls (.int i :: .ref a :: st) h = if am_ix i (am_len h a) = true then am_ev 287 79 ls (.int (h.1 a i.toNatClampNeg) :: st) h else none := am_u_rI am_my_287 (by decide +kernel) ht
theorem e287_79 {ls : List (Option Value)} {st : List Value} {h : am_H} {a : Nat} : am_ev 287 79 (some (.ref a) :: ls) (st) h = am_ev 287 80 (some (.ref a) :: ls) (.ref a :: st) h := am_ev_step (q := (80, some (.ref a) :: ls, .ref a :: st, h)) _ (.aload_n 0) 1 am_my_287 (by decide +kernel) rfl
theorem e287_80 {ls : List (Option Value)} {st : List Value} {h : am_H} {o : Nat} (hk : am_kd h o = some (.inl 11)) : am_ev 287 80 ls (.ref o :: st) h = am_ev 287 83 ls (va_rf (h.2.2.1 o 56) :: st) h := am_u_gfR (idx := 81) (wn := 5188) (a := 0) am_my_287 (by decide +kernel) (by decide +kernel) (by decide +kernel) hk
theorem e287_83 {ls : List (Option Value)} {st : List Value} {h : am_H} {l0 l1 l2 l3 l4 l5 l6 : Option Value} {a : Int32} : am_ev 287 83 (l0 :: l1 :: l2 :: l3 :: l4 :: l5 :: l6 :: some (.int a) :: ls) (st) h = am_ev 287 85 (l0 :: l1 :: l2 :: l3 :: l4 :: l5 :: l6 :: some (.int a) :: ls) (.int a :: st) h := am_ev_step (q := (85, l0 :: l1 :: l2 :: l3 :: l4 :: l5 :: l6 :: some (.int a) :: ls, .int a :: st, h)) _ (.iload 7) 2 am_my_287 (by decide +kernel) rfl
theorem e287_85 {ls : List (Option Value)} {st : List Value} {h : am_H} {i : Int32} {a : Nat} (ht : am_tc h a = some 0) : am_ev 287 85 ls (.int i :: .ref a :: st) h = if am_ix i (am_len h a) = true then am_ev 287 86 ls (.int (h.1 a i.toNatClampNeg) :: st) h else none := am_u_rI am_my_287 (by decide +kernel) ht
theorem e287_86 {ls : List (Option Value)} {st : List Value} {h : am_H} {a b : Int32} : am_ev 287 86 ls (.int b :: .int a :: st) h = if a = b then am_ev 287 93 ls st h else am_ev 287 89 ls st h := am_u_if2 (c := .eq) (off := 7) am_my_287 (by decide +kernel) (by decide)
theorem e287_89 {ls : List (Option Value)} {st : List Value} {h : am_H} : am_ev 287 89 (ls) (st) h = am_ev 287 90 (ls) (.int (1) :: st) h := am_ev_step (q := (90, ls, .int (1) :: st, h)) _ (.iconst (1)) 1 am_my_287 (by decide +kernel) rfl
theorem e287_90 {ls : List (Option Value)} {st : List Value} {h : am_H} : am_ev 287 90 (ls) (st) h = am_ev 287 94 (ls) (st) h := am_ev_step (q := (94, ls, st, h)) _ (.goto (4)) 3 am_my_287 (by decide +kernel) rfl
theorem e287_93 {ls : List (Option Value)} {st : List Value} {h : am_H} : am_ev 287 93 (ls) (st) h = am_ev 287 94 (ls) (.int (0) :: st) h := am_ev_step (q := (94, ls, .int (0) :: st, h)) _ (.iconst (0)) 1 am_my_287 (by decide +kernel) rfl
theorem e287_94 {ls : List (Option Value)} {st : List Value} {h : am_H} {a b : Int32} : am_ev 287 94 (ls) (.int b :: .int a :: st) h = am_ev 287 95 (ls) (.int (a + b) :: st) h := am_ev_step (q := (95, ls, .int (a + b) :: st, h)) _ (.iadd) 1 am_my_287 (by decide +kernel) rfl
theorem e287_95 {ls : List (Option Value)} {st : List Value} {h : am_H} {l0 l1 l2 l3 l4 l5 : Option Value} {z : Option Value} {a : Int32} : am_ev 287 95 (l0 :: l1 :: l2 :: l3 :: l4 :: l5 :: z :: ls) (.int a :: st) h = am_ev 287 97 (l0 :: l1 :: l2 :: l3 :: l4 :: l5 :: some (.int a) :: ls) (st) h := am_ev_step (q := (97, l0 :: l1 :: l2 :: l3 :: l4 :: l5 :: some (.int a) :: ls, st, h)) _ (.istore 6) 2 am_my_287 (by decide +kernel) rfl
theorem e287_97 {ls : List (Option Value)} {st : List Value} {h : am_H} {l0 l1 l2 l3 l4 l5 l6 : Option Value} {a : Int32} : am_ev 287 97 (l0 :: l1 :: l2 :: l3 :: l4 :: l5 :: l6 :: some (.int a) :: ls) (st) h = am_ev 287 100 (l0 :: l1 :: l2 :: l3 :: l4 :: l5 :: l6 :: some (.int (a + (1))) :: ls) (st) h := am_ev_step (q := (100, l0 :: l1 :: l2 :: l3 :: l4 :: l5 :: l6 :: some (.int (a + (1))) :: ls, st, h)) _ (.iinc 7 (1)) 3 am_my_287 (by decide +kernel) rfl
theorem e287_100 {ls : List (Option Value)} {st : List Value} {h : am_H} : am_ev 287 100 (ls) (st) h = am_ev 287 61 (ls) (st) h := am_ev_step (q := (61, ls, st, h)) _ (.goto (-39)) 3 am_my_287 (by decide +kernel) rfl
theorem e287_103 {ls : List (Option Value)} {st : List Value} {h : am_H} {l0 l1 l2 l3 l4 l5 : Option Value} {a : Int32} : am_ev 287 103 (l0 :: l1 :: l2 :: l3 :: l4 :: l5 :: some (.int a) :: ls) (st) h = am_ev 287 105 (l0 :: l1 :: l2 :: l3 :: l4 :: l5 :: some (.int a) :: ls) (.int a :: st) h := am_ev_step (q := (105, l0 :: l1 :: l2 :: l3 :: l4 :: l5 :: some (.int a) :: ls, .int a :: st, h)) _ (.iload 6) 2 am_my_287 (by decide +kernel) rfl
theorem e287_105 {ls : List (Option Value)} {st : List Value} {h : am_H} {l0 l1 l2 l3 : Option Value} {a : Int32} : am_ev 287 105 (l0 :: l1 :: l2 :: l3 :: some (.int a) :: ls) (st) h = am_ev 287 107 (l0 :: l1 :: l2 :: l3 :: some (.int a) :: ls) (.int a :: st) h := am_ev_step (q := (107, l0 :: l1 :: l2 :: l3 :: some (.int a) :: ls, .int a :: st, h)) _ (.iload 4) 2 am_my_287 (by decide +kernel) rfl
theorem e287_107 {ls : List (Option Value)} {st : List Value} {h : am_H} {a b : Int32} : am_ev 287 107 ls (.int b :: .int a :: st) h = if a ≤ b then am_ev 287 115 ls st h else am_ev 287 110 ls st h := am_u_if2 (c := .le) (off := 8) am_my_287 (by decide +kernel) (by decide)
theorem e287_110 {ls : List (Option Value)} {st : List Value} {h : am_H} {l0 l1 l2 l3 l4 : Option Value} {a : Int32} : am_ev 287 110 (l0 :: l1 :: l2 :: l3 :: l4 :: some (.int a) :: ls) (st) h = am_ev 287 112 (l0 :: l1 :: l2 :: l3 :: l4 :: some (.int a) :: ls) (.int a :: st) h := am_ev_step (q := (112, l0 :: l1 :: l2 :: l3 :: l4 :: some (.int a) :: ls, .int a :: st, h)) _ (.iload 5) 2 am_my_287 (by decide +kernel) rfl
theorem e287_112 {ls : List (Option Value)} {st : List Value} {h : am_H} : am_ev 287 112 (ls) (st) h = am_ev 287 116 (ls) (st) h := am_ev_step (q := (116, ls, st, h)) _ (.goto (4)) 3 am_my_287 (by decide +kernel) rfl
theorem e287_115 {ls : List (Option Value)} {st : List Value} {h : am_H} {l0 l1 l2 : Option Value} {a : Int32} : am_ev 287 115 (l0 :: l1 :: l2 :: some (.int a) :: ls) (st) h = am_ev 287 116 (l0 :: l1 :: l2 :: some (.int a) :: ls) (.int a :: st) h := am_ev_step (q := (116, l0 :: l1 :: l2 :: some (.int a) :: ls, .int a :: st, h)) _ (.iload_n 3) 1 am_my_287 (by decide +kernel) rfl
theorem e287_116 {ls : List (Option Value)} {st : List Value} {h : am_H} {l0 l1 l2 : Option Value} {z : Option Value} {a : Int32} : am_ev 287 116 (l0 :: l1 :: l2 :: z :: ls) (.int a :: st) h = am_ev 287 117 (l0 :: l1 :: l2 :: some (.int a) :: ls) (st) h := am_ev_step (q := (117, l0 :: l1 :: l2 :: some (.int a) :: ls, st, h)) _ (.istore_n 3) 1 am_my_287 (by decide +kernel) rfl
theorem e287_117 {ls : List (Option Value)} {st : List Value} {h : am_H} {l0 l1 l2 l3 : Option Value} {a : Int32} : am_ev 287 117 (l0 :: l1 :: l2 :: l3 :: some (.int a) :: ls) (st) h = am_ev 287 119 (l0 :: l1 :: l2 :: l3 :: some (.int a) :: ls) (.int a :: st) h := am_ev_step (q := (119, l0 :: l1 :: l2 :: l3 :: some (.int a) :: ls, .int a :: st, h)) _ (.iload 4) 2 am_my_287 (by decide +kernel) rfl
theorem e287_119 {ls : List (Option Value)} {st : List Value} {h : am_H} {l0 l1 l2 l3 l4 l5 : Option Value} {a : Int32} : am_ev 287 119 (l0 :: l1 :: l2 :: l3 :: l4 :: l5 :: some (.int a) :: ls) (st) h = am_ev 287 121 (l0 :: l1 :: l2 :: l3 :: l4 :: l5 :: some (.int a) :: ls) (.int a :: st) h := am_ev_step (q := (121, l0 :: l1 :: l2 :: l3 :: l4 :: l5 :: some (.int a) :: ls, .int a :: st, h)) _ (.iload 6) 2 am_my_287 (by decide +kernel) rfl
theorem e287_121 {ls : List (Option Value)} {st : List Value} {h : am_H} {p0 : Int32} {p1 : Int32} (hw : am_w8 st ≤ 8) : am_ev 287 121 ls (.int p1 :: .int p0 :: st) h = am_bd (am_den 187 [.int p0, .int p1] h) (fun v h1 => am_ev 287 124 ls (v.toList ++ st) h1) := am_u_cS (idx := 168) (wn := 6167) (as := [.int p0, .int p1]) am_my_287 (by decide +kernel) (by decide +kernel) am_my_187 (by decide +kernel) rfl ⟨Nat.le_of_ble_eq_true rfl, rfl⟩ hw
theorem e287_124 {ls : List (Option Value)} {st : List Value} {h : am_H} {l0 l1 l2 l3 : Option Value} {z : Option Value} {a : Int32} : am_ev 287 124 (l0 :: l1 :: l2 :: l3 :: z :: ls) (.int a :: st) h = am_ev 287 126 (l0 :: l1 :: l2 :: l3 :: some (.int a) :: ls) (st) h := am_ev_step (q := (126, l0 :: l1 :: l2 :: l3 :: some (.int a) :: ls, st, h)) _ (.istore 4) 2 am_my_287 (by decide +kernel) rfl
theorem e287_126 {ls : List (Option Value)} {st : List Value} {h : am_H} {a : Nat} : am_ev 287 126 (some (.ref a) :: ls) (st) h = am_ev 287 127 (some (.ref a) :: ls) (.ref a :: st) h := am_ev_step (q := (127, some (.ref a) :: ls, .ref a :: st, h)) _ (.aload_n 0) 1 am_my_287 (by decide +kernel) rfl
theorem e287_127 {ls : List (Option Value)} {st : List Value} {h : am_H}  {o : Nat} (hw : am_w8 st ≤ 8) (hk : am_kd h o = some (.inl 11)) : am_ev 287 127 ls (.ref o :: st) h = am_bd (am_den 283 [.ref o] h) (fun v h1 => am_ev 287 130 ls (v.toList ++ st) h1) := am_u_cV (idx := 530) (wn := 8074) (as := []) am_my_287 (by decide +kernel) (Or.inl (by decide +kernel)) am_my_283 (by decide +kernel) rfl ⟨Nat.le_of_ble_eq_true rfl, rfl⟩ (by decide +kernel) hw hk
theorem e287_130 {ls : List (Option Value)} {st : List Value} {h : am_H} {l0 l1 l2 l3 l4 : Option Value} {a : Int32} : am_ev 287 130 (l0 :: l1 :: l2 :: l3 :: l4 :: some (.int a) :: ls) (st) h = am_ev 287 133 (l0 :: l1 :: l2 :: l3 :: l4 :: some (.int (a + (1))) :: ls) (st) h := am_ev_step (q := (133, l0 :: l1 :: l2 :: l3 :: l4 :: some (.int (a + (1))) :: ls, st, h)) _ (.iinc 5 (1)) 3 am_my_287 (by decide +kernel) rfl
theorem e287_133 {ls : List (Option Value)} {st : List Value} {h : am_H} : am_ev 287 133 (ls) (st) h = am_ev 287 27 (ls) (st) h := am_ev_step (q := (27, ls, st, h)) _ (.goto (-106)) 3 am_my_287 (by decide +kernel) rfl
theorem e287_136 {ls : List (Option Value)} {st : List Value} {h : am_H} {l0 l1 : Option Value} {a : Int32} : am_ev 287 136 (l0 :: l1 :: some (.int a) :: ls) (st) h = am_ev 287 137 (l0 :: l1 :: some (.int a) :: ls) (.int a :: st) h := am_ev_step (q := (137, l0 :: l1 :: some (.int a) :: ls, .int a :: st, h)) _ (.iload_n 2) 1 am_my_287 (by decide +kernel) rfl
theorem e287_137 {ls : List (Option Value)} {st : List Value} {h : am_H} {a : Int32} : am_ev 287 137 ls (.int a :: st) h = if a = 0 then am_ev 287 145 ls st h else am_ev 287 140 ls st h := am_u_if1 (c := .eq) (off := 8) am_my_287 (by decide +kernel) (by decide)
theorem e287_140 {ls : List (Option Value)} {st : List Value} {h : am_H} {l0 l1 l2 l3 : Option Value} {a : Int32} : am_ev 287 140 (l0 :: l1 :: l2 :: l3 :: some (.int a) :: ls) (st) h = am_ev 287 142 (l0 :: l1 :: l2 :: l3 :: some (.int a) :: ls) (.int a :: st) h := am_ev_step (q := (142, l0 :: l1 :: l2 :: l3 :: some (.int a) :: ls, .int a :: st, h)) _ (.iload 4) 2 am_my_287 (by decide +kernel) rfl
theorem e287_142 {ls : List (Option Value)} {st : List Value} {h : am_H} : am_ev 287 142 (ls) (st) h = am_ev 287 146 (ls) (st) h := am_ev_step (q := (146, ls, st, h)) _ (.goto (4)) 3 am_my_287 (by decide +kernel) rfl
theorem e287_145 {ls : List (Option Value)} {st : List Value} {h : am_H} {l0 l1 l2 : Option Value} {a : Int32} : am_ev 287 145 (l0 :: l1 :: l2 :: some (.int a) :: ls) (st) h = am_ev 287 146 (l0 :: l1 :: l2 :: some (.int a) :: ls) (.int a :: st) h := am_ev_step (q := (146, l0 :: l1 :: l2 :: some (.int a) :: ls, .int a :: st, h)) _ (.iload_n 3) 1 am_my_287 (by decide +kernel) rfl
theorem e287_146 {ls : List (Option Value)} {h : am_H} {v : Int32} : am_ev 287 146 ls [.int v] h = some (some (.int v), h) := am_u_rtI am_my_287 (by decide +kernel) rfl
theorem e281_0 {ls : List (Option Value)} {st : List Value} {h : am_H} : am_ev 281 0 (ls) (st) h = am_ev 281 1 (ls) (.int (0) :: st) h := am_ev_step (q := (1, ls, .int (0) :: st, h)) _ (.iconst (0)) 1 am_my_281 (by decide +kernel) rfl
theorem e281_1 {ls : List (Option Value)} {st : List Value} {h : am_H} {l0 : Option Value} {z : Option Value} {a : Int32} : am_ev 281 1 (l0 :: z :: ls) (.int a :: st) h = am_ev 281 2 (l0 :: some (.int a) :: ls) (st) h := am_ev_step (q := (2, l0 :: some (.int a) :: ls, st, h)) _ (.istore_n 1) 1 am_my_281 (by decide +kernel) rfl
theorem e281_2 {ls : List (Option Value)} {st : List Value} {h : am_H} {l0 : Option Value} {a : Int32} : am_ev 281 2 (l0 :: some (.int a) :: ls) (st) h = am_ev 281 3 (l0 :: some (.int a) :: ls) (.int a :: st) h := am_ev_step (q := (3, l0 :: some (.int a) :: ls, .int a :: st, h)) _ (.iload_n 1) 1 am_my_281 (by decide +kernel) rfl
theorem e281_3 {ls : List (Option Value)} {st : List Value} {h : am_H} : am_ev 281 3 (ls) (st) h = am_ev 281 5 (ls) (.int (6) :: st) h := am_ev_step (q := (5, ls, .int (6) :: st, h)) _ (.bipush (6)) 2 am_my_281 (by decide +kernel) rfl
theorem e281_5 {ls : List (Option Value)} {st : List Value} {h : am_H} {a b : Int32} : am_ev 281 5 ls (.int b :: .int a :: st) h = if b ≤ a then am_ev 281 26 ls st h else am_ev 281 8 ls st h := am_u_if2 (c := .ge) (off := 21) am_my_281 (by decide +kernel) (by decide)
theorem e281_8 {ls : List (Option Value)} {st : List Value} {h : am_H} {a : Nat} : am_ev 281 8 (some (.ref a) :: ls) (st) h = am_ev 281 9 (some (.ref a) :: ls) (.ref a :: st) h := am_ev_step (q := (9, some (.ref a) :: ls, .ref a :: st, h)) _ (.aload_n 0) 1 am_my_281 (by decide +kernel) rfl
theorem e281_9 {ls : List (Option Value)} {st : List Value} {h : am_H} {o : Nat} (hk : am_kd h o = some (.inl 11)) : am_ev 281 9 ls (.ref o :: st) h = am_ev 281 12 ls (va_rf (h.2.2.1 o 56) :: st) h := am_u_gfR (idx := 81) (wn := 5188) (a := 0) am_my_281 (by decide +kernel) (by decide +kernel) (by decide +kernel) hk
theorem e281_12 {ls : List (Option Value)} {st : List Value} {h : am_H} {l0 : Option Value} {a : Int32} : am_ev 281 12 (l0 :: some (.int a) :: ls) (st) h = am_ev 281 13 (l0 :: some (.int a) :: ls) (.int a :: st) h := am_ev_step (q := (13, l0 :: some (.int a) :: ls, .int a :: st, h)) _ (.iload_n 1) 1 am_my_281 (by decide +kernel) rfl
theorem e281_13 {ls : List (Option Value)} {st : List Value} {h : am_H} {a : Nat} : am_ev 281 13 (some (.ref a) :: ls) (st) h = am_ev 281 14 (some (.ref a) :: ls) (.ref a :: st) h := am_ev_step (q := (14, some (.ref a) :: ls, .ref a :: st, h)) _ (.aload_n 0) 1 am_my_281 (by decide +kernel) rfl
theorem e281_14 {ls : List (Option Value)} {st : List Value} {h : am_H} {o : Nat} (hk : am_kd h o = some (.inl 11)) : am_ev 281 14 ls (.ref o :: st) h = am_ev 281 17 ls (va_rf (h.2.2.1 o 36) :: st) h := am_u_gfR (idx := 51) (wn := 5168) (a := 0) am_my_281 (by decide +kernel) (by decide +kernel) (by decide +kernel) hk
theorem e281_17 {ls : List (Option Value)} {st : List Value} {h : am_H} {l0 : Option Value} {a : Int32} : am_ev 281 17 (l0 :: some (.int a) :: ls) (st) h = am_ev 281 18 (l0 :: some (.int a) :: ls) (.int a :: st) h := am_ev_step (q := (18, l0 :: some (.int a) :: ls, .int a :: st, h)) _ (.iload_n 1) 1 am_my_281 (by decide +kernel) rfl
theorem e281_18 {ls : List (Option Value)} {st : List Value} {h : am_H} {i : Int32} {a : Nat} (ht : am_tc h a = some 0) : am_ev 281 18 ls (.int i :: .ref a :: st) h = if am_ix i (am_len h a) = true then am_ev 281 19 ls (.int (h.1 a i.toNatClampNeg) :: st) h else none := am_u_rI am_my_281 (by decide +kernel) ht
theorem e281_19 {ls : List (Option Value)} {st : List Value} {h : am_H} {v i : Int32} {a : Nat} (ht : am_tc h a = some 0) : am_ev 281 19 ls (.int v :: .int i :: .ref a :: st) h = if am_ix i (am_len h a) = true then am_ev 281 20 ls st (am_sI h a i.toNatClampNeg v) else none := am_u_wI am_my_281 (by decide +kernel) ht
theorem e281_20 {ls : List (Option Value)} {st : List Value} {h : am_H} {l0 : Option Value} {a : Int32} : am_ev 281 20 (l0 :: some (.int a) :: ls) (st) h = am_ev 281 23 (l0 :: some (.int (a + (1))) :: ls) (st) h := am_ev_step (q := (23, l0 :: some (.int (a + (1))) :: ls, st, h)) _ (.iinc 1 (1)) 3 am_my_281 (by decide +kernel) rfl
theorem e281_23 {ls : List (Option Value)} {st : List Value} {h : am_H} : am_ev 281 23 (ls) (st) h = am_ev 281 2 (ls) (st) h := am_ev_step (q := (2, ls, st, h)) _ (.goto (-21)) 3 am_my_281 (by decide +kernel) rfl
theorem e281_26 {ls : List (Option Value)} {st : List Value} {h : am_H} {a : Nat} : am_ev 281 26 (some (.ref a) :: ls) (st) h = am_ev 281 27 (some (.ref a) :: ls) (.ref a :: st) h := am_ev_step (q := (27, some (.ref a) :: ls, .ref a :: st, h)) _ (.aload_n 0) 1 am_my_281 (by decide +kernel) rfl
theorem e281_27 {ls : List (Option Value)} {st : List Value} {h : am_H} {a : Nat} : am_ev 281 27 (some (.ref a) :: ls) (st) h = am_ev 281 28 (some (.ref a) :: ls) (.ref a :: st) h := am_ev_step (q := (28, some (.ref a) :: ls, .ref a :: st, h)) _ (.aload_n 0) 1 am_my_281 (by decide +kernel) rfl
theorem e281_28 {ls : List (Option Value)} {st : List Value} {h : am_H} {o : Nat} (hk : am_kd h o = some (.inl 11)) : am_ev 281 28 ls (.ref o :: st) h = am_ev 281 31 ls (.int (h.1 o 31) :: st) h := am_u_gfI (idx := 303) (wn := 5163) am_my_281 (by decide +kernel) (by decide +kernel) (by decide +kernel) hk
theorem e281_31 {ls : List (Option Value)} {st : List Value} {h : am_H} {o : Nat} {v : Int32} (hk : am_kd h o = some (.inl 11)) : am_ev 281 31 ls (.int v :: .ref o :: st) h = am_ev 281 34 ls st (am_sI h o 57 v) := am_u_pfI (idx := 518) (wn := 5189) am_my_281 (by decide +kernel) (by decide +kernel) (by decide +kernel) (by decide +kernel) hk
theorem e281_34 {ls : List (Option Value)} {st : List Value} {h : am_H} {a : Nat} : am_ev 281 34 (some (.ref a) :: ls) (st) h = am_ev 281 35 (some (.ref a) :: ls) (.ref a :: st) h := am_ev_step (q := (35, some (.ref a) :: ls, .ref a :: st, h)) _ (.aload_n 0) 1 am_my_281 (by decide +kernel) rfl
theorem e281_35 {ls : List (Option Value)} {st : List Value} {h : am_H} {a : Nat} : am_ev 281 35 (some (.ref a) :: ls) (st) h = am_ev 281 36 (some (.ref a) :: ls) (.ref a :: st) h := am_ev_step (q := (36, some (.ref a) :: ls, .ref a :: st, h)) _ (.aload_n 0) 1 am_my_281 (by decide +kernel) rfl
theorem e281_36 {ls : List (Option Value)} {st : List Value} {h : am_H} {o : Nat} (hk : am_kd h o = some (.inl 11)) : am_ev 281 36 ls (.ref o :: st) h = am_ev 281 39 ls (.int (h.1 o 28) :: st) h := am_u_gfI (idx := 294) (wn := 5160) am_my_281 (by decide +kernel) (by decide +kernel) (by decide +kernel) hk
theorem e281_39 {ls : List (Option Value)} {st : List Value} {h : am_H} {o : Nat} {v : Int32} (hk : am_kd h o = some (.inl 11)) : am_ev 281 39 ls (.int v :: .ref o :: st) h = am_ev 281 42 ls st (am_sI h o 58 v) := am_u_pfI (idx := 521) (wn := 5190) am_my_281 (by decide +kernel) (by decide +kernel) (by decide +kernel) (by decide +kernel) hk
theorem e281_42 {ls : List (Option Value)} {h : am_H} : am_ev 281 42 ls [] h = some (none, h) := am_u_rtV am_my_281 (by decide +kernel) rfl
theorem e283_0 {ls : List (Option Value)} {st : List Value} {h : am_H} : am_ev 283 0 (ls) (st) h = am_ev 283 1 (ls) (.int (0) :: st) h := am_ev_step (q := (1, ls, .int (0) :: st, h)) _ (.iconst (0)) 1 am_my_283 (by decide +kernel) rfl
theorem e283_1 {ls : List (Option Value)} {st : List Value} {h : am_H} {l0 : Option Value} {z : Option Value} {a : Int32} : am_ev 283 1 (l0 :: z :: ls) (.int a :: st) h = am_ev 283 2 (l0 :: some (.int a) :: ls) (st) h := am_ev_step (q := (2, l0 :: some (.int a) :: ls, st, h)) _ (.istore_n 1) 1 am_my_283 (by decide +kernel) rfl
theorem e283_2 {ls : List (Option Value)} {st : List Value} {h : am_H} {l0 : Option Value} {a : Int32} : am_ev 283 2 (l0 :: some (.int a) :: ls) (st) h = am_ev 283 3 (l0 :: some (.int a) :: ls) (.int a :: st) h := am_ev_step (q := (3, l0 :: some (.int a) :: ls, .int a :: st, h)) _ (.iload_n 1) 1 am_my_283 (by decide +kernel) rfl
theorem e283_3 {ls : List (Option Value)} {st : List Value} {h : am_H} : am_ev 283 3 (ls) (st) h = am_ev 283 5 (ls) (.int (6) :: st) h := am_ev_step (q := (5, ls, .int (6) :: st, h)) _ (.bipush (6)) 2 am_my_283 (by decide +kernel) rfl
theorem e283_5 {ls : List (Option Value)} {st : List Value} {h : am_H} {a b : Int32} : am_ev 283 5 ls (.int b :: .int a :: st) h = if b ≤ a then am_ev 283 26 ls st h else am_ev 283 8 ls st h := am_u_if2 (c := .ge) (off := 21) am_my_283 (by decide +kernel) (by decide)
theorem e283_8 {ls : List (Option Value)} {st : List Value} {h : am_H} {a : Nat} : am_ev 283 8 (some (.ref a) :: ls) (st) h = am_ev 283 9 (some (.ref a) :: ls) (.ref a :: st) h := am_ev_step (q := (9, some (.ref a) :: ls, .ref a :: st, h)) _ (.aload_n 0) 1 am_my_283 (by decide +kernel) rfl
theorem e283_9 {ls : List (Option Value)} {st : List Value} {h : am_H} {o : Nat} (hk : am_kd h o = some (.inl 11)) : am_ev 283 9 ls (.ref o :: st) h = am_ev 283 12 ls (va_rf (h.2.2.1 o 36) :: st) h := am_u_gfR (idx := 51) (wn := 5168) (a := 0) am_my_283 (by decide +kernel) (by decide +kernel) (by decide +kernel) hk
theorem e283_12 {ls : List (Option Value)} {st : List Value} {h : am_H} {l0 : Option Value} {a : Int32} : am_ev 283 12 (l0 :: some (.int a) :: ls) (st) h = am_ev 283 13 (l0 :: some (.int a) :: ls) (.int a :: st) h := am_ev_step (q := (13, l0 :: some (.int a) :: ls, .int a :: st, h)) _ (.iload_n 1) 1 am_my_283 (by decide +kernel) rfl
theorem e283_13 {ls : List (Option Value)} {st : List Value} {h : am_H} {a : Nat} : am_ev 283 13 (some (.ref a) :: ls) (st) h = am_ev 283 14 (some (.ref a) :: ls) (.ref a :: st) h := am_ev_step (q := (14, some (.ref a) :: ls, .ref a :: st, h)) _ (.aload_n 0) 1 am_my_283 (by decide +kernel) rfl
theorem e283_14 {ls : List (Option Value)} {st : List Value} {h : am_H} {o : Nat} (hk : am_kd h o = some (.inl 11)) : am_ev 283 14 ls (.ref o :: st) h = am_ev 283 17 ls (va_rf (h.2.2.1 o 56) :: st) h := am_u_gfR (idx := 81) (wn := 5188) (a := 0) am_my_283 (by decide +kernel) (by decide +kernel) (by decide +kernel) hk
theorem e283_17 {ls : List (Option Value)} {st : List Value} {h : am_H} {l0 : Option Value} {a : Int32} : am_ev 283 17 (l0 :: some (.int a) :: ls) (st) h = am_ev 283 18 (l0 :: some (.int a) :: ls) (.int a :: st) h := am_ev_step (q := (18, l0 :: some (.int a) :: ls, .int a :: st, h)) _ (.iload_n 1) 1 am_my_283 (by decide +kernel) rfl
theorem e283_18 {ls : List (Option Value)} {st : List Value} {h : am_H} {i : Int32} {a : Nat} (ht : am_tc h a = some 0) : am_ev 283 18 ls (.int i :: .ref a :: st) h = if am_ix i (am_len h a) = true then am_ev 283 19 ls (.int (h.1 a i.toNatClampNeg) :: st) h else none := am_u_rI am_my_283 (by decide +kernel) ht
theorem e283_19 {ls : List (Option Value)} {st : List Value} {h : am_H} {v i : Int32} {a : Nat} (ht : am_tc h a = some 0) : am_ev 283 19 ls (.int v :: .int i :: .ref a :: st) h = if am_ix i (am_len h a) = true then am_ev 283 20 ls st (am_sI h a i.toNatClampNeg v) else none := am_u_wI am_my_283 (by decide +kernel) ht
theorem e283_20 {ls : List (Option Value)} {st : List Value} {h : am_H} {l0 : Option Value} {a : Int32} : am_ev 283 20 (l0 :: some (.int a) :: ls) (st) h = am_ev 283 23 (l0 :: some (.int (a + (1))) :: ls) (st) h := am_ev_step (q := (23, l0 :: some (.int (a + (1))) :: ls, st, h)) _ (.iinc 1 (1)) 3 am_my_283 (by decide +kernel) rfl
theorem e283_23 {ls : List (Option Value)} {st : List Value} {h : am_H} : am_ev 283 23 (ls) (st) h = am_ev 283 2 (ls) (st) h := am_ev_step (q := (2, ls, st, h)) _ (.goto (-21)) 3 am_my_283 (by decide +kernel) rfl
theorem e283_26 {ls : List (Option Value)} {st : List Value} {h : am_H} {a : Nat} : am_ev 283 26 (some (.ref a) :: ls) (st) h = am_ev 283 27 (some (.ref a) :: ls) (.ref a :: st) h := am_ev_step (q := (27, some (.ref a) :: ls, .ref a :: st, h)) _ (.aload_n 0) 1 am_my_283 (by decide +kernel) rfl
theorem e283_27 {ls : List (Option Value)} {st : List Value} {h : am_H} {a : Nat} : am_ev 283 27 (some (.ref a) :: ls) (st) h = am_ev 283 28 (some (.ref a) :: ls) (.ref a :: st) h := am_ev_step (q := (28, some (.ref a) :: ls, .ref a :: st, h)) _ (.aload_n 0) 1 am_my_283 (by decide +kernel) rfl
theorem e283_28 {ls : List (Option Value)} {st : List Value} {h : am_H} {o : Nat} (hk : am_kd h o = some (.inl 11)) : am_ev 283 28 ls (.ref o :: st) h = am_ev 283 31 ls (.int (h.1 o 57) :: st) h := am_u_gfI (idx := 518) (wn := 5189) am_my_283 (by decide +kernel) (by decide +kernel) (by decide +kernel) hk
theorem e283_31 {ls : List (Option Value)} {st : List Value} {h : am_H} {o : Nat} {v : Int32} (hk : am_kd h o = some (.inl 11)) : am_ev 283 31 ls (.int v :: .ref o :: st) h = am_ev 283 34 ls st (am_sI h o 31 v) := am_u_pfI (idx := 303) (wn := 5163) am_my_283 (by decide +kernel) (by decide +kernel) (by decide +kernel) (by decide +kernel) hk
theorem e283_34 {ls : List (Option Value)} {st : List Value} {h : am_H} {a : Nat} : am_ev 283 34 (some (.ref a) :: ls) (st) h = am_ev 283 35 (some (.ref a) :: ls) (.ref a :: st) h := am_ev_step (q := (35, some (.ref a) :: ls, .ref a :: st, h)) _ (.aload_n 0) 1 am_my_283 (by decide +kernel) rfl
theorem e283_35 {ls : List (Option Value)} {st : List Value} {h : am_H} {a : Nat} : am_ev 283 35 (some (.ref a) :: ls) (st) h = am_ev 283 36 (some (.ref a) :: ls) (.ref a :: st) h := am_ev_step (q := (36, some (.ref a) :: ls, .ref a :: st, h)) _ (.aload_n 0) 1 am_my_283 (by decide +kernel) rfl
theorem e283_36 {ls : List (Option Value)} {st : List Value} {h : am_H} {o : Nat} (hk : am_kd h o = some (.inl 11)) : am_ev 283 36 ls (.ref o :: st) h = am_ev 283 39 ls (.int (h.1 o 58) :: st) h := am_u_gfI (idx := 521) (wn := 5190) am_my_283 (by decide +kernel) (by decide +kernel) (by decide +kernel) hk
theorem e283_39 {ls : List (Option Value)} {st : List Value} {h : am_H} {o : Nat} {v : Int32} (hk : am_kd h o = some (.inl 11)) : am_ev 283 39 ls (.int v :: .ref o :: st) h = am_ev 283 42 ls st (am_sI h o 28 v) := am_u_pfI (idx := 294) (wn := 5160) am_my_283 (by decide +kernel) (by decide +kernel) (by decide +kernel) (by decide +kernel) hk
theorem e283_42 {ls : List (Option Value)} {h : am_H} : am_ev 283 42 ls [] h = some (none, h) := am_u_rtV am_my_283 (by decide +kernel) rfl
/-- all but the minute and the goings -/
def G_co (g g' : q_G) : Prop := G_dog g = G_dog g' ∧ G_pen g = G_pen g' ∧ G_lies g = G_lies g' ∧ G_back g = G_back g' ∧ G_at g = G_at g'
theorem G_co.rf (g : q_G) : G_co g g := ⟨rfl, rfl, rfl, rfl, rfl⟩
theorem G_co.sy {g g' : q_G} (e : G_co g g') : G_co g' g := ⟨e.1.symm, e.2.1.symm, e.2.2.1.symm, e.2.2.2.1.symm, e.2.2.2.2.symm⟩
theorem G_co.tr {g g' g'' : q_G} (e : G_co g g') (d : G_co g' g'') : G_co g g'' := ⟨e.1.trans d.1, e.2.1.trans d.2.1, e.2.2.1.trans d.2.2.1, e.2.2.2.1.trans d.2.2.2.1, e.2.2.2.2.trans d.2.2.2.2⟩
theorem G_co.way {g g' : q_G} (e : G_co g g') (f : q_Fl) (b : Nat) : G_way f g b = G_way f g' b := by
  obtain ⟨e1, e2, e3, e4, e5⟩ := e
  unfold G_way
  congr 1
  funext d
  unfold G_ok1 G_fr G_bs
  rw [e1, e5]
theorem G_co.drv {g g' : q_G} (e : G_co g g') (f : q_Fl) (b : Nat) : G_drv f g b = G_drv f g' b := by
  obtain ⟨e1, e2, e3, e4, e5⟩ := e
  unfold G_drv G_pnd
  rw [e1, e2, e3, e4, e5]
theorem G_co.mv {g g' : q_G} (e : G_co g g') (f : q_Fl) (b t : Nat) : G_co (G_mv f g b t) (G_mv f g' b t) := by
  obtain ⟨e1, e2, e3, e4, e5⟩ := e
  refine ⟨e1, ?_, e3, e4, ?_⟩
  · show (if t = F_pen f then G_pen g ||| 2 ^ b else G_pen g) = (if t = F_pen f then G_pen g' ||| 2 ^ b else G_pen g')
    rw [e2]
  · show q_up (G_at g) b t = q_up (G_at g') b t
    rw [e5]
theorem G_co.s1 {g g' : q_G} (e : G_co g g') (f : q_Fl) (b : Nat) : G_co (G_s1 f g b) (G_s1 f g' b) := by
  unfold G_s1
  rw [e.way f b]
  cases G_way f g' b with
  | none => exact e
  | some d =>
    show G_co (G_st f g b d) (G_st f g' b d)
    unfold G_st
    rw [e.2.2.2.2]
    cases F_nx f (G_at g' b) d with
    | none => exact e
    | some t => exact e.mv f b t
theorem G_co.go {g g' : q_G} (e : G_co g g') (f : q_Fl) (b : Nat) : G_co (G_go f g b) (G_go f g' b) := by
  have ep : G_pnd (G_s1 f g b) b = G_pnd (G_s1 f g' b) b := by
    unfold G_pnd
    rw [(e.s1 f b).2.1]
  unfold G_go
  rw [e.drv f b, ep]
  split
  · split
    · exact (e.s1 f b).s1 f b
    · exact e.s1 f b
  · exact e
theorem G_co.went1 {g g' : q_G} (e : G_co g g') (f : q_Fl) (b : Nat) : G_went1 f g b = G_went1 f g' b := by
  unfold G_went1
  rw [e.drv f b, e.way f b]
theorem G_co.all (f : q_Fl) : ∀ (r b : Nat) (g g' : q_G), G_co g g' → G_co (G_all f r b g) (G_all f r b g') := by
  intro r
  induction r with
  | zero => intro b g g' e; exact e
  | succ r ih => intro b g g' e; exact ih (b + 1) _ _ (e.go f b)
theorem G_co.cnt (f : q_Fl) : ∀ (r b : Nat) (g g' : q_G) (n : Nat), G_co g g' → G_cnt f r b g n = G_cnt f r b g' n := by
  intro r
  induction r with
  | zero => intro b g g' n e; rfl
  | succ r ih =>
    intro b g g' n e
    show G_cnt f r (b + 1) (G_go f g b) (if G_went1 f g b = true then n + 1 else n) = G_cnt f r (b + 1) (G_go f g' b) (if G_went1 f g' b = true then n + 1 else n)
    rw [e.went1 f b]
    exact ih (b + 1) _ _ _ (e.go f b)
theorem G_co.may {g g' : q_G} (e : G_co g g') (f : q_Fl) (c : Nat) : G_may f g c = G_may f g' c := by
  unfold G_may G_bs
  rw [e.2.2.2.2]
theorem G_co.sdog {g g' : q_G} (e : G_co g g') (c : Nat) : G_co (G_sdog g c) (G_sdog g' c) := ⟨rfl, e.2⟩
theorem G_co.gin {g g' : q_G} (e : G_co g g') {f : q_Fl} (i : G_in f g) : G_in f g' := by
  obtain ⟨e1, e2, e3, e4, e5⟩ := e
  unfold G_in at i ⊢
  rw [← e1, ← e2, ← e5]
  exact i
theorem G_co.gpi {g g' : q_G} (e : G_co g g') {f : q_Fl} (i : G_pi f g) : G_pi f g' := by
  obtain ⟨e1, e2, e3, e4, e5⟩ := e
  unfold G_pi G_pnd at i ⊢
  rw [← e2, ← e5]
  exact i
/-- one step, looked at closely -/
theorem G_s1_sp (f : q_Fl) (g : q_G) (b : Nat) : (G_way f g b = none ∧ G_s1 f g b = g) ∨ ∃ d t, G_way f g b = some d ∧ F_nx f (G_at g b) d = some t ∧ G_s1 f g b = G_mv f g b t ∧ (F_kind f b = 3 → q_dist t (G_dog g) < q_dist (G_at g b) (G_dog g)) ∧ (F_kind f b ≠ 3 → q_dist (G_at g b) (G_dog g) < q_dist t (G_dog g)) := by
  cases hw : G_way f g b with
  | none => exact Or.inl ⟨rfl, by unfold G_s1; rw [hw]⟩
  | some d =>
    have ok := (G_way_lt hw).2
    unfold G_ok1 at ok
    cases hx : F_nx f (G_at g b) d with
    | none => rw [hx] at ok; cases ok
    | some t =>
      rw [hx] at ok
      have ok2 : (if F_kind f b = 3 then decide (q_dist t (G_dog g) < q_dist (G_at g b) (G_dog g)) else decide (q_dist (G_at g b) (G_dog g) < q_dist t (G_dog g))) = true := ((Bool.and_eq_true _ _).mp ok).2
      refine Or.inr ⟨d, t, rfl, hx, ?_, fun k3 => ?_, fun k3 => ?_⟩
      · unfold G_s1
        rw [hw]
        show G_st f g b d = _
        unfold G_st
        rw [hx]
      · rw [if_pos k3] at ok2
        exact of_decide_eq_true ok2
      · rw [if_neg k3] at ok2
        exact of_decide_eq_true ok2
theorem G_s1_dog (f : q_Fl) (g : q_G) (b : Nat) : G_dog (G_s1 f g b) = G_dog g := by
  rcases G_s1_sp f g b with ⟨_, e⟩ | ⟨d, t, _, _, e, _⟩ <;> rw [e]
  rfl
theorem G_s1_at (f : q_Fl) (g : q_G) (b c : Nat) (h : c ≠ b) : G_at (G_s1 f g b) c = G_at g c := by
  rcases G_s1_sp f g b with ⟨_, e⟩ | ⟨d, t, _, _, e, _⟩ <;> rw [e]
  exact if_neg h
theorem G_mv_b (f : q_Fl) (g : q_G) (b t : Nat) : G_at (G_mv f g b t) b = t := if_pos rfl
theorem G_go_dog (f : q_Fl) (g : q_G) (b : Nat) : G_dog (G_go f g b) = G_dog g := by
  unfold G_go
  split
  · split
    · rw [G_s1_dog, G_s1_dog]
    · rw [G_s1_dog]
  · rfl
theorem G_go_at (f : q_Fl) (g : q_G) (b c : Nat) (h : c ≠ b) : G_at (G_go f g b) c = G_at g c := by
  unfold G_go
  split
  · split
    · rw [G_s1_at f _ b c h, G_s1_at f g b c h]
    · rw [G_s1_at f g b c h]
  · rfl
theorem G_went1_ne (f : q_Fl) (g : q_G) (b : Nat) : G_went1 f g b = decide (G_at (G_go f g b) b ≠ G_at g b) := by
  unfold G_went1 G_go
  cases G_drv f g b with
  | false => simp
  | true =>
    rw [if_pos rfl, Bool.true_and]
    rcases G_s1_sp f g b with ⟨w, e⟩ | ⟨d, t, w, x, e, k3, kn⟩
    · rw [w, e, e]
      split <;> simp
    · have eb : G_at (G_s1 f g b) b = t := by rw [e]; exact G_mv_b f g b t
      have ed := G_s1_dog f g b
      rw [w]
      symm
      show decide _ = true
      refine decide_eq_true ?_
      split
      · rename_i k2
        have n3 : F_kind f b ≠ 3 := by rw [k2.1]; decide
        have l1 := kn n3
        rcases G_s1_sp f (G_s1 f g b) b with ⟨w', e'⟩ | ⟨d', t', w', x', e', k3', kn'⟩
        · rw [e', eb]
          intro q
          rw [q] at l1
          exact absurd l1 (Nat.lt_irrefl _)
        · have l2 := kn' n3
          rw [e', G_mv_b]
          rw [eb, ed] at l2
          intro q
          rw [q] at l2
          omega
      · rw [eb]
        intro q
        by_cases c3 : F_kind f b = 3
        · have := k3 c3
          rw [q] at this
          exact absurd this (Nat.lt_irrefl _)
        · have := kn c3
          rw [q] at this
          exact absurd this (Nat.lt_irrefl _)
theorem G_all_at (f : q_Fl) : ∀ (r b : Nat) (g : q_G) (k : Nat), k < b → G_at (G_all f r b g) k = G_at g k := by
  intro r
  induction r with
  | zero => intro b g k _; rfl
  | succ r ih =>
    intro b g k hk
    show G_at (G_all f r (b + 1) (G_go f g b)) k = _
    rw [ih (b + 1) _ k (by omega), G_go_at f g b k (by omega)]
theorem G_all_dog (f : q_Fl) : ∀ (r b : Nat) (g : q_G), G_dog (G_all f r b g) = G_dog g := by
  intro r
  induction r with
  | zero => intro b g; rfl
  | succ r ih =>
    intro b g
    show G_dog (G_all f r (b + 1) (G_go f g b)) = _
    rw [ih (b + 1), G_go_dog]
theorem G_s1_lb (f : q_Fl) (g : q_G) (b : Nat) : G_lies (G_s1 f g b) = G_lies g ∧ G_back (G_s1 f g b) = G_back g := by
  rcases G_s1_sp f g b with ⟨_, e⟩ | ⟨d, t, _, _, e, _⟩ <;> rw [e] <;> exact ⟨rfl, rfl⟩
theorem G_go_lb (f : q_Fl) (g : q_G) (b : Nat) : G_lies (G_go f g b) = G_lies g ∧ G_back (G_go f g b) = G_back g := by
  unfold G_go
  split
  · split
    · rw [(G_s1_lb f (G_s1 f g b) b).1, (G_s1_lb f (G_s1 f g b) b).2]
      exact G_s1_lb f g b
    · exact G_s1_lb f g b
  · exact ⟨rfl, rfl⟩
theorem G_all_lies (f : q_Fl) : ∀ (r b : Nat) (g : q_G), G_lies (G_all f r b g) = G_lies g := by
  intro r
  induction r with
  | zero => intro b g; rfl
  | succ r ih =>
    intro b g
    show G_lies (G_all f r (b + 1) (G_go f g b)) = _
    rw [ih (b + 1), (G_go_lb f g b).1]
theorem G_all_back (f : q_Fl) : ∀ (r b : Nat) (g : q_G), G_back (G_all f r b g) = G_back g := by
  intro r
  induction r with
  | zero => intro b g; rfl
  | succ r ih =>
    intro b g
    show G_back (G_all f r (b + 1) (G_go f g b)) = _
    rw [ih (b + 1), (G_go_lb f g b).2]
def q_ctB (P : Nat → Bool) : Nat → Nat → Nat
  | 0, _ => 0
  | r + 1, i => (if P i = true then 1 else 0) + q_ctB P r (i + 1)
theorem q_ctB_cg {P Q : Nat → Bool} : ∀ r i, (∀ k, i ≤ k → k < i + r → P k = Q k) → q_ctB P r i = q_ctB Q r i := by
  intro r
  induction r with
  | zero => intro i _; rfl
  | succ r ih =>
    intro i h
    rw [q_ctB, q_ctB, h i (Nat.le_refl _) (by omega), ih (i + 1) (fun k h1 h2 => h k (by omega) (by omega))]
theorem q_ctB_le (P : Nat → Bool) : ∀ r i, q_ctB P r i ≤ r := by
  intro r
  induction r with
  | zero => intro i; exact Nat.le_refl _
  | succ r ih =>
    intro i
    rw [q_ctB]
    have := ih (i + 1)
    split <;> omega
theorem G_cnt_ct (f : q_Fl) : ∀ (r b : Nat) (g : q_G) (n : Nat), G_cnt f r b g n = n + q_ctB (fun k => decide (G_at (G_all f r b g) k ≠ G_at g k)) r b := by
  intro r
  induction r with
  | zero => intro b g n; rfl
  | succ r ih =>
    intro b g n
    show G_cnt f r (b + 1) (G_go f g b) (if G_went1 f g b = true then n + 1 else n) = n + ((if decide (G_at (G_all f r (b + 1) (G_go f g b)) b ≠ G_at g b) = true then 1 else 0) + q_ctB (fun k => decide (G_at (G_all f r (b + 1) (G_go f g b)) k ≠ G_at g k)) r (b + 1))
    rw [ih, G_all_at f r (b + 1) _ b (by omega), ← G_went1_ne]
    have e : q_ctB (fun k => decide (G_at (G_all f r (b + 1) (G_go f g b)) k ≠ G_at (G_go f g b) k)) r (b + 1) = q_ctB (fun k => decide (G_at (G_all f r (b + 1) (G_go f g b)) k ≠ G_at g k)) r (b + 1) := q_ctB_cg r (b + 1) (fun k h1 h2 => by rw [G_go_at f g b k (by omega)])
    rw [e]
    split <;> omega
/-- the best cell so far, with how many go -/
def F_cn (f : q_Fl) (c : Nat) : Nat := G_cnt f (F_n f) 0 (G_sdog (G_0 f) c) 0
def F_sr (f : q_Fl) (s : Option (Nat × Nat)) (c : Nat) : Option (Nat × Nat) := if G_may f (G_0 f) c = true then (match s with
  | none => some (c, F_cn f c)
  | some (b, v) => if v < F_cn f c then some (c, F_cn f c) else some (b, v)) else s
def q_s2o (s : Option (Nat × Nat)) : Int32 := match s with
  | none => -1
  | some (_, v) => nI v
def F_sc (f : q_Fl) (s : Option (Nat × Nat)) (c : Nat) : Option (Nat × Nat) := if F_insB (F_w f) (F_h f) c = true then F_sr f s c else s
theorem F_cn_le {f : q_Fl} (wf : F_wf f) (c : Nat) : F_cn f c ≤ 6 := by
  unfold F_cn
  rw [G_cnt_ct]
  have := q_ctB_le (fun k => decide (G_at (G_all f (F_n f) 0 (G_sdog (G_0 f) c)) k ≠ G_at (G_sdog (G_0 f) c) k)) (F_n f) 0
  have := wf.2.2.2.1
  omega
theorem q_s2_le {s : Option (Nat × Nat)} {n : Nat} (hn : n ≤ 6) (hs : ∀ b v, s = some (b, v) → v ≤ 6) : nI n ≤ q_s2o s ↔ ∃ b v, s = some (b, v) ∧ n ≤ v := by
  cases s with
  | none =>
    have : ¬ nI n ≤ (-1 : Int32) := fun w => by
      have h1 := Int32.le_iff_toInt_le.mp w
      rw [nI_toInt (by omega)] at h1
      have : (-1 : Int32).toInt = -1 := by decide
      omega
    exact ⟨fun w => absurd w this, fun ⟨b, v, w, _⟩ => by cases w⟩
  | some p =>
    obtain ⟨b, v⟩ := p
    have h6 := hs b v rfl
    have : nI n ≤ nI v ↔ n ≤ v := nI_leI (by omega) (by omega)
    show nI n ≤ nI v ↔ _
    rw [this]
    exact ⟨fun w => ⟨b, v, rfl, w⟩, fun ⟨b', v', e, w⟩ => by cases e; exact w⟩
theorem F_sr_p {f : q_Fl} {s : Option (Nat × Nat)} {c : Nat} (hm : G_may f (G_0 f) c = true) (h : ¬ ∃ b v, s = some (b, v) ∧ F_cn f c ≤ v) : F_sr f s c = some (c, F_cn f c) := by
  unfold F_sr
  rw [if_pos hm]
  cases s with
  | none => rfl
  | some p =>
    obtain ⟨b, v⟩ := p
    show (if v < F_cn f c then some (c, F_cn f c) else some (b, v)) = _
    rw [if_pos]
    refine Nat.lt_of_not_le (fun w => h ⟨b, v, rfl, w⟩)
theorem F_sr_n {f : q_Fl} {s : Option (Nat × Nat)} {c : Nat} (h : ∃ b v, s = some (b, v) ∧ F_cn f c ≤ v) : F_sr f s c = s := by
  obtain ⟨b, v, rfl, w⟩ := h
  unfold F_sr
  split
  · show (if v < F_cn f c then some (c, F_cn f c) else some (b, v)) = _
    rw [if_neg (by omega)]
  · rfl
theorem F_sr_le {f : q_Fl} (wf : F_wf f) {s : Option (Nat × Nat)} {c : Nat} (hs : ∀ b v, s = some (b, v) → v ≤ 6) : ∀ b v, F_sr f s c = some (b, v) → v ≤ 6 := by
  intro b v w
  have c6 := F_cn_le wf c
  unfold F_sr at w
  split at w
  · split at w
    · cases w; exact c6
    · split at w
      · cases w; exact c6
      · exact hs b v w
  · exact hs b v w
