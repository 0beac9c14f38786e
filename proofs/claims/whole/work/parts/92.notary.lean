/-! part 92: the class: notary, dear, idle -/
theorem e128_0 {ls : List (Option Value)} {st : List Value} {h : am_H} {a : Nat} : am_ev 128 0 (some (.ref a) :: ls) (st) h = am_ev 128 1 (some (.ref a) :: ls) (.ref a :: st) h := am_ev_step (q := (1, some (.ref a) :: ls, .ref a :: st, h)) _ (.aload_n 0) 1 am_my_128 (by decide +kernel) rfl
theorem e128_1 {ls : List (Option Value)} {st : List Value} {h : am_H} {o : Nat} (hk : am_kd h o = some (.inl 10)) : am_ev 128 1 ls (.ref o :: st) h = am_ev 128 4 ls (va_rf (h.2.2.1 o 0) :: st) h := am_u_gfR (idx := 10) (wn := 2146) (a := 0) am_my_128 (by decide +kernel) (by decide +kernel) (by decide +kernel) hk
theorem e128_4 {ls : List (Option Value)} {st : List Value} {h : am_H} : am_ev 128 4 (ls) (st) h = am_ev 128 5 (ls) (.int (2) :: st) h := am_ev_step (q := (5, ls, .int (2) :: st, h)) _ (.iconst (2)) 1 am_my_128 (by decide +kernel) rfl
theorem e128_5 {ls : List (Option Value)} {st : List Value} {h : am_H} {l0 : Option Value} {a : Int32} : am_ev 128 5 (l0 :: some (.int a) :: ls) (st) h = am_ev 128 6 (l0 :: some (.int a) :: ls) (.int a :: st) h := am_ev_step (q := (6, l0 :: some (.int a) :: ls, .int a :: st, h)) _ (.iload_n 1) 1 am_my_128 (by decide +kernel) rfl
theorem e128_6 {ls : List (Option Value)} {st : List Value} {h : am_H} {p0 : Int32} {p1 : Int32} {o : Nat} (hw : am_w8 st ≤ 8) (hk : am_kd h o = some (.inl 8)) : am_ev 128 6 ls (.int p1 :: .int p0 :: .ref o :: st) h = am_bd (am_den 17 [.ref o, .int p0, .int p1] h) (fun v h1 => am_ev 128 9 ls (v.toList ++ st) h1) := am_u_cV (idx := 108) (wn := 2200) (as := [.int p0, .int p1]) am_my_128 (by decide +kernel) (Or.inl (by decide +kernel)) am_my_17 (by decide +kernel) rfl ⟨Nat.le_of_ble_eq_true rfl, rfl⟩ (by decide +kernel) hw hk
theorem e128_9 {ls : List (Option Value)} {st : List Value} {h : am_H} {a : Int32} : am_ev 128 9 ls (.int a :: st) h = if ¬ a = 0 then am_ev 128 14 ls st h else am_ev 128 12 ls st h := am_u_if1 (c := .ne) (off := 5) am_my_128 (by decide +kernel) (by decide)
theorem e128_12 {ls : List (Option Value)} {st : List Value} {h : am_H} : am_ev 128 12 (ls) (st) h = am_ev 128 13 (ls) (.int (-1) :: st) h := am_ev_step (q := (13, ls, .int (-1) :: st, h)) _ (.iconst (-1)) 1 am_my_128 (by decide +kernel) rfl
theorem e128_13 {ls : List (Option Value)} {h : am_H} {v : Int32} : am_ev 128 13 ls [.int v] h = some (some (.int v), h) := am_u_rtI am_my_128 (by decide +kernel) rfl
theorem e128_14 {ls : List (Option Value)} {st : List Value} {h : am_H} {a : Nat} : am_ev 128 14 (some (.ref a) :: ls) (st) h = am_ev 128 15 (some (.ref a) :: ls) (.ref a :: st) h := am_ev_step (q := (15, some (.ref a) :: ls, .ref a :: st, h)) _ (.aload_n 0) 1 am_my_128 (by decide +kernel) rfl
theorem e128_15 {ls : List (Option Value)} {st : List Value} {h : am_H} {o : Nat} (hk : am_kd h o = some (.inl 10)) : am_ev 128 15 ls (.ref o :: st) h = am_ev 128 18 ls (va_rf (h.2.2.1 o 0) :: st) h := am_u_gfR (idx := 10) (wn := 2146) (a := 0) am_my_128 (by decide +kernel) (by decide +kernel) (by decide +kernel) hk
theorem e128_18 {ls : List (Option Value)} {st : List Value} {h : am_H} {o : Nat} (hk : am_kd h o = some (.inl 8)) : am_ev 128 18 ls (.ref o :: st) h = am_ev 128 21 ls (va_rf (h.2.2.1 o 7) :: st) h := am_u_gfR (idx := 262) (wn := 1195) (a := 0) am_my_128 (by decide +kernel) (by decide +kernel) (by decide +kernel) hk
theorem e128_21 {ls : List (Option Value)} {st : List Value} {h : am_H} {l0 : Option Value} {a : Int32} : am_ev 128 21 (l0 :: some (.int a) :: ls) (st) h = am_ev 128 22 (l0 :: some (.int a) :: ls) (.int a :: st) h := am_ev_step (q := (22, l0 :: some (.int a) :: ls, .int a :: st, h)) _ (.iload_n 1) 1 am_my_128 (by decide +kernel) rfl
theorem e128_22f {ls : List (Option Value)} {st : List Value} {h : am_H} {i : Int32} {a : Nat} (ht : am_tc h a = some 4) : am_ev 128 22 ls (.int i :: .ref a :: st) h = if am_ix i (am_len h a) = true then am_ev 128 23 ls (va_rf (h.2.2.1 a i.toNatClampNeg) :: st) h else none := am_u_rA am_my_128 (by decide +kernel) ht (by decide)
theorem e128_22d {ls : List (Option Value)} {st : List Value} {h : am_H} {i : Int32} {a : Nat} (ht : am_tc h a = some 5) : am_ev 128 22 ls (.int i :: .ref a :: st) h = if am_ix i (am_len h a) = true then am_ev 128 23 ls (va_rf (h.2.2.1 a i.toNatClampNeg) :: st) h else none := am_u_rA am_my_128 (by decide +kernel) ht (by decide)
theorem e128_22b {ls : List (Option Value)} {st : List Value} {h : am_H} {i : Int32} {a : Nat} (ht : am_tc h a = some 6) : am_ev 128 22 ls (.int i :: .ref a :: st) h = if am_ix i (am_len h a) = true then am_ev 128 23 ls (va_rf (h.2.2.1 a i.toNatClampNeg) :: st) h else none := am_u_rA am_my_128 (by decide +kernel) ht (by decide)
theorem e128_22l {ls : List (Option Value)} {st : List Value} {h : am_H} {i : Int32} {a : Nat} (ht : am_tc h a = some 7) : am_ev 128 22 ls (.int i :: .ref a :: st) h = if am_ix i (am_len h a) = true then am_ev 128 23 ls (va_rf (h.2.2.1 a i.toNatClampNeg) :: st) h else none := am_u_rA am_my_128 (by decide +kernel) ht (by decide)
theorem e128_22t {ls : List (Option Value)} {st : List Value} {h : am_H} {i : Int32} {a : Nat} (ht : am_tc h a = some 8) : am_ev 128 22 ls (.int i :: .ref a :: st) h = if am_ix i (am_len h a) = true then am_ev 128 23 ls (va_rf (h.2.2.1 a i.toNatClampNeg) :: st) h else none := am_u_rA am_my_128 (by decide +kernel) ht (by decide)
theorem e128_23 {ls : List (Option Value)} {st : List Value} {h : am_H} {l0 l1 l2 : Option Value} {z : Option Value} {a : Nat} : am_ev 128 23 (l0 :: l1 :: l2 :: z :: ls) (.ref a :: st) h = am_ev 128 24 (l0 :: l1 :: l2 :: some (.ref a) :: ls) (st) h := am_ev_step (q := (24, l0 :: l1 :: l2 :: some (.ref a) :: ls, st, h)) _ (.astore_n 3) 1 am_my_128 (by decide +kernel) rfl
theorem e128_24 {ls : List (Option Value)} {st : List Value} {h : am_H} {l0 l1 : Option Value} {a : Int32} : am_ev 128 24 (l0 :: l1 :: some (.int a) :: ls) (st) h = am_ev 128 25 (l0 :: l1 :: some (.int a) :: ls) (.int a :: st) h := am_ev_step (q := (25, l0 :: l1 :: some (.int a) :: ls, .int a :: st, h)) _ (.iload_n 2) 1 am_my_128 (by decide +kernel) rfl
theorem e128_25 {ls : List (Option Value)} {st : List Value} {h : am_H} : am_ev 128 25 (ls) (st) h = am_ev 128 26 (ls) (.int (-1) :: st) h := am_ev_step (q := (26, ls, .int (-1) :: st, h)) _ (.iconst (-1)) 1 am_my_128 (by decide +kernel) rfl
theorem e128_26 {ls : List (Option Value)} {st : List Value} {h : am_H} {a b : Int32} : am_ev 128 26 ls (.int b :: .int a :: st) h = if ¬ a = b then am_ev 128 39 ls st h else am_ev 128 29 ls st h := am_u_if2 (c := .ne) (off := 13) am_my_128 (by decide +kernel) (by decide)
theorem e128_29 {ls : List (Option Value)} {st : List Value} {h : am_H} {a : Nat} : am_ev 128 29 (some (.ref a) :: ls) (st) h = am_ev 128 30 (some (.ref a) :: ls) (.ref a :: st) h := am_ev_step (q := (30, some (.ref a) :: ls, .ref a :: st, h)) _ (.aload_n 0) 1 am_my_128 (by decide +kernel) rfl
theorem e128_30 {ls : List (Option Value)} {st : List Value} {h : am_H} {o : Nat} (hk : am_kd h o = some (.inl 10)) : am_ev 128 30 ls (.ref o :: st) h = am_ev 128 33 ls (va_rf (h.2.2.1 o 10) :: st) h := am_u_gfR (idx := 68) (wn := 2156) (a := 0) am_my_128 (by decide +kernel) (by decide +kernel) (by decide +kernel) hk
theorem e128_33 {ls : List (Option Value)} {st : List Value} {h : am_H} {l0 l1 l2 : Option Value} {a : Nat} : am_ev 128 33 (l0 :: l1 :: l2 :: some (.ref a) :: ls) (st) h = am_ev 128 34 (l0 :: l1 :: l2 :: some (.ref a) :: ls) (.ref a :: st) h := am_ev_step (q := (34, l0 :: l1 :: l2 :: some (.ref a) :: ls, .ref a :: st, h)) _ (.aload_n 3) 1 am_my_128 (by decide +kernel) rfl
theorem e128_34 {ls : List (Option Value)} {st : List Value} {h : am_H} : am_ev 128 34 (ls) (st) h = am_ev 128 35 (ls) (.int (-1) :: st) h := am_ev_step (q := (35, ls, .int (-1) :: st, h)) _ (.iconst (-1)) 1 am_my_128 (by decide +kernel) rfl
theorem e128_35 {ls : List (Option Value)} {st : List Value} {h : am_H} {p0 : Nat} {p1 : Int32} {o : Nat} (hw : am_w8 st ≤ 8) (hk : am_kd h o = some (.inl 6)) : am_ev 128 35 ls (.int p1 :: .ref p0 :: .ref o :: st) h = am_bd (am_den 129 [.ref o, .ref p0, .int p1] h) (fun v h1 => am_ev 128 38 ls (v.toList ++ st) h1) := am_u_cV (idx := 269) (wn := 4220) (as := [.ref p0, .int p1]) am_my_128 (by decide +kernel) (Or.inl (by decide +kernel)) am_my_129 (by decide +kernel) rfl ⟨Nat.le_of_ble_eq_true rfl, rfl⟩ (by decide +kernel) hw hk
theorem e128_38 {ls : List (Option Value)} {h : am_H} {v : Int32} : am_ev 128 38 ls [.int v] h = some (some (.int v), h) := am_u_rtI am_my_128 (by decide +kernel) rfl
theorem e128_39 {ls : List (Option Value)} {st : List Value} {h : am_H} {l0 l1 : Option Value} {a : Int32} : am_ev 128 39 (l0 :: l1 :: some (.int a) :: ls) (st) h = am_ev 128 40 (l0 :: l1 :: some (.int a) :: ls) (.int a :: st) h := am_ev_step (q := (40, l0 :: l1 :: some (.int a) :: ls, .int a :: st, h)) _ (.iload_n 2) 1 am_my_128 (by decide +kernel) rfl
theorem e128_40 {ls : List (Option Value)} {st : List Value} {h : am_H} {a : Int32} : am_ev 128 40 ls (.int a :: st) h = if a < 0 then am_ev 128 51 ls st h else am_ev 128 43 ls st h := am_u_if1 (c := .lt) (off := 11) am_my_128 (by decide +kernel) (by decide)
theorem e128_43 {ls : List (Option Value)} {st : List Value} {h : am_H} {l0 l1 : Option Value} {a : Int32} : am_ev 128 43 (l0 :: l1 :: some (.int a) :: ls) (st) h = am_ev 128 44 (l0 :: l1 :: some (.int a) :: ls) (.int a :: st) h := am_ev_step (q := (44, l0 :: l1 :: some (.int a) :: ls, .int a :: st, h)) _ (.iload_n 2) 1 am_my_128 (by decide +kernel) rfl
theorem e128_44 {ls : List (Option Value)} {st : List Value} {h : am_H} {l0 l1 l2 : Option Value} {a : Nat} : am_ev 128 44 (l0 :: l1 :: l2 :: some (.ref a) :: ls) (st) h = am_ev 128 45 (l0 :: l1 :: l2 :: some (.ref a) :: ls) (.ref a :: st) h := am_ev_step (q := (45, l0 :: l1 :: l2 :: some (.ref a) :: ls, .ref a :: st, h)) _ (.aload_n 3) 1 am_my_128 (by decide +kernel) rfl
theorem e128_45 {ls : List (Option Value)} {st : List Value} {h : am_H} {o : Nat} (hk : am_kd h o = some (.inl 0)) : am_ev 128 45 ls (.ref o :: st) h = am_ev 128 48 ls (.int (h.1 o 1) :: st) h := am_u_gfI (idx := 273) (wn := 1125) am_my_128 (by decide +kernel) (by decide +kernel) (by decide +kernel) hk
theorem e128_48 {ls : List (Option Value)} {st : List Value} {h : am_H} {a b : Int32} : am_ev 128 48 ls (.int b :: .int a :: st) h = if a < b then am_ev 128 53 ls st h else am_ev 128 51 ls st h := am_u_if2 (c := .lt) (off := 5) am_my_128 (by decide +kernel) (by decide)
theorem e128_51 {ls : List (Option Value)} {st : List Value} {h : am_H} : am_ev 128 51 (ls) (st) h = am_ev 128 52 (ls) (.int (-1) :: st) h := am_ev_step (q := (52, ls, .int (-1) :: st, h)) _ (.iconst (-1)) 1 am_my_128 (by decide +kernel) rfl
theorem e128_52 {ls : List (Option Value)} {h : am_H} {v : Int32} : am_ev 128 52 ls [.int v] h = some (some (.int v), h) := am_u_rtI am_my_128 (by decide +kernel) rfl
theorem e128_53 {ls : List (Option Value)} {st : List Value} {h : am_H} {a : Nat} : am_ev 128 53 (some (.ref a) :: ls) (st) h = am_ev 128 54 (some (.ref a) :: ls) (.ref a :: st) h := am_ev_step (q := (54, some (.ref a) :: ls, .ref a :: st, h)) _ (.aload_n 0) 1 am_my_128 (by decide +kernel) rfl
theorem e128_54 {ls : List (Option Value)} {st : List Value} {h : am_H} {o : Nat} (hk : am_kd h o = some (.inl 10)) : am_ev 128 54 ls (.ref o :: st) h = am_ev 128 57 ls (va_rf (h.2.2.1 o 10) :: st) h := am_u_gfR (idx := 68) (wn := 2156) (a := 0) am_my_128 (by decide +kernel) (by decide +kernel) (by decide +kernel) hk
theorem e128_57 {ls : List (Option Value)} {st : List Value} {h : am_H} {l0 l1 l2 : Option Value} {a : Nat} : am_ev 128 57 (l0 :: l1 :: l2 :: some (.ref a) :: ls) (st) h = am_ev 128 58 (l0 :: l1 :: l2 :: some (.ref a) :: ls) (.ref a :: st) h := am_ev_step (q := (58, l0 :: l1 :: l2 :: some (.ref a) :: ls, .ref a :: st, h)) _ (.aload_n 3) 1 am_my_128 (by decide +kernel) rfl
theorem e128_58 {ls : List (Option Value)} {st : List Value} {h : am_H} {p0 : Nat} {o : Nat} (hw : am_w8 st ≤ 8) (hk : am_kd h o = some (.inl 6)) : am_ev 128 58 ls (.ref p0 :: .ref o :: st) h = am_bd (am_den 135 [.ref o, .ref p0] h) (fun v h1 => am_ev 128 61 ls (v.toList ++ st) h1) := am_u_cV (idx := 276) (wn := 5006) (as := [.ref p0]) am_my_128 (by decide +kernel) (Or.inl (by decide +kernel)) am_my_135 (by decide +kernel) rfl ⟨Nat.le_of_ble_eq_true rfl, rfl⟩ (by decide +kernel) hw hk
theorem e128_61 {ls : List (Option Value)} {st : List Value} {h : am_H} {a : Nat} : am_ev 128 61 (some (.ref a) :: ls) (st) h = am_ev 128 62 (some (.ref a) :: ls) (.ref a :: st) h := am_ev_step (q := (62, some (.ref a) :: ls, .ref a :: st, h)) _ (.aload_n 0) 1 am_my_128 (by decide +kernel) rfl
theorem e128_62 {ls : List (Option Value)} {st : List Value} {h : am_H} {o : Nat} (hk : am_kd h o = some (.inl 10)) : am_ev 128 62 ls (.ref o :: st) h = am_ev 128 65 ls (va_rf (h.2.2.1 o 10) :: st) h := am_u_gfR (idx := 68) (wn := 2156) (a := 0) am_my_128 (by decide +kernel) (by decide +kernel) (by decide +kernel) hk
theorem e128_65 {ls : List (Option Value)} {st : List Value} {h : am_H} {o : Nat} (hk : am_kd h o = some (.inl 6)) : am_ev 128 65 ls (.ref o :: st) h = am_ev 128 68 ls (va_rf (h.2.2.1 o 0) :: st) h := am_u_gfR (idx := 280) (wn := 2130) (a := 0) am_my_128 (by decide +kernel) (by decide +kernel) (by decide +kernel) hk
theorem e128_68 {ls : List (Option Value)} {st : List Value} {h : am_H} {l0 l1 : Option Value} {a : Int32} : am_ev 128 68 (l0 :: l1 :: some (.int a) :: ls) (st) h = am_ev 128 69 (l0 :: l1 :: some (.int a) :: ls) (.int a :: st) h := am_ev_step (q := (69, l0 :: l1 :: some (.int a) :: ls, .int a :: st, h)) _ (.iload_n 2) 1 am_my_128 (by decide +kernel) rfl
theorem e128_69 {ls : List (Option Value)} {st : List Value} {h : am_H} {i : Int32} {a : Nat} (ht : am_tc h a = some 0) : am_ev 128 69 ls (.int i :: .ref a :: st) h = if am_ix i (am_len h a) = true then am_ev 128 70 ls (.int (h.1 a i.toNatClampNeg) :: st) h else none := am_u_rI am_my_128 (by decide +kernel) ht
theorem e128_70 {ls : List (Option Value)} {h : am_H} {v : Int32} : am_ev 128 70 ls [.int v] h = some (some (.int v), h) := am_u_rtI am_my_128 (by decide +kernel) rfl
theorem e136_0 {ls : List (Option Value)} {st : List Value} {h : am_H} {a : Nat} : am_ev 136 0 (some (.ref a) :: ls) (st) h = am_ev 136 1 (some (.ref a) :: ls) (.ref a :: st) h := am_ev_step (q := (1, some (.ref a) :: ls, .ref a :: st, h)) _ (.aload_n 0) 1 am_my_136 (by decide +kernel) rfl
theorem e136_1 {ls : List (Option Value)} {st : List Value} {h : am_H} {o : Nat} (hk : am_kd h o = some (.inl 10)) : am_ev 136 1 ls (.ref o :: st) h = am_ev 136 4 ls (va_rf (h.2.2.1 o 0) :: st) h := am_u_gfR (idx := 10) (wn := 2146) (a := 0) am_my_136 (by decide +kernel) (by decide +kernel) (by decide +kernel) hk
theorem e136_4 {ls : List (Option Value)} {st : List Value} {h : am_H} : am_ev 136 4 (ls) (st) h = am_ev 136 5 (ls) (.int (2) :: st) h := am_ev_step (q := (5, ls, .int (2) :: st, h)) _ (.iconst (2)) 1 am_my_136 (by decide +kernel) rfl
theorem e136_5 {ls : List (Option Value)} {st : List Value} {h : am_H} {l0 : Option Value} {a : Int32} : am_ev 136 5 (l0 :: some (.int a) :: ls) (st) h = am_ev 136 6 (l0 :: some (.int a) :: ls) (.int a :: st) h := am_ev_step (q := (6, l0 :: some (.int a) :: ls, .int a :: st, h)) _ (.iload_n 1) 1 am_my_136 (by decide +kernel) rfl
theorem e136_6 {ls : List (Option Value)} {st : List Value} {h : am_H} {p0 : Int32} {p1 : Int32} {o : Nat} (hw : am_w8 st ≤ 8) (hk : am_kd h o = some (.inl 8)) : am_ev 136 6 ls (.int p1 :: .int p0 :: .ref o :: st) h = am_bd (am_den 17 [.ref o, .int p0, .int p1] h) (fun v h1 => am_ev 136 9 ls (v.toList ++ st) h1) := am_u_cV (idx := 108) (wn := 2200) (as := [.int p0, .int p1]) am_my_136 (by decide +kernel) (Or.inl (by decide +kernel)) am_my_17 (by decide +kernel) rfl ⟨Nat.le_of_ble_eq_true rfl, rfl⟩ (by decide +kernel) hw hk
theorem e136_9 {ls : List (Option Value)} {st : List Value} {h : am_H} {a : Int32} : am_ev 136 9 ls (.int a :: st) h = if a = 0 then am_ev 136 32 ls st h else am_ev 136 12 ls st h := am_u_if1 (c := .eq) (off := 23) am_my_136 (by decide +kernel) (by decide)
theorem e136_12 {ls : List (Option Value)} {st : List Value} {h : am_H} {l0 l1 : Option Value} {a : Int32} : am_ev 136 12 (l0 :: l1 :: some (.int a) :: ls) (st) h = am_ev 136 13 (l0 :: l1 :: some (.int a) :: ls) (.int a :: st) h := am_ev_step (q := (13, l0 :: l1 :: some (.int a) :: ls, .int a :: st, h)) _ (.iload_n 2) 1 am_my_136 (by decide +kernel) rfl
theorem e136_13 {ls : List (Option Value)} {st : List Value} {h : am_H} {a : Int32} : am_ev 136 13 ls (.int a :: st) h = if a < 0 then am_ev 136 32 ls st h else am_ev 136 16 ls st h := am_u_if1 (c := .lt) (off := 19) am_my_136 (by decide +kernel) (by decide)
theorem e136_16 {ls : List (Option Value)} {st : List Value} {h : am_H} {l0 l1 : Option Value} {a : Int32} : am_ev 136 16 (l0 :: l1 :: some (.int a) :: ls) (st) h = am_ev 136 17 (l0 :: l1 :: some (.int a) :: ls) (.int a :: st) h := am_ev_step (q := (17, l0 :: l1 :: some (.int a) :: ls, .int a :: st, h)) _ (.iload_n 2) 1 am_my_136 (by decide +kernel) rfl
theorem e136_17 {ls : List (Option Value)} {st : List Value} {h : am_H} {a : Nat} : am_ev 136 17 (some (.ref a) :: ls) (st) h = am_ev 136 18 (some (.ref a) :: ls) (.ref a :: st) h := am_ev_step (q := (18, some (.ref a) :: ls, .ref a :: st, h)) _ (.aload_n 0) 1 am_my_136 (by decide +kernel) rfl
theorem e136_18 {ls : List (Option Value)} {st : List Value} {h : am_H} {o : Nat} (hk : am_kd h o = some (.inl 10)) : am_ev 136 18 ls (.ref o :: st) h = am_ev 136 21 ls (va_rf (h.2.2.1 o 0) :: st) h := am_u_gfR (idx := 10) (wn := 2146) (a := 0) am_my_136 (by decide +kernel) (by decide +kernel) (by decide +kernel) hk
theorem e136_21 {ls : List (Option Value)} {st : List Value} {h : am_H} {o : Nat} (hk : am_kd h o = some (.inl 8)) : am_ev 136 21 ls (.ref o :: st) h = am_ev 136 24 ls (va_rf (h.2.2.1 o 7) :: st) h := am_u_gfR (idx := 262) (wn := 1195) (a := 0) am_my_136 (by decide +kernel) (by decide +kernel) (by decide +kernel) hk
theorem e136_24 {ls : List (Option Value)} {st : List Value} {h : am_H} {l0 : Option Value} {a : Int32} : am_ev 136 24 (l0 :: some (.int a) :: ls) (st) h = am_ev 136 25 (l0 :: some (.int a) :: ls) (.int a :: st) h := am_ev_step (q := (25, l0 :: some (.int a) :: ls, .int a :: st, h)) _ (.iload_n 1) 1 am_my_136 (by decide +kernel) rfl
theorem e136_25f {ls : List (Option Value)} {st : List Value} {h : am_H} {i : Int32} {a : Nat} (ht : am_tc h a = some 4) : am_ev 136 25 ls (.int i :: .ref a :: st) h = if am_ix i (am_len h a) = true then am_ev 136 26 ls (va_rf (h.2.2.1 a i.toNatClampNeg) :: st) h else none := am_u_rA am_my_136 (by decide +kernel) ht (by decide)
theorem e136_25d {ls : List (Option Value)} {st : List Value} {h : am_H} {i : Int32} {a : Nat} (ht : am_tc h a = some 5) : am_ev 136 25 ls (.int i :: .ref a :: st) h = if am_ix i (am_len h a) = true then am_ev 136 26 ls (va_rf (h.2.2.1 a i.toNatClampNeg) :: st) h else none := am_u_rA am_my_136 (by decide +kernel) ht (by decide)
theorem e136_25b {ls : List (Option Value)} {st : List Value} {h : am_H} {i : Int32} {a : Nat} (ht : am_tc h a = some 6) : am_ev 136 25 ls (.int i :: .ref a :: st) h = if am_ix i (am_len h a) = true then am_ev 136 26 ls (va_rf (h.2.2.1 a i.toNatClampNeg) :: st) h else none := am_u_rA am_my_136 (by decide +kernel) ht (by decide)
theorem e136_25l {ls : List (Option Value)} {st : List Value} {h : am_H} {i : Int32} {a : Nat} (ht : am_tc h a = some 7) : am_ev 136 25 ls (.int i :: .ref a :: st) h = if am_ix i (am_len h a) = true then am_ev 136 26 ls (va_rf (h.2.2.1 a i.toNatClampNeg) :: st) h else none := am_u_rA am_my_136 (by decide +kernel) ht (by decide)
theorem e136_25t {ls : List (Option Value)} {st : List Value} {h : am_H} {i : Int32} {a : Nat} (ht : am_tc h a = some 8) : am_ev 136 25 ls (.int i :: .ref a :: st) h = if am_ix i (am_len h a) = true then am_ev 136 26 ls (va_rf (h.2.2.1 a i.toNatClampNeg) :: st) h else none := am_u_rA am_my_136 (by decide +kernel) ht (by decide)
theorem e136_26 {ls : List (Option Value)} {st : List Value} {h : am_H} {o : Nat} (hk : am_kd h o = some (.inl 0)) : am_ev 136 26 ls (.ref o :: st) h = am_ev 136 29 ls (.int (h.1 o 0) :: st) h := am_u_gfI (idx := 283) (wn := 1122) am_my_136 (by decide +kernel) (by decide +kernel) (by decide +kernel) hk
theorem e136_29 {ls : List (Option Value)} {st : List Value} {h : am_H} {a b : Int32} : am_ev 136 29 ls (.int b :: .int a :: st) h = if a < b then am_ev 136 34 ls st h else am_ev 136 32 ls st h := am_u_if2 (c := .lt) (off := 5) am_my_136 (by decide +kernel) (by decide)
theorem e136_32 {ls : List (Option Value)} {st : List Value} {h : am_H} : am_ev 136 32 (ls) (st) h = am_ev 136 33 (ls) (.int (-1) :: st) h := am_ev_step (q := (33, ls, .int (-1) :: st, h)) _ (.iconst (-1)) 1 am_my_136 (by decide +kernel) rfl
theorem e136_33 {ls : List (Option Value)} {h : am_H} {v : Int32} : am_ev 136 33 ls [.int v] h = some (some (.int v), h) := am_u_rtI am_my_136 (by decide +kernel) rfl
theorem e136_34 {ls : List (Option Value)} {st : List Value} {h : am_H} {a : Nat} : am_ev 136 34 (some (.ref a) :: ls) (st) h = am_ev 136 35 (some (.ref a) :: ls) (.ref a :: st) h := am_ev_step (q := (35, some (.ref a) :: ls, .ref a :: st, h)) _ (.aload_n 0) 1 am_my_136 (by decide +kernel) rfl
theorem e136_35 {ls : List (Option Value)} {st : List Value} {h : am_H} {o : Nat} (hk : am_kd h o = some (.inl 10)) : am_ev 136 35 ls (.ref o :: st) h = am_ev 136 38 ls (va_rf (h.2.2.1 o 0) :: st) h := am_u_gfR (idx := 10) (wn := 2146) (a := 0) am_my_136 (by decide +kernel) (by decide +kernel) (by decide +kernel) hk
theorem e136_38 {ls : List (Option Value)} {st : List Value} {h : am_H} {o : Nat} (hk : am_kd h o = some (.inl 8)) : am_ev 136 38 ls (.ref o :: st) h = am_ev 136 41 ls (va_rf (h.2.2.1 o 7) :: st) h := am_u_gfR (idx := 262) (wn := 1195) (a := 0) am_my_136 (by decide +kernel) (by decide +kernel) (by decide +kernel) hk
theorem e136_41 {ls : List (Option Value)} {st : List Value} {h : am_H} {l0 : Option Value} {a : Int32} : am_ev 136 41 (l0 :: some (.int a) :: ls) (st) h = am_ev 136 42 (l0 :: some (.int a) :: ls) (.int a :: st) h := am_ev_step (q := (42, l0 :: some (.int a) :: ls, .int a :: st, h)) _ (.iload_n 1) 1 am_my_136 (by decide +kernel) rfl
theorem e136_42f {ls : List (Option Value)} {st : List Value} {h : am_H} {i : Int32} {a : Nat} (ht : am_tc h a = some 4) : am_ev 136 42 ls (.int i :: .ref a :: st) h = if am_ix i (am_len h a) = true then am_ev 136 43 ls (va_rf (h.2.2.1 a i.toNatClampNeg) :: st) h else none := am_u_rA am_my_136 (by decide +kernel) ht (by decide)
theorem e136_42d {ls : List (Option Value)} {st : List Value} {h : am_H} {i : Int32} {a : Nat} (ht : am_tc h a = some 5) : am_ev 136 42 ls (.int i :: .ref a :: st) h = if am_ix i (am_len h a) = true then am_ev 136 43 ls (va_rf (h.2.2.1 a i.toNatClampNeg) :: st) h else none := am_u_rA am_my_136 (by decide +kernel) ht (by decide)
theorem e136_42b {ls : List (Option Value)} {st : List Value} {h : am_H} {i : Int32} {a : Nat} (ht : am_tc h a = some 6) : am_ev 136 42 ls (.int i :: .ref a :: st) h = if am_ix i (am_len h a) = true then am_ev 136 43 ls (va_rf (h.2.2.1 a i.toNatClampNeg) :: st) h else none := am_u_rA am_my_136 (by decide +kernel) ht (by decide)
theorem e136_42l {ls : List (Option Value)} {st : List Value} {h : am_H} {i : Int32} {a : Nat} (ht : am_tc h a = some 7) : am_ev 136 42 ls (.int i :: .ref a :: st) h = if am_ix i (am_len h a) = true then am_ev 136 43 ls (va_rf (h.2.2.1 a i.toNatClampNeg) :: st) h else none := am_u_rA am_my_136 (by decide +kernel) ht (by decide)
theorem e136_42t {ls : List (Option Value)} {st : List Value} {h : am_H} {i : Int32} {a : Nat} (ht : am_tc h a = some 8) : am_ev 136 42 ls (.int i :: .ref a :: st) h = if am_ix i (am_len h a) = true then am_ev 136 43 ls (va_rf (h.2.2.1 a i.toNatClampNeg) :: st) h else none := am_u_rA am_my_136 (by decide +kernel) ht (by decide)
theorem e136_43 {ls : List (Option Value)} {st : List Value} {h : am_H} {l0 l1 l2 : Option Value} {z : Option Value} {a : Nat} : am_ev 136 43 (l0 :: l1 :: l2 :: z :: ls) (.ref a :: st) h = am_ev 136 44 (l0 :: l1 :: l2 :: some (.ref a) :: ls) (st) h := am_ev_step (q := (44, l0 :: l1 :: l2 :: some (.ref a) :: ls, st, h)) _ (.astore_n 3) 1 am_my_136 (by decide +kernel) rfl
theorem e136_44 {ls : List (Option Value)} {st : List Value} {h : am_H} {a : Nat} : am_ev 136 44 (some (.ref a) :: ls) (st) h = am_ev 136 45 (some (.ref a) :: ls) (.ref a :: st) h := am_ev_step (q := (45, some (.ref a) :: ls, .ref a :: st, h)) _ (.aload_n 0) 1 am_my_136 (by decide +kernel) rfl
theorem e136_45 {ls : List (Option Value)} {st : List Value} {h : am_H} {o : Nat} (hk : am_kd h o = some (.inl 10)) : am_ev 136 45 ls (.ref o :: st) h = am_ev 136 48 ls (va_rf (h.2.2.1 o 10) :: st) h := am_u_gfR (idx := 68) (wn := 2156) (a := 0) am_my_136 (by decide +kernel) (by decide +kernel) (by decide +kernel) hk
theorem e136_48 {ls : List (Option Value)} {st : List Value} {h : am_H} {l0 l1 l2 : Option Value} {a : Nat} : am_ev 136 48 (l0 :: l1 :: l2 :: some (.ref a) :: ls) (st) h = am_ev 136 49 (l0 :: l1 :: l2 :: some (.ref a) :: ls) (.ref a :: st) h := am_ev_step (q := (49, l0 :: l1 :: l2 :: some (.ref a) :: ls, .ref a :: st, h)) _ (.aload_n 3) 1 am_my_136 (by decide +kernel) rfl
theorem e136_49 {ls : List (Option Value)} {st : List Value} {h : am_H} : am_ev 136 49 (ls) (st) h = am_ev 136 50 (ls) (.int (-1) :: st) h := am_ev_step (q := (50, ls, .int (-1) :: st, h)) _ (.iconst (-1)) 1 am_my_136 (by decide +kernel) rfl
theorem e136_50 {ls : List (Option Value)} {st : List Value} {h : am_H} {p0 : Nat} {p1 : Int32} {o : Nat} (hw : am_w8 st ≤ 8) (hk : am_kd h o = some (.inl 6)) : am_ev 136 50 ls (.int p1 :: .ref p0 :: .ref o :: st) h = am_bd (am_den 129 [.ref o, .ref p0, .int p1] h) (fun v h1 => am_ev 136 53 ls (v.toList ++ st) h1) := am_u_cV (idx := 269) (wn := 4220) (as := [.ref p0, .int p1]) am_my_136 (by decide +kernel) (Or.inl (by decide +kernel)) am_my_129 (by decide +kernel) rfl ⟨Nat.le_of_ble_eq_true rfl, rfl⟩ (by decide +kernel) hw hk
theorem e136_53 {ls : List (Option Value)} {st : List Value} {h : am_H} {a : Nat} : am_ev 136 53 (some (.ref a) :: ls) (st) h = am_ev 136 54 (some (.ref a) :: ls) (.ref a :: st) h := am_ev_step (q := (54, some (.ref a) :: ls, .ref a :: st, h)) _ (.aload_n 0) 1 am_my_136 (by decide +kernel) rfl
theorem e136_54 {ls : List (Option Value)} {st : List Value} {h : am_H} {o : Nat} (hk : am_kd h o = some (.inl 10)) : am_ev 136 54 ls (.ref o :: st) h = am_ev 136 57 ls (va_rf (h.2.2.1 o 10) :: st) h := am_u_gfR (idx := 68) (wn := 2156) (a := 0) am_my_136 (by decide +kernel) (by decide +kernel) (by decide +kernel) hk
theorem e136_57 {ls : List (Option Value)} {st : List Value} {h : am_H} {l0 l1 l2 : Option Value} {a : Nat} : am_ev 136 57 (l0 :: l1 :: l2 :: some (.ref a) :: ls) (st) h = am_ev 136 58 (l0 :: l1 :: l2 :: some (.ref a) :: ls) (.ref a :: st) h := am_ev_step (q := (58, l0 :: l1 :: l2 :: some (.ref a) :: ls, .ref a :: st, h)) _ (.aload_n 3) 1 am_my_136 (by decide +kernel) rfl
theorem e136_58 {ls : List (Option Value)} {st : List Value} {h : am_H} {l0 l1 : Option Value} {a : Int32} : am_ev 136 58 (l0 :: l1 :: some (.int a) :: ls) (st) h = am_ev 136 59 (l0 :: l1 :: some (.int a) :: ls) (.int a :: st) h := am_ev_step (q := (59, l0 :: l1 :: some (.int a) :: ls, .int a :: st, h)) _ (.iload_n 2) 1 am_my_136 (by decide +kernel) rfl
theorem e136_59 {ls : List (Option Value)} {st : List Value} {h : am_H} {p0 : Nat} {p1 : Int32} {o : Nat} (hw : am_w8 st ≤ 8) (hk : am_kd h o = some (.inl 6)) : am_ev 136 59 ls (.int p1 :: .ref p0 :: .ref o :: st) h = am_bd (am_den 129 [.ref o, .ref p0, .int p1] h) (fun v h1 => am_ev 136 62 ls (v.toList ++ st) h1) := am_u_cV (idx := 269) (wn := 4220) (as := [.ref p0, .int p1]) am_my_136 (by decide +kernel) (Or.inl (by decide +kernel)) am_my_129 (by decide +kernel) rfl ⟨Nat.le_of_ble_eq_true rfl, rfl⟩ (by decide +kernel) hw hk
theorem e136_62 {ls : List (Option Value)} {st : List Value} {h : am_H} {a b : Int32} : am_ev 136 62 (ls) (.int b :: .int a :: st) h = am_ev 136 63 (ls) (.int (a - b) :: st) h := am_ev_step (q := (63, ls, .int (a - b) :: st, h)) _ (.isub) 1 am_my_136 (by decide +kernel) rfl
theorem e136_63 {ls : List (Option Value)} {h : am_H} {v : Int32} : am_ev 136 63 ls [.int v] h = some (some (.int v), h) := am_u_rtI am_my_136 (by decide +kernel) rfl
theorem e137_0 {ls : List (Option Value)} {st : List Value} {h : am_H} {a : Nat} : am_ev 137 0 (some (.ref a) :: ls) (st) h = am_ev 137 1 (some (.ref a) :: ls) (.ref a :: st) h := am_ev_step (q := (1, some (.ref a) :: ls, .ref a :: st, h)) _ (.aload_n 0) 1 am_my_137 (by decide +kernel) rfl
theorem e137_1 {ls : List (Option Value)} {st : List Value} {h : am_H} {o : Nat} (hk : am_kd h o = some (.inl 10)) : am_ev 137 1 ls (.ref o :: st) h = am_ev 137 4 ls (va_rf (h.2.2.1 o 0) :: st) h := am_u_gfR (idx := 10) (wn := 2146) (a := 0) am_my_137 (by decide +kernel) (by decide +kernel) (by decide +kernel) hk
theorem e137_4 {ls : List (Option Value)} {st : List Value} {h : am_H} : am_ev 137 4 (ls) (st) h = am_ev 137 5 (ls) (.int (2) :: st) h := am_ev_step (q := (5, ls, .int (2) :: st, h)) _ (.iconst (2)) 1 am_my_137 (by decide +kernel) rfl
theorem e137_5 {ls : List (Option Value)} {st : List Value} {h : am_H} {l0 : Option Value} {a : Int32} : am_ev 137 5 (l0 :: some (.int a) :: ls) (st) h = am_ev 137 6 (l0 :: some (.int a) :: ls) (.int a :: st) h := am_ev_step (q := (6, l0 :: some (.int a) :: ls, .int a :: st, h)) _ (.iload_n 1) 1 am_my_137 (by decide +kernel) rfl
theorem e137_6 {ls : List (Option Value)} {st : List Value} {h : am_H} {p0 : Int32} {p1 : Int32} {o : Nat} (hw : am_w8 st ≤ 8) (hk : am_kd h o = some (.inl 8)) : am_ev 137 6 ls (.int p1 :: .int p0 :: .ref o :: st) h = am_bd (am_den 17 [.ref o, .int p0, .int p1] h) (fun v h1 => am_ev 137 9 ls (v.toList ++ st) h1) := am_u_cV (idx := 108) (wn := 2200) (as := [.int p0, .int p1]) am_my_137 (by decide +kernel) (Or.inl (by decide +kernel)) am_my_17 (by decide +kernel) rfl ⟨Nat.le_of_ble_eq_true rfl, rfl⟩ (by decide +kernel) hw hk
theorem e137_9 {ls : List (Option Value)} {st : List Value} {h : am_H} {a : Int32} : am_ev 137 9 ls (.int a :: st) h = if ¬ a = 0 then am_ev 137 14 ls st h else am_ev 137 12 ls st h := am_u_if1 (c := .ne) (off := 5) am_my_137 (by decide +kernel) (by decide)
theorem e137_12 {ls : List (Option Value)} {st : List Value} {h : am_H} : am_ev 137 12 (ls) (st) h = am_ev 137 13 (ls) (.int (-1) :: st) h := am_ev_step (q := (13, ls, .int (-1) :: st, h)) _ (.iconst (-1)) 1 am_my_137 (by decide +kernel) rfl
theorem e137_13 {ls : List (Option Value)} {h : am_H} {v : Int32} : am_ev 137 13 ls [.int v] h = some (some (.int v), h) := am_u_rtI am_my_137 (by decide +kernel) rfl
theorem e137_14 {ls : List (Option Value)} {st : List Value} {h : am_H} {a : Nat} : am_ev 137 14 (some (.ref a) :: ls) (st) h = am_ev 137 15 (some (.ref a) :: ls) (.ref a :: st) h := am_ev_step (q := (15, some (.ref a) :: ls, .ref a :: st, h)) _ (.aload_n 0) 1 am_my_137 (by decide +kernel) rfl
theorem e137_15 {ls : List (Option Value)} {st : List Value} {h : am_H} {o : Nat} (hk : am_kd h o = some (.inl 10)) : am_ev 137 15 ls (.ref o :: st) h = am_ev 137 18 ls (va_rf (h.2.2.1 o 0) :: st) h := am_u_gfR (idx := 10) (wn := 2146) (a := 0) am_my_137 (by decide +kernel) (by decide +kernel) (by decide +kernel) hk
theorem e137_18 {ls : List (Option Value)} {st : List Value} {h : am_H} {o : Nat} (hk : am_kd h o = some (.inl 8)) : am_ev 137 18 ls (.ref o :: st) h = am_ev 137 21 ls (va_rf (h.2.2.1 o 7) :: st) h := am_u_gfR (idx := 262) (wn := 1195) (a := 0) am_my_137 (by decide +kernel) (by decide +kernel) (by decide +kernel) hk
theorem e137_21 {ls : List (Option Value)} {st : List Value} {h : am_H} {l0 : Option Value} {a : Int32} : am_ev 137 21 (l0 :: some (.int a) :: ls) (st) h = am_ev 137 22 (l0 :: some (.int a) :: ls) (.int a :: st) h := am_ev_step (q := (22, l0 :: some (.int a) :: ls, .int a :: st, h)) _ (.iload_n 1) 1 am_my_137 (by decide +kernel) rfl
theorem e137_22f {ls : List (Option Value)} {st : List Value} {h : am_H} {i : Int32} {a : Nat} (ht : am_tc h a = some 4) : am_ev 137 22 ls (.int i :: .ref a :: st) h = if am_ix i (am_len h a) = true then am_ev 137 23 ls (va_rf (h.2.2.1 a i.toNatClampNeg) :: st) h else none := am_u_rA am_my_137 (by decide +kernel) ht (by decide)
theorem e137_22d {ls : List (Option Value)} {st : List Value} {h : am_H} {i : Int32} {a : Nat} (ht : am_tc h a = some 5) : am_ev 137 22 ls (.int i :: .ref a :: st) h = if am_ix i (am_len h a) = true then am_ev 137 23 ls (va_rf (h.2.2.1 a i.toNatClampNeg) :: st) h else none := am_u_rA am_my_137 (by decide +kernel) ht (by decide)
theorem e137_22b {ls : List (Option Value)} {st : List Value} {h : am_H} {i : Int32} {a : Nat} (ht : am_tc h a = some 6) : am_ev 137 22 ls (.int i :: .ref a :: st) h = if am_ix i (am_len h a) = true then am_ev 137 23 ls (va_rf (h.2.2.1 a i.toNatClampNeg) :: st) h else none := am_u_rA am_my_137 (by decide +kernel) ht (by decide)
theorem e137_22l {ls : List (Option Value)} {st : List Value} {h : am_H} {i : Int32} {a : Nat} (ht : am_tc h a = some 7) : am_ev 137 22 ls (.int i :: .ref a :: st) h = if am_ix i (am_len h a) = true then am_ev 137 23 ls (va_rf (h.2.2.1 a i.toNatClampNeg) :: st) h else none := am_u_rA am_my_137 (by decide +kernel) ht (by decide)
theorem e137_22t {ls : List (Option Value)} {st : List Value} {h : am_H} {i : Int32} {a : Nat} (ht : am_tc h a = some 8) : am_ev 137 22 ls (.int i :: .ref a :: st) h = if am_ix i (am_len h a) = true then am_ev 137 23 ls (va_rf (h.2.2.1 a i.toNatClampNeg) :: st) h else none := am_u_rA am_my_137 (by decide +kernel) ht (by decide)
theorem e137_23 {ls : List (Option Value)} {st : List Value} {h : am_H} {l0 l1 : Option Value} {z : Option Value} {a : Nat} : am_ev 137 23 (l0 :: l1 :: z :: ls) (.ref a :: st) h = am_ev 137 24 (l0 :: l1 :: some (.ref a) :: ls) (st) h := am_ev_step (q := (24, l0 :: l1 :: some (.ref a) :: ls, st, h)) _ (.astore_n 2) 1 am_my_137 (by decide +kernel) rfl
theorem e137_24 {ls : List (Option Value)} {st : List Value} {h : am_H} {a : Nat} : am_ev 137 24 (some (.ref a) :: ls) (st) h = am_ev 137 25 (some (.ref a) :: ls) (.ref a :: st) h := am_ev_step (q := (25, some (.ref a) :: ls, .ref a :: st, h)) _ (.aload_n 0) 1 am_my_137 (by decide +kernel) rfl
theorem e137_25 {ls : List (Option Value)} {st : List Value} {h : am_H} {o : Nat} (hk : am_kd h o = some (.inl 10)) : am_ev 137 25 ls (.ref o :: st) h = am_ev 137 28 ls (va_rf (h.2.2.1 o 10) :: st) h := am_u_gfR (idx := 68) (wn := 2156) (a := 0) am_my_137 (by decide +kernel) (by decide +kernel) (by decide +kernel) hk
theorem e137_28 {ls : List (Option Value)} {st : List Value} {h : am_H} {l0 l1 : Option Value} {a : Nat} : am_ev 137 28 (l0 :: l1 :: some (.ref a) :: ls) (st) h = am_ev 137 29 (l0 :: l1 :: some (.ref a) :: ls) (.ref a :: st) h := am_ev_step (q := (29, l0 :: l1 :: some (.ref a) :: ls, .ref a :: st, h)) _ (.aload_n 2) 1 am_my_137 (by decide +kernel) rfl
theorem e137_29 {ls : List (Option Value)} {st : List Value} {h : am_H} {p0 : Nat} {o : Nat} (hw : am_w8 st ≤ 8) (hk : am_kd h o = some (.inl 6)) : am_ev 137 29 ls (.ref p0 :: .ref o :: st) h = am_bd (am_den 135 [.ref o, .ref p0] h) (fun v h1 => am_ev 137 32 ls (v.toList ++ st) h1) := am_u_cV (idx := 276) (wn := 5006) (as := [.ref p0]) am_my_137 (by decide +kernel) (Or.inl (by decide +kernel)) am_my_135 (by decide +kernel) rfl ⟨Nat.le_of_ble_eq_true rfl, rfl⟩ (by decide +kernel) hw hk
theorem e137_32 {ls : List (Option Value)} {st : List Value} {h : am_H} : am_ev 137 32 (ls) (st) h = am_ev 137 33 (ls) (.int (1) :: st) h := am_ev_step (q := (33, ls, .int (1) :: st, h)) _ (.iconst (1)) 1 am_my_137 (by decide +kernel) rfl
theorem e137_33 {ls : List (Option Value)} {st : List Value} {h : am_H} {l0 l1 : Option Value} {a : Nat} : am_ev 137 33 (l0 :: l1 :: some (.ref a) :: ls) (st) h = am_ev 137 34 (l0 :: l1 :: some (.ref a) :: ls) (.ref a :: st) h := am_ev_step (q := (34, l0 :: l1 :: some (.ref a) :: ls, .ref a :: st, h)) _ (.aload_n 2) 1 am_my_137 (by decide +kernel) rfl
theorem e137_34 {ls : List (Option Value)} {st : List Value} {h : am_H} {o : Nat} (hk : am_kd h o = some (.inl 0)) : am_ev 137 34 ls (.ref o :: st) h = am_ev 137 37 ls (.int (h.1 o 0) :: st) h := am_u_gfI (idx := 283) (wn := 1122) am_my_137 (by decide +kernel) (by decide +kernel) (by decide +kernel) hk
theorem e137_37 {ls : List (Option Value)} {st : List Value} {h : am_H} {a b : Int32} : am_ev 137 37 (ls) (.int b :: .int a :: st) h = am_ev 137 38 (ls) (.int (a <<< (b &&& 31)) :: st) h := am_ev_step (q := (38, ls, .int (a <<< (b &&& 31)) :: st, h)) _ (.ishl) 1 am_my_137 (by decide +kernel) rfl
theorem e137_38 {ls : List (Option Value)} {st : List Value} {h : am_H} : am_ev 137 38 (ls) (st) h = am_ev 137 39 (ls) (.int (1) :: st) h := am_ev_step (q := (39, ls, .int (1) :: st, h)) _ (.iconst (1)) 1 am_my_137 (by decide +kernel) rfl
theorem e137_39 {ls : List (Option Value)} {st : List Value} {h : am_H} {a b : Int32} : am_ev 137 39 (ls) (.int b :: .int a :: st) h = am_ev 137 40 (ls) (.int (a - b) :: st) h := am_ev_step (q := (40, ls, .int (a - b) :: st, h)) _ (.isub) 1 am_my_137 (by decide +kernel) rfl
theorem e137_40 {ls : List (Option Value)} {st : List Value} {h : am_H} {l0 l1 l2 : Option Value} {z : Option Value} {a : Int32} : am_ev 137 40 (l0 :: l1 :: l2 :: z :: ls) (.int a :: st) h = am_ev 137 41 (l0 :: l1 :: l2 :: some (.int a) :: ls) (st) h := am_ev_step (q := (41, l0 :: l1 :: l2 :: some (.int a) :: ls, st, h)) _ (.istore_n 3) 1 am_my_137 (by decide +kernel) rfl
theorem e137_41 {ls : List (Option Value)} {st : List Value} {h : am_H} : am_ev 137 41 (ls) (st) h = am_ev 137 42 (ls) (.int (0) :: st) h := am_ev_step (q := (42, ls, .int (0) :: st, h)) _ (.iconst (0)) 1 am_my_137 (by decide +kernel) rfl
theorem e137_42 {ls : List (Option Value)} {st : List Value} {h : am_H} {l0 l1 l2 l3 : Option Value} {z : Option Value} {a : Int32} : am_ev 137 42 (l0 :: l1 :: l2 :: l3 :: z :: ls) (.int a :: st) h = am_ev 137 44 (l0 :: l1 :: l2 :: l3 :: some (.int a) :: ls) (st) h := am_ev_step (q := (44, l0 :: l1 :: l2 :: l3 :: some (.int a) :: ls, st, h)) _ (.istore 4) 2 am_my_137 (by decide +kernel) rfl
theorem e137_44 {ls : List (Option Value)} {st : List Value} {h : am_H} {l0 l1 l2 l3 : Option Value} {a : Int32} : am_ev 137 44 (l0 :: l1 :: l2 :: l3 :: some (.int a) :: ls) (st) h = am_ev 137 46 (l0 :: l1 :: l2 :: l3 :: some (.int a) :: ls) (.int a :: st) h := am_ev_step (q := (46, l0 :: l1 :: l2 :: l3 :: some (.int a) :: ls, .int a :: st, h)) _ (.iload 4) 2 am_my_137 (by decide +kernel) rfl
theorem e137_46 {ls : List (Option Value)} {st : List Value} {h : am_H} {l0 l1 : Option Value} {a : Nat} : am_ev 137 46 (l0 :: l1 :: some (.ref a) :: ls) (st) h = am_ev 137 47 (l0 :: l1 :: some (.ref a) :: ls) (.ref a :: st) h := am_ev_step (q := (47, l0 :: l1 :: some (.ref a) :: ls, .ref a :: st, h)) _ (.aload_n 2) 1 am_my_137 (by decide +kernel) rfl
theorem e137_47 {ls : List (Option Value)} {st : List Value} {h : am_H} {o : Nat} (hk : am_kd h o = some (.inl 0)) : am_ev 137 47 ls (.ref o :: st) h = am_ev 137 50 ls (.int (h.1 o 1) :: st) h := am_u_gfI (idx := 273) (wn := 1125) am_my_137 (by decide +kernel) (by decide +kernel) (by decide +kernel) hk
theorem e137_50 {ls : List (Option Value)} {st : List Value} {h : am_H} {a b : Int32} : am_ev 137 50 ls (.int b :: .int a :: st) h = if b ≤ a then am_ev 137 76 ls st h else am_ev 137 53 ls st h := am_u_if2 (c := .ge) (off := 26) am_my_137 (by decide +kernel) (by decide)
theorem e137_53 {ls : List (Option Value)} {st : List Value} {h : am_H} {l0 l1 l2 : Option Value} {a : Int32} : am_ev 137 53 (l0 :: l1 :: l2 :: some (.int a) :: ls) (st) h = am_ev 137 54 (l0 :: l1 :: l2 :: some (.int a) :: ls) (.int a :: st) h := am_ev_step (q := (54, l0 :: l1 :: l2 :: some (.int a) :: ls, .int a :: st, h)) _ (.iload_n 3) 1 am_my_137 (by decide +kernel) rfl
theorem e137_54 {ls : List (Option Value)} {st : List Value} {h : am_H} : am_ev 137 54 (ls) (st) h = am_ev 137 55 (ls) (.int (1) :: st) h := am_ev_step (q := (55, ls, .int (1) :: st, h)) _ (.iconst (1)) 1 am_my_137 (by decide +kernel) rfl
theorem e137_55 {ls : List (Option Value)} {st : List Value} {h : am_H} {a : Nat} : am_ev 137 55 (some (.ref a) :: ls) (st) h = am_ev 137 56 (some (.ref a) :: ls) (.ref a :: st) h := am_ev_step (q := (56, some (.ref a) :: ls, .ref a :: st, h)) _ (.aload_n 0) 1 am_my_137 (by decide +kernel) rfl
theorem e137_56 {ls : List (Option Value)} {st : List Value} {h : am_H} {o : Nat} (hk : am_kd h o = some (.inl 10)) : am_ev 137 56 ls (.ref o :: st) h = am_ev 137 59 ls (va_rf (h.2.2.1 o 10) :: st) h := am_u_gfR (idx := 68) (wn := 2156) (a := 0) am_my_137 (by decide +kernel) (by decide +kernel) (by decide +kernel) hk
theorem e137_59 {ls : List (Option Value)} {st : List Value} {h : am_H} {o : Nat} (hk : am_kd h o = some (.inl 6)) : am_ev 137 59 ls (.ref o :: st) h = am_ev 137 62 ls (va_rf (h.2.2.1 o 0) :: st) h := am_u_gfR (idx := 280) (wn := 2130) (a := 0) am_my_137 (by decide +kernel) (by decide +kernel) (by decide +kernel) hk
theorem e137_62 {ls : List (Option Value)} {st : List Value} {h : am_H} {l0 l1 l2 l3 : Option Value} {a : Int32} : am_ev 137 62 (l0 :: l1 :: l2 :: l3 :: some (.int a) :: ls) (st) h = am_ev 137 64 (l0 :: l1 :: l2 :: l3 :: some (.int a) :: ls) (.int a :: st) h := am_ev_step (q := (64, l0 :: l1 :: l2 :: l3 :: some (.int a) :: ls, .int a :: st, h)) _ (.iload 4) 2 am_my_137 (by decide +kernel) rfl
theorem e137_64 {ls : List (Option Value)} {st : List Value} {h : am_H} {i : Int32} {a : Nat} (ht : am_tc h a = some 0) : am_ev 137 64 ls (.int i :: .ref a :: st) h = if am_ix i (am_len h a) = true then am_ev 137 65 ls (.int (h.1 a i.toNatClampNeg) :: st) h else none := am_u_rI am_my_137 (by decide +kernel) ht
theorem e137_65 {ls : List (Option Value)} {st : List Value} {h : am_H} {a b : Int32} : am_ev 137 65 (ls) (.int b :: .int a :: st) h = am_ev 137 66 (ls) (.int (a <<< (b &&& 31)) :: st) h := am_ev_step (q := (66, ls, .int (a <<< (b &&& 31)) :: st, h)) _ (.ishl) 1 am_my_137 (by decide +kernel) rfl
theorem e137_66 {ls : List (Option Value)} {st : List Value} {h : am_H} : am_ev 137 66 (ls) (st) h = am_ev 137 67 (ls) (.int (-1) :: st) h := am_ev_step (q := (67, ls, .int (-1) :: st, h)) _ (.iconst (-1)) 1 am_my_137 (by decide +kernel) rfl
theorem e137_67 {ls : List (Option Value)} {st : List Value} {h : am_H} {a b : Int32} : am_ev 137 67 (ls) (.int b :: .int a :: st) h = am_ev 137 68 (ls) (.int (a ^^^ b) :: st) h := am_ev_step (q := (68, ls, .int (a ^^^ b) :: st, h)) _ (.ixor) 1 am_my_137 (by decide +kernel) rfl
theorem e137_68 {ls : List (Option Value)} {st : List Value} {h : am_H} {a b : Int32} : am_ev 137 68 (ls) (.int b :: .int a :: st) h = am_ev 137 69 (ls) (.int (a &&& b) :: st) h := am_ev_step (q := (69, ls, .int (a &&& b) :: st, h)) _ (.iand) 1 am_my_137 (by decide +kernel) rfl
theorem e137_69 {ls : List (Option Value)} {st : List Value} {h : am_H} {l0 l1 l2 : Option Value} {z : Option Value} {a : Int32} : am_ev 137 69 (l0 :: l1 :: l2 :: z :: ls) (.int a :: st) h = am_ev 137 70 (l0 :: l1 :: l2 :: some (.int a) :: ls) (st) h := am_ev_step (q := (70, l0 :: l1 :: l2 :: some (.int a) :: ls, st, h)) _ (.istore_n 3) 1 am_my_137 (by decide +kernel) rfl
theorem e137_70 {ls : List (Option Value)} {st : List Value} {h : am_H} {l0 l1 l2 l3 : Option Value} {a : Int32} : am_ev 137 70 (l0 :: l1 :: l2 :: l3 :: some (.int a) :: ls) (st) h = am_ev 137 73 (l0 :: l1 :: l2 :: l3 :: some (.int (a + (1))) :: ls) (st) h := am_ev_step (q := (73, l0 :: l1 :: l2 :: l3 :: some (.int (a + (1))) :: ls, st, h)) _ (.iinc 4 (1)) 3 am_my_137 (by decide +kernel) rfl
theorem e137_73 {ls : List (Option Value)} {st : List Value} {h : am_H} : am_ev 137 73 (ls) (st) h = am_ev 137 44 (ls) (st) h := am_ev_step (q := (44, ls, st, h)) _ (.goto (-29)) 3 am_my_137 (by decide +kernel) rfl
theorem e137_76 {ls : List (Option Value)} {st : List Value} {h : am_H} {l0 l1 l2 : Option Value} {a : Int32} : am_ev 137 76 (l0 :: l1 :: l2 :: some (.int a) :: ls) (st) h = am_ev 137 77 (l0 :: l1 :: l2 :: some (.int a) :: ls) (.int a :: st) h := am_ev_step (q := (77, l0 :: l1 :: l2 :: some (.int a) :: ls, .int a :: st, h)) _ (.iload_n 3) 1 am_my_137 (by decide +kernel) rfl
theorem e137_77 {ls : List (Option Value)} {h : am_H} {v : Int32} : am_ev 137 77 ls [.int v] h = some (some (.int v), h) := am_u_rtI am_my_137 (by decide +kernel) rfl
def q_asx (h h' : am_H) : Prop := h'.2 = h.2 ∧ ∀ a j, a ≠ 206 → a ≠ 207 → a ≠ 208 → a ≠ 209 → h'.1 a j = h.1 a j
theorem q_asx.rf (h : am_H) : q_asx h h := ⟨rfl, fun _ _ _ _ _ _ => rfl⟩
theorem q_asx.tr {h h' h'' : am_H} (x : q_asx h h') (y : q_asx h' h'') : q_asx h h'' := ⟨y.1.trans x.1, fun a j p1 p2 p3 p4 => (y.2 a j p1 p2 p3 p4).trans (x.2 a j p1 p2 p3 p4)⟩
theorem q_asx.ok {h h' : am_H} (f : q_asx h h') (ok : am_okH h) : am_okH h' := ok.of (congrArg Prod.snd f.1)
theorem q_asx.wk {h h' : am_H} (f : q_asx h h') (ok : am_okH h) : q_wk h h' := ⟨f.ok ok, by rw [f.1], fun a k w => ⟨f.2 a k (by unfold q_told at w; omega) (by unfold q_told at w; omega) (by unfold q_told at w; omega) (by unfold q_told at w; omega), by rw [f.1]⟩⟩
theorem q_asw.x {b : Nat} {h h' : am_H} (f : q_asw b h h') : q_asx h h' := ⟨f.1, fun a j p1 p2 p3 p4 => f.2 a j p2 p3 p4 (fun w => p1 w.1)⟩
theorem q_rrw.x {h h' : am_H} (f : q_rrw h h') : q_asx h h' := ⟨f.1, fun a j _ _ p3 p4 => f.2 a j p3 p4⟩
/-- a book in the class's cells -/
def q_cB (h : am_H) (o : Nat) (k : q_Bk) : Prop := am_okH h ∧ q_bo h o ∧ B_cls h.1 o k ∧ o + 5 < 178
theorem q_asx.cB {h h' : am_H} (f : q_asx h h') {o : Nat} {k : q_Bk} (c : q_cB h o k) : q_cB h' o k := by
  obtain ⟨ok, bo, ⟨c0, c1, c2, c3, c4, c5⟩, ho⟩ := c
  have e : ∀ a j, a < 178 → h'.1 a j = h.1 a j := fun a j w => f.2 a j (by omega) (by omega) (by omega) (by omega)
  refine ⟨f.ok ok, bo.of (by rw [f.1]), ⟨?_, ?_, ?_, fun j hj => ?_, fun j hj => ?_, fun j hj => ?_⟩, ho⟩
  · rw [e _ _ (by omega)]; exact c0
  · rw [e _ _ (by omega)]; exact c1
  · rw [e _ _ (by omega)]; exact c2
  · rw [e _ _ (by omega), e _ _ (by omega)]; exact c3 j hj
  · rw [e _ _ (by omega), e _ _ (by omega)]; exact c4 j hj
  · rw [e _ _ (by omega)]; exact c5 j hj
theorem q_copy5 (o : Nat) (k : q_Bk) (bk : B_ok k) (h : am_H) (c : q_cB h o k) : q_cb (am_cq h (o + 2) 207 5) o k (B_turns k) ∧ q_asx h (am_cq h (o + 2) 207 5) := by
  have d5 := bk.1
  have f : q_asx h (am_cq h (o + 2) 207 5) := ⟨rfl, fun a j _ p2 _ _ => by rw [am_rd_cq, if_neg (fun w => p2 w.1)]⟩
  obtain ⟨ok, bo, cl, ho⟩ := f.cB c
  refine ⟨⟨ok, bo, cl, fun d hd => ⟨?_, (bk.2.2.2.1 d hd).2⟩, ho⟩, f⟩
  rw [am_rd_cq, if_pos ⟨rfl, by omega⟩]
  exact (c.2.2.1.2.2.2.1 d hd).2
theorem den_mostN (o : Nat) (k : q_Bk) (bk : B_ok k) (h : am_H) (c : q_cB h o k) : ∃ h' : am_H, q_asx h h' ∧ q_cb h' o k (B_turns k) ∧ am_den 129 [.ref 205, .ref o, .int (-1)] h = some (some (.int (nI (B_V k (B_b k) 0 (B_turns k)))), h') := by
  obtain ⟨cb, fx⟩ := q_copy5 o k bk h c
  obtain ⟨ok, bo, cl, ho⟩ := c
  obtain ⟨h1, f1, s1⟩ := den_mostFrom o k bk (B_turns k) 0 (Nat.zero_le _) _ cb
  rw [Nat.sub_zero, nI_0] at s1
  have ok1 := cb.1
  have lt : (-1 : Int32) < 0 := by decide
  refine ⟨h1, fx.tr f1.x, f1.cb cb, ?_⟩
  show am_ev 129 0 [some (.ref 205), some (.ref o), some (.int (-1))] [] h = _
  simp only [e129_0, e129_1, e129_4, e129_5, e129_6, e129_9, e129_10, e129_11i, e129_11b, e129_14, e129_15, e129_18, e129_19, e129_20, e129_23, e129_24, e129_27, e129_28, e129_29, e129_30, e129_31, e129_32, e129_33, e129_36, am_bd_some, Option.toList_some, Option.toList_none, List.cons_append, List.nil_append, am_w8_0, am_w8_1, am_w8_2, am_w8_3, am_w8_4, eq_self, or_true, true_or, am_kd_sI, am_kd_sL, am_kd_sR, am_tc_sI, am_tc_sL, am_tc_sR, am_len_sI, am_len_sL, am_len_sR, am_rfs, if_true, if_false, am_rdL_sI, am_rR_sL, am_rt_cq, am_kd_cq, am_tc_cq, am_len_cq, am_rd_sL, am_rd_sR, am_rdL_sR, bo.1, bo.2.2.1, q_tc bo.2.2.2.2.2.2.2.1, q_ln bo.2.2.2.2.2.2.2.1, okK_205 ok, okR_205_1 ok, okT_207 ok, okL_207 ok, Nat.le_refl, lt, okK_205 ok1, s1]
theorem den_mostW (o : Nat) (k : q_Bk) (bk : B_ok k) (h : am_H) (c : q_cB h o k) (d : Nat) (hd : d < 5) : ∃ h' : am_H, q_asx h h' ∧ am_den 129 [.ref 205, .ref o, .int (nI d)] h = some (some (.int (nI (B_V k (B_b k) 0 (q_up (B_turns k) d 0)))), h') := by
  obtain ⟨cb, fx⟩ := q_copy5 o k bk h c
  obtain ⟨ok, bo, cl, ho⟩ := c
  have ok1 : am_okH (am_cq h (o + 2) 207 5) := cb.1
  have cb2 : q_cb (am_sI (am_cq h (o + 2) 207 5) 207 d 0) o k (q_up (B_turns k) d 0) := cb.turn d 0 (by decide)
  have f2 : q_asx (am_cq h (o + 2) 207 5) (am_sI (am_cq h (o + 2) 207 5) 207 d 0) := ⟨rfl, fun a j _ p2 _ _ => by rw [am_rd_sI, if_neg (fun w => p2 w.1)]⟩
  obtain ⟨h1, f1, s1⟩ := den_mostFrom o k bk _ 0 (Nat.zero_le _) _ cb2
  rw [Nat.sub_zero, nI_0] at s1
  have l1 : ¬ nI d < 0 := nI_pos (by omega)
  have l2 : ¬ (5 : Int32) ≤ nI d := fun w => nI_ge (b := 5) (a := d) (by omega) (by decide) w
  have x : am_ix (nI d) 5 = true := am_ix_nI (by omega) (by decide)
  have z : (nI d).toNatClampNeg = d := nI_clamp (by omega)
  refine ⟨h1, (fx.tr f2).tr f1.x, ?_⟩
  show am_ev 129 0 [some (.ref 205), some (.ref o), some (.int (nI d))] [] h = _
  simp only [e129_0, e129_1, e129_4, e129_5, e129_6, e129_9, e129_10, e129_11i, e129_11b, e129_14, e129_15, e129_18, e129_19, e129_20, e129_23, e129_24, e129_27, e129_28, e129_29, e129_30, e129_31, e129_32, e129_33, e129_36, am_bd_some, Option.toList_some, Option.toList_none, List.cons_append, List.nil_append, am_w8_0, am_w8_1, am_w8_2, am_w8_3, am_w8_4, eq_self, or_true, true_or, am_kd_sI, am_kd_sL, am_kd_sR, am_tc_sI, am_tc_sL, am_tc_sR, am_len_sI, am_len_sL, am_len_sR, am_rfs, if_true, if_false, am_rdL_sI, am_rR_sL, am_rt_cq, am_kd_cq, am_tc_cq, am_len_cq, am_rd_sL, am_rd_sR, am_rdL_sR, bo.1, bo.2.2.1, q_tc bo.2.2.2.2.2.2.2.1, q_ln bo.2.2.2.2.2.2.2.1, okK_205 ok, okR_205_1 ok, okT_207 ok, okL_207 ok, Nat.le_refl, l1, l2, okK_205 ok1, okR_205_1 ok1, okT_207 ok1, okL_207 ok1, x, z, s1]
theorem q_as_o (o : Nat) (k : q_Bk) (bk : B_ok k) (t0 : Nat → Nat) : ∀ (r b : Nat) (h : am_H) (z4 : Option Value), b + r = B_b k → q_cb h o k (B_T k t0 b) → (∀ x, x < b → h.1 206 x = nI (B_W k t0 x)) → ∃ h' : am_H, q_asx h h' ∧ (∀ x, x < B_b k → h'.1 206 x = nI (B_W k t0 x)) ∧ am_ev 135 9 [some (.ref 205), some (.ref o), some (.int (nI (B_V k (B_b k - b) b (B_T k t0 b)))), some (.int (nI b)), z4] [] h = some (none, h') := by
  have b8 := bk.2.1
  intro r
  induction r with
  | zero =>
    intro b h z4 hb cb rows
    obtain rfl : b = B_b k := by omega
    have h1 : nI (B_b k) ≤ nI (B_b k) := Int32.le_refl _
    refine ⟨h, q_asx.rf h, rows, ?_⟩
    rw [e135_9]
    simp only [e135_0, e135_1, e135_2, e135_3, e135_6, e135_7, e135_8, e135_10, e135_11, e135_14, e135_17, e135_18, e135_21, e135_22, e135_23, e135_24, e135_25, e135_27, e135_29, e135_30, e135_33, e135_36, e135_37, e135_40, e135_41, e135_42, e135_43, e135_46, e135_47, e135_50, e135_52, e135_53, e135_54, e135_57, e135_58, e135_61, e135_63, e135_64, e135_65, e135_68, e135_69, e135_70, e135_73, e135_76, e135_77, e135_80, e135_82, e135_83, e135_84, e135_85, e135_86, e135_87, e135_88, e135_91, e135_92, e135_93, e135_94, e135_95, e135_96, e135_97, e135_98, e135_101, e135_102, e135_103, e135_106, e135_107, e135_110, e135_111, e135_113, e135_114, e135_115, e135_116, e135_119, e135_120, e135_121, e135_122, e135_123, e135_126, e135_127, e135_130, e135_132, e135_133, e135_134, e135_135, e135_136, e135_137, e135_140, e135_143, e135_146, e135_149, am_bd_some, Option.toList_some, Option.toList_none, List.cons_append, List.nil_append, am_w8_0, am_w8_1, am_w8_2, am_w8_3, am_w8_4, eq_self, or_true, true_or, am_kd_sI, am_kd_sL, am_kd_sR, am_tc_sI, am_tc_sL, am_tc_sR, am_len_sI, am_len_sL, am_len_sR, am_rfs, if_true, if_false, am_rdL_sI, am_rR_sL, am_rt_cq, am_kd_cq, am_tc_cq, am_len_cq, am_rd_sL, am_rd_sR, am_rdL_sR, cb.2.1.1, cb.2.2.1.2.1, h1]
  | succ r ih =>
    intro b h z4 hb cb rows
    have ok := cb.1
    have h1 : ¬ nI (B_b k) ≤ nI b := nI_ge (by omega) (by omega)
    have xb : am_ix (nI b) 8 = true := am_ix_nI (by omega) (by decide)
    have zb : (nI b).toNatClampNeg = b := nI_clamp (by omega)
    have cba : q_cb (am_sI h 206 b 5) o k (B_T k t0 b) := cb.cg rfl (fun a j w => by rw [am_rd_sI, if_neg (by omega)])
    obtain ⟨h2, x2, f2, cb2, r2, s2⟩ := q_as_i o k bk b (by omega) (B_T k t0 b) (B_d k) 0 (am_sI h 206 b 5) (by omega) cba (by rw [am_rd_sI, if_pos ⟨rfl, rfl⟩]) (fun e he => absurd he (Nat.not_lt_zero _))
    have fa : q_asx h (am_sI h 206 b 5) := ⟨rfl, fun a j p1 _ _ _ => by rw [am_rd_sI, if_neg (fun w => p1 w.1)]⟩
    obtain ⟨h3, f3, rows3, s3⟩ := ih (b + 1) h2 (some (.int x2)) (by omega) cb2 (fun x hx => by
      by_cases c : x = b
      · rw [c]; exact r2
      · rw [f2.2 206 x (by decide) (by decide) (by decide) (fun w => c w.2), am_rd_sI, if_neg (fun w => c w.2)]
        exact rows x (by omega))
    rw [nI_0] at s2
    refine ⟨h3, (fa.tr f2.x).tr f3, rows3, ?_⟩
    rw [e135_9]
    simp only [e135_0, e135_1, e135_2, e135_3, e135_6, e135_7, e135_8, e135_10, e135_11, e135_14, e135_17, e135_18, e135_21, e135_22, e135_23, e135_24, e135_25, e135_29, e135_30, e135_33, e135_36, e135_37, e135_40, e135_41, e135_42, e135_43, e135_46, e135_47, e135_50, e135_52, e135_53, e135_54, e135_57, e135_58, e135_61, e135_63, e135_64, e135_65, e135_68, e135_69, e135_70, e135_73, e135_76, e135_77, e135_80, e135_82, e135_83, e135_84, e135_85, e135_86, e135_87, e135_88, e135_91, e135_92, e135_93, e135_94, e135_95, e135_96, e135_97, e135_98, e135_101, e135_102, e135_103, e135_106, e135_107, e135_110, e135_111, e135_113, e135_114, e135_115, e135_116, e135_119, e135_120, e135_121, e135_122, e135_123, e135_126, e135_127, e135_130, e135_132, e135_133, e135_134, e135_135, e135_136, e135_137, e135_140, e135_143, e135_146, e135_149, am_bd_some, Option.toList_some, Option.toList_none, List.cons_append, List.nil_append, am_w8_0, am_w8_1, am_w8_2, am_w8_3, am_w8_4, eq_self, or_true, true_or, am_kd_sI, am_kd_sL, am_kd_sR, am_tc_sI, am_tc_sL, am_tc_sR, am_len_sI, am_len_sL, am_len_sR, am_rfs, if_true, if_false, am_rdL_sI, am_rR_sL, am_rt_cq, am_kd_cq, am_tc_cq, am_len_cq, am_rd_sL, am_rd_sR, am_rdL_sR, cb.2.1.1, cb.2.2.1.2.1, h1, okK_205 ok, okR_205_0 ok, okT_206 ok, okL_206 ok, xb, zb]
    rw [s2]
    simp only [e135_0, e135_1, e135_2, e135_3, e135_6, e135_7, e135_8, e135_10, e135_11, e135_14, e135_17, e135_18, e135_21, e135_22, e135_23, e135_24, e135_25, e135_29, e135_30, e135_33, e135_36, e135_37, e135_40, e135_41, e135_42, e135_43, e135_46, e135_47, e135_50, e135_52, e135_53, e135_54, e135_57, e135_58, e135_61, e135_63, e135_64, e135_65, e135_68, e135_69, e135_70, e135_73, e135_76, e135_77, e135_80, e135_82, e135_83, e135_84, e135_85, e135_86, e135_87, e135_88, e135_91, e135_92, e135_93, e135_94, e135_95, e135_96, e135_97, e135_98, e135_101, e135_102, e135_103, e135_106, e135_107, e135_110, e135_111, e135_113, e135_114, e135_115, e135_116, e135_119, e135_120, e135_121, e135_122, e135_123, e135_126, e135_127, e135_130, e135_132, e135_133, e135_134, e135_135, e135_136, e135_137, e135_140, e135_143, e135_146, e135_149, am_bd_some, Option.toList_some, Option.toList_none, List.cons_append, List.nil_append, am_w8_0, am_w8_1, am_w8_2, am_w8_3, am_w8_4, eq_self, or_true, true_or, am_kd_sI, am_kd_sL, am_kd_sR, am_tc_sI, am_tc_sL, am_tc_sR, am_len_sI, am_len_sL, am_len_sR, am_rfs, if_true, if_false, am_rdL_sI, am_rR_sL, am_rt_cq, am_kd_cq, am_tc_cq, am_len_cq, am_rd_sL, am_rd_sR, am_rdL_sR, nI_1]
    exact s3
theorem den_assign (o : Nat) (k : q_Bk) (bk : B_ok k) (h : am_H) (c : q_cB h o k) : ∃ h' : am_H, q_asx h h' ∧ (∀ x, x < B_b k → h'.1 206 x = nI (B_W k (B_turns k) x)) ∧ am_den 135 [.ref 205, .ref o] h = some (none, h') := by
  have ok := c.1
  obtain ⟨h1, f1, cb1, s1⟩ := den_mostN o k bk h c
  obtain ⟨h2, f2, r2, s2⟩ := q_as_o o k bk (B_turns k) (B_b k) 0 h1 none (by omega) cb1 (fun x hx => absurd hx (Nat.not_lt_zero _))
  have e : B_V k (B_b k - 0) 0 (B_T k (B_turns k) 0) = B_V k (B_b k) 0 (B_turns k) := rfl
  rw [e, nI_0] at s2
  refine ⟨h2, f1.tr f2, r2, ?_⟩
  show am_ev 135 0 [some (.ref 205), some (.ref o), none, none, none] [] h = _
  simp only [e135_0, e135_1, e135_2, e135_3, e135_6, e135_7, e135_8, e135_10, e135_11, e135_14, e135_17, e135_18, e135_21, e135_22, e135_23, e135_24, e135_25, e135_27, e135_29, e135_30, e135_33, e135_36, e135_37, e135_40, e135_41, e135_42, e135_43, e135_46, e135_47, e135_50, e135_52, e135_53, e135_54, e135_57, e135_58, e135_61, e135_63, e135_64, e135_65, e135_68, e135_69, e135_70, e135_73, e135_76, e135_77, e135_80, e135_82, e135_83, e135_84, e135_85, e135_86, e135_87, e135_88, e135_91, e135_92, e135_93, e135_94, e135_95, e135_96, e135_97, e135_98, e135_101, e135_102, e135_103, e135_106, e135_107, e135_110, e135_111, e135_113, e135_114, e135_115, e135_116, e135_119, e135_120, e135_121, e135_122, e135_123, e135_126, e135_127, e135_130, e135_132, e135_133, e135_134, e135_135, e135_136, e135_137, e135_140, e135_143, e135_146, e135_149, am_bd_some, Option.toList_some, Option.toList_none, List.cons_append, List.nil_append, am_w8_0, am_w8_1, am_w8_2, am_w8_3, am_w8_4, eq_self, or_true, true_or, am_kd_sI, am_kd_sL, am_kd_sR, am_tc_sI, am_tc_sL, am_tc_sR, am_len_sI, am_len_sL, am_len_sR, am_rfs, if_true, if_false, am_rdL_sI, am_rR_sL, am_rt_cq, am_kd_cq, am_tc_cq, am_len_cq, am_rd_sL, am_rd_sR, am_rdL_sR, okK_205 ok, s1]
  exact s2
theorem q_cB_of {A : q_All} {h : am_H} (H : q_Rel A h) (i : Nat) (hi : i < A.2.1 2) : B_ok (A.2.2.2.2.1 i) ∧ q_cB h (13 + 16 * i) (A.2.2.2.2.1 i) := by
  have c1 := (H.cnt 2 (by decide)).1
  obtain ⟨b1, b2, -⟩ := H.bk i hi
  exact ⟨b1, H.1, (q_bo_now H.1 i (by omega)).1, b2, by omega⟩
def B_nA (k : q_Bk) (j : Int32) : Int32 := if j = -1 then nI (B_V k (B_b k) 0 (B_turns k)) else if 0 ≤ j ∧ j < nI (B_b k) then nI (B_W k (B_turns k) j.toNatClampNeg) else -1
def q_nyA (A : q_All) (a j : Int32) : Int32 := if 0 ≤ a ∧ a < nI (A.2.1 2) then B_nA (A.2.2.2.2.1 a.toNatClampNeg) j else -1
theorem den_cnotary {A : q_All} {h : am_H} (H : q_Rel A h) (a j : Int32) : ∃ h' : am_H, q_wk h h' ∧ am_den 128 [.ref 0, .int a, .int j] h = some (some (.int (q_nyA A a j)), h') := by
  have ok := H.1
  obtain ⟨c1, c2, c3⟩ := H.cnt 2 (by decide)
  have dh := den_has h ok 2 (by decide) (A.2.1 2) c1 c2 a
  rw [show nI 2 = 2 from rfl] at dh
  have y : ¬ (1 : Int32) = 0 := by decide
  show ∃ h' : am_H, q_wk h h' ∧ am_ev 128 0 [some (.ref 0), some (.int a), some (.int j), none] [] h = _
  unfold q_nyA
  by_cases ca : 0 ≤ a ∧ a < nI (A.2.1 2)
  · rw [if_pos ca] at dh ⊢
    obtain ⟨i, hi, rfl⟩ := q_in2 c1 ca
    obtain ⟨bk, cB⟩ := q_cB_of H i hi
    have b8 := bk.2.1
    have r := (q_bo_now ok i (by omega)).2
    have z : (nI i).toNatClampNeg = i := nI_clamp (by omega)
    have x : am_ix (nI i) 2 = true := am_ix_nI (by omega) (by decide)
    rw [z]
    unfold B_nA
    by_cases j1 : j = -1
    · rw [if_pos j1, j1]
      obtain ⟨h1, f1, -, s1⟩ := den_mostN _ _ bk h cB
      refine ⟨h1, f1.wk ok, ?_⟩
      simp only [e128_0, e128_1, e128_4, e128_5, e128_6, e128_9, e128_12, e128_13, e128_14, e128_15, e128_18, e128_21, e128_22f, e128_22d, e128_22b, e128_22l, e128_22t, e128_23, e128_24, e128_25, e128_26, e128_29, e128_30, e128_33, e128_34, e128_35, e128_38, e128_39, e128_40, e128_43, e128_44, e128_45, e128_48, e128_51, e128_52, e128_53, e128_54, e128_57, e128_58, e128_61, e128_62, e128_65, e128_68, e128_69, e128_70, am_bd_some, Option.toList_some, Option.toList_none, List.cons_append, List.nil_append, am_w8_0, am_w8_1, am_w8_2, am_w8_3, am_w8_4, eq_self, or_true, true_or, am_kd_sI, am_kd_sL, am_kd_sR, am_tc_sI, am_tc_sL, am_tc_sR, am_len_sI, am_len_sL, am_len_sR, am_rfs, if_true, if_false, am_rdL_sI, am_rR_sL, am_rt_cq, am_kd_cq, am_tc_cq, am_len_cq, am_rd_sL, am_rd_sR, am_rdL_sR, okK_0 ok, okR_0_0 ok, okK_1 ok, okR_1_7 ok, okT_6 ok, okL_6 ok, okR_0_10 ok, okK_205 ok, dh, y, not_false_eq_true, x, z, r, not_true, s1]
    · rw [if_neg j1]
      by_cases j2 : 0 ≤ j ∧ j < nI (B_b (A.2.2.2.2.1 i))
      · rw [if_pos j2]
        obtain ⟨p, hp, rfl⟩ := nI_of (Int32.not_lt.mpr j2.1)
        have hp2 := (nI_ltI hp (by omega)).mp j2.2
        have zp : (nI p).toNatClampNeg = p := nI_clamp hp
        have xp : am_ix (nI p) 8 = true := am_ix_nI (by omega) (by decide)
        have l1 : ¬ nI p < 0 := nI_pos hp
        have l2 := j2.2
        obtain ⟨h1, f1, r1, s1⟩ := den_assign _ _ bk h cB
        have ok1 := f1.ok ok
        have rp := r1 p hp2
        rw [zp]
        refine ⟨h1, f1.wk ok, ?_⟩
        simp only [e128_0, e128_1, e128_4, e128_5, e128_6, e128_9, e128_12, e128_13, e128_14, e128_15, e128_18, e128_21, e128_22f, e128_22d, e128_22b, e128_22l, e128_22t, e128_23, e128_24, e128_25, e128_26, e128_29, e128_30, e128_33, e128_34, e128_35, e128_38, e128_39, e128_40, e128_43, e128_44, e128_45, e128_48, e128_51, e128_52, e128_53, e128_54, e128_57, e128_58, e128_61, e128_62, e128_65, e128_68, e128_69, e128_70, am_bd_some, Option.toList_some, Option.toList_none, List.cons_append, List.nil_append, am_w8_0, am_w8_1, am_w8_2, am_w8_3, am_w8_4, eq_self, or_true, true_or, am_kd_sI, am_kd_sL, am_kd_sR, am_tc_sI, am_tc_sL, am_tc_sR, am_len_sI, am_len_sL, am_len_sR, am_rfs, if_true, if_false, am_rdL_sI, am_rR_sL, am_rt_cq, am_kd_cq, am_tc_cq, am_len_cq, am_rd_sL, am_rd_sR, am_rdL_sR, okK_0 ok, okR_0_0 ok, okK_1 ok, okR_1_7 ok, okT_6 ok, okL_6 ok, okR_0_10 ok, okK_205 ok, dh, y, not_false_eq_true, x, z, r, j1, l1, cB.2.1.1, cB.2.2.1.2.1, l2, s1, okK_0 ok1, okR_0_10 ok1, okK_205 ok1, okR_205_0 ok1, okT_206 ok1, okL_206 ok1, xp, zp, rp]
      · rw [if_neg j2]
        refine ⟨h, q_wk.rf ok, ?_⟩
        by_cases l1 : j < 0
        · simp only [e128_0, e128_1, e128_4, e128_5, e128_6, e128_9, e128_12, e128_13, e128_14, e128_15, e128_18, e128_21, e128_22f, e128_22d, e128_22b, e128_22l, e128_22t, e128_23, e128_24, e128_25, e128_26, e128_29, e128_30, e128_33, e128_34, e128_35, e128_38, e128_39, e128_40, e128_43, e128_44, e128_45, e128_48, e128_51, e128_52, e128_53, e128_54, e128_57, e128_58, e128_61, e128_62, e128_65, e128_68, e128_69, e128_70, am_bd_some, Option.toList_some, Option.toList_none, List.cons_append, List.nil_append, am_w8_0, am_w8_1, am_w8_2, am_w8_3, am_w8_4, eq_self, or_true, true_or, am_kd_sI, am_kd_sL, am_kd_sR, am_tc_sI, am_tc_sL, am_tc_sR, am_len_sI, am_len_sL, am_len_sR, am_rfs, if_true, if_false, am_rdL_sI, am_rR_sL, am_rt_cq, am_kd_cq, am_tc_cq, am_len_cq, am_rd_sL, am_rd_sR, am_rdL_sR, okK_0 ok, okR_0_0 ok, okK_1 ok, okR_1_7 ok, okT_6 ok, okL_6 ok, dh, y, not_false_eq_true, x, z, r, j1, l1]
        · have l2 : ¬ j < nI (B_b (A.2.2.2.2.1 i)) := fun w => j2 ⟨Int32.not_lt.mp l1, w⟩
          simp only [e128_0, e128_1, e128_4, e128_5, e128_6, e128_9, e128_12, e128_13, e128_14, e128_15, e128_18, e128_21, e128_22f, e128_22d, e128_22b, e128_22l, e128_22t, e128_23, e128_24, e128_25, e128_26, e128_29, e128_30, e128_33, e128_34, e128_35, e128_38, e128_39, e128_40, e128_43, e128_44, e128_45, e128_48, e128_51, e128_52, e128_53, e128_54, e128_57, e128_58, e128_61, e128_62, e128_65, e128_68, e128_69, e128_70, am_bd_some, Option.toList_some, Option.toList_none, List.cons_append, List.nil_append, am_w8_0, am_w8_1, am_w8_2, am_w8_3, am_w8_4, eq_self, or_true, true_or, am_kd_sI, am_kd_sL, am_kd_sR, am_tc_sI, am_tc_sL, am_tc_sR, am_len_sI, am_len_sL, am_len_sR, am_rfs, if_true, if_false, am_rdL_sI, am_rR_sL, am_rt_cq, am_kd_cq, am_tc_cq, am_len_cq, am_rd_sL, am_rd_sR, am_rdL_sR, okK_0 ok, okR_0_0 ok, okK_1 ok, okR_1_7 ok, okT_6 ok, okL_6 ok, dh, y, not_false_eq_true, x, z, r, j1, l1, cB.2.1.1, cB.2.2.1.2.1, l2]
  · rw [if_neg ca] at dh ⊢
    refine ⟨h, q_wk.rf ok, ?_⟩
    simp only [e128_0, e128_1, e128_4, e128_5, e128_6, e128_9, e128_12, e128_13, e128_14, e128_15, e128_18, e128_21, e128_22f, e128_22d, e128_22b, e128_22l, e128_22t, e128_23, e128_24, e128_25, e128_26, e128_29, e128_30, e128_33, e128_34, e128_35, e128_38, e128_39, e128_40, e128_43, e128_44, e128_45, e128_48, e128_51, e128_52, e128_53, e128_54, e128_57, e128_58, e128_61, e128_62, e128_65, e128_68, e128_69, e128_70, am_bd_some, Option.toList_some, Option.toList_none, List.cons_append, List.nil_append, am_w8_0, am_w8_1, am_w8_2, am_w8_3, am_w8_4, eq_self, or_true, true_or, am_kd_sI, am_kd_sL, am_kd_sR, am_tc_sI, am_tc_sL, am_tc_sR, am_len_sI, am_len_sL, am_len_sR, am_rfs, if_true, if_false, am_rdL_sI, am_rR_sL, am_rt_cq, am_kd_cq, am_tc_cq, am_len_cq, am_rd_sL, am_rd_sR, am_rdL_sR, okK_0 ok, okR_0_0 ok, okK_1 ok, dh, not_true]
def q_deP (A : q_All) (a d : Int32) : Prop := (0 ≤ a ∧ a < nI (A.2.1 2)) ∧ (0 ≤ d ∧ d < nI (B_d (A.2.2.2.2.1 a.toNatClampNeg)))
def B_dA (k : q_Bk) (d : Nat) : Int32 := nI (B_V k (B_b k) 0 (B_turns k)) - nI (B_V k (B_b k) 0 (q_up (B_turns k) d 0))
noncomputable def q_deA (A : q_All) (a d : Int32) : Int32 := @ite _ (q_deP A a d) (Classical.propDecidable _) (B_dA (A.2.2.2.2.1 a.toNatClampNeg) d.toNatClampNeg) (-1)
theorem den_cdear {A : q_All} {h : am_H} (H : q_Rel A h) (a d : Int32) : ∃ h' : am_H, q_wk h h' ∧ am_den 136 [.ref 0, .int a, .int d] h = some (some (.int (q_deA A a d)), h') := by
  have ok := H.1
  obtain ⟨c1, c2, c3⟩ := H.cnt 2 (by decide)
  have dh := den_has h ok 2 (by decide) (A.2.1 2) c1 c2 a
  rw [show nI 2 = 2 from rfl] at dh
  have y : (1 : Int32) = 0 ↔ False := by decide
  show ∃ h' : am_H, q_wk h h' ∧ am_ev 136 0 [some (.ref 0), some (.int a), some (.int d), none] [] h = _
  unfold q_deA
  by_cases ca : 0 ≤ a ∧ a < nI (A.2.1 2)
  · rw [if_pos ca] at dh
    obtain ⟨i, hi, rfl⟩ := q_in2 c1 ca
    obtain ⟨bk, cB⟩ := q_cB_of H i hi
    have d5 := bk.1
    have r := (q_bo_now ok i (by omega)).2
    have z : (nI i).toNatClampNeg = i := nI_clamp (by omega)
    have x : am_ix (nI i) 2 = true := am_ix_nI (by omega) (by decide)
    by_cases l1 : d < 0
    · have P : ¬ q_deP A (nI i) d := fun w => absurd l1 (Int32.not_lt.mpr w.2.1)
      rw [if_neg P]
      refine ⟨h, q_wk.rf ok, ?_⟩
      simp only [e136_0, e136_1, e136_4, e136_5, e136_6, e136_9, e136_12, e136_13, e136_16, e136_17, e136_18, e136_21, e136_24, e136_25f, e136_25d, e136_25b, e136_25l, e136_25t, e136_26, e136_29, e136_32, e136_33, e136_34, e136_35, e136_38, e136_41, e136_42f, e136_42d, e136_42b, e136_42l, e136_42t, e136_43, e136_44, e136_45, e136_48, e136_49, e136_50, e136_53, e136_54, e136_57, e136_58, e136_59, e136_62, e136_63, am_bd_some, Option.toList_some, Option.toList_none, List.cons_append, List.nil_append, am_w8_0, am_w8_1, am_w8_2, am_w8_3, am_w8_4, eq_self, or_true, true_or, am_kd_sI, am_kd_sL, am_kd_sR, am_tc_sI, am_tc_sL, am_tc_sR, am_len_sI, am_len_sL, am_len_sR, am_rfs, if_true, if_false, am_rdL_sI, am_rR_sL, am_rt_cq, am_kd_cq, am_tc_cq, am_len_cq, am_rd_sL, am_rd_sR, am_rdL_sR, okK_0 ok, okR_0_0 ok, okK_1 ok, dh, y, l1]
    · by_cases l2 : d < nI (B_d (A.2.2.2.2.1 i))
      · have P : q_deP A (nI i) d := ⟨ca, by rw [z]; exact ⟨Int32.not_lt.mp l1, l2⟩⟩
        rw [if_pos P, z]
        obtain ⟨p, hp, rfl⟩ := nI_of l1
        have hp2 := (nI_ltI hp (by omega)).mp l2
        have zp : (nI p).toNatClampNeg = p := nI_clamp hp
        rw [zp]
        obtain ⟨h1, f1, -, s1⟩ := den_mostN _ _ bk h cB
        have ok1 := f1.ok ok
        obtain ⟨h2, f2, s2⟩ := den_mostW _ _ bk h1 (f1.cB cB) p (by omega)
        refine ⟨h2, (f1.tr f2).wk ok, ?_⟩
        simp only [e136_0, e136_1, e136_4, e136_5, e136_6, e136_9, e136_12, e136_13, e136_16, e136_17, e136_18, e136_21, e136_24, e136_25f, e136_25d, e136_25b, e136_25l, e136_25t, e136_26, e136_29, e136_32, e136_33, e136_34, e136_35, e136_38, e136_41, e136_42f, e136_42d, e136_42b, e136_42l, e136_42t, e136_43, e136_44, e136_45, e136_48, e136_49, e136_50, e136_53, e136_54, e136_57, e136_58, e136_59, e136_62, e136_63, am_bd_some, Option.toList_some, Option.toList_none, List.cons_append, List.nil_append, am_w8_0, am_w8_1, am_w8_2, am_w8_3, am_w8_4, eq_self, or_true, true_or, am_kd_sI, am_kd_sL, am_kd_sR, am_tc_sI, am_tc_sL, am_tc_sR, am_len_sI, am_len_sL, am_len_sR, am_rfs, if_true, if_false, am_rdL_sI, am_rR_sL, am_rt_cq, am_kd_cq, am_tc_cq, am_len_cq, am_rd_sL, am_rd_sR, am_rdL_sR, okK_0 ok, okR_0_0 ok, okK_1 ok, okR_1_7 ok, okT_6 ok, okL_6 ok, okR_0_10 ok, okK_205 ok, dh, y, l1, l2, x, z, r, cB.2.1.1, cB.2.2.1.1, s1, okK_0 ok1, okR_0_10 ok1, okK_205 ok1, s2]
        rfl
      · have P : ¬ q_deP A (nI i) d := fun w => l2 (by have := w.2.2; rw [z] at this; exact this)
        rw [if_neg P]
        refine ⟨h, q_wk.rf ok, ?_⟩
        simp only [e136_0, e136_1, e136_4, e136_5, e136_6, e136_9, e136_12, e136_13, e136_16, e136_17, e136_18, e136_21, e136_24, e136_25f, e136_25d, e136_25b, e136_25l, e136_25t, e136_26, e136_29, e136_32, e136_33, e136_34, e136_35, e136_38, e136_41, e136_42f, e136_42d, e136_42b, e136_42l, e136_42t, e136_43, e136_44, e136_45, e136_48, e136_49, e136_50, e136_53, e136_54, e136_57, e136_58, e136_59, e136_62, e136_63, am_bd_some, Option.toList_some, Option.toList_none, List.cons_append, List.nil_append, am_w8_0, am_w8_1, am_w8_2, am_w8_3, am_w8_4, eq_self, or_true, true_or, am_kd_sI, am_kd_sL, am_kd_sR, am_tc_sI, am_tc_sL, am_tc_sR, am_len_sI, am_len_sL, am_len_sR, am_rfs, if_true, if_false, am_rdL_sI, am_rR_sL, am_rt_cq, am_kd_cq, am_tc_cq, am_len_cq, am_rd_sL, am_rd_sR, am_rdL_sR, okK_0 ok, okR_0_0 ok, okK_1 ok, okR_1_7 ok, okT_6 ok, okL_6 ok, dh, y, l1, l2, x, z, r, cB.2.1.1, cB.2.2.1.1]
  · rw [if_neg ca] at dh
    rw [if_neg (fun w => ca w.1)]
    refine ⟨h, q_wk.rf ok, ?_⟩
    simp only [e136_0, e136_1, e136_4, e136_5, e136_6, e136_9, e136_12, e136_13, e136_16, e136_17, e136_18, e136_21, e136_24, e136_25f, e136_25d, e136_25b, e136_25l, e136_25t, e136_26, e136_29, e136_32, e136_33, e136_34, e136_35, e136_38, e136_41, e136_42f, e136_42d, e136_42b, e136_42l, e136_42t, e136_43, e136_44, e136_45, e136_48, e136_49, e136_50, e136_53, e136_54, e136_57, e136_58, e136_59, e136_62, e136_63, am_bd_some, Option.toList_some, Option.toList_none, List.cons_append, List.nil_append, am_w8_0, am_w8_1, am_w8_2, am_w8_3, am_w8_4, eq_self, or_true, true_or, am_kd_sI, am_kd_sL, am_kd_sR, am_tc_sI, am_tc_sL, am_tc_sR, am_len_sI, am_len_sL, am_len_sR, am_rfs, if_true, if_false, am_rdL_sI, am_rR_sL, am_rt_cq, am_kd_cq, am_tc_cq, am_len_cq, am_rd_sL, am_rd_sR, am_rdL_sR, okK_0 ok, okR_0_0 ok, okK_1 ok, dh]
/-- who drives something (bits) -/
def B_Dr (k : q_Bk) (t0 : Nat → Nat) : Nat → Nat
  | 0 => 0
  | b + 1 => B_Dr k t0 b ||| (if B_W k t0 b < 5 then 2 ^ B_W k t0 b else 0)
theorem q_p2 : ∀ w, w < 5 → 2 ^ w < 32 := by decide
theorem B_Dr_lt (k : q_Bk) (t0 : Nat → Nat) : ∀ b, B_Dr k t0 b < 32 := by
  intro b
  induction b with
  | zero => show 0 < 32; decide
  | succ b ih =>
    rw [B_Dr]
    refine Nat.or_lt_two_pow (n := 5) ih ?_
    split
    · rename_i c; exact q_p2 _ c
    · decide
theorem q_an3 : ∀ s, s < 32 → ∀ m, m < 32 → (s &&& (63 ^^^ m)) &&& (63 ^^^ 2 ^ 5) = s &&& (63 ^^^ m) := by decide +kernel
theorem q_an1' : ∀ b, b < 6 → ((1 : Int32) <<< (nI b &&& 31) = nI (2 ^ b)) ∧ 2 ^ b < 64 := q_an1
theorem q_id_l (o : Nat) (k : q_Bk) (bk : B_ok k) (t0 : Nat → Nat) (s : Nat) (hs : s < 32) (h : am_H) (ok : am_okH h) (bo : q_bo h o) (c1 : h.1 o 1 = nI (B_b k)) (rows : ∀ x, x < B_b k → h.1 206 x = nI (B_W k t0 x)) (a1 : Int32) : ∀ (r b : Nat), b + r = B_b k → am_ev 137 44 [some (.ref 0), some (.int a1), some (.ref o), some (.int (nI (s &&& (63 ^^^ B_Dr k t0 b)))), some (.int (nI b))] [] h = some (some (.int (nI (s &&& (63 ^^^ B_Dr k t0 (B_b k))))), h) := by
  have b8 := bk.2.1
  intro r
  induction r with
  | zero =>
    intro b hb
    obtain rfl : b = B_b k := by omega
    have h1 : nI (B_b k) ≤ nI (B_b k) := Int32.le_refl _
    rw [e137_44]
    simp only [e137_0, e137_1, e137_4, e137_5, e137_6, e137_9, e137_12, e137_13, e137_14, e137_15, e137_18, e137_21, e137_22f, e137_22d, e137_22b, e137_22l, e137_22t, e137_23, e137_24, e137_25, e137_28, e137_29, e137_32, e137_33, e137_34, e137_37, e137_38, e137_39, e137_40, e137_41, e137_42, e137_46, e137_47, e137_50, e137_53, e137_54, e137_55, e137_56, e137_59, e137_62, e137_64, e137_65, e137_66, e137_67, e137_68, e137_69, e137_70, e137_73, e137_76, e137_77, am_bd_some, Option.toList_some, Option.toList_none, List.cons_append, List.nil_append, am_w8_0, am_w8_1, am_w8_2, am_w8_3, am_w8_4, eq_self, or_true, true_or, am_kd_sI, am_kd_sL, am_kd_sR, am_tc_sI, am_tc_sL, am_tc_sR, am_len_sI, am_len_sL, am_len_sR, am_rfs, if_true, if_false, am_rdL_sI, am_rR_sL, am_rt_cq, am_kd_cq, am_tc_cq, am_len_cq, am_rd_sL, am_rd_sR, am_rdL_sR, bo.1, c1, h1]
  | succ r ih =>
    intro b hb
    have h1 : ¬ nI (B_b k) ≤ nI b := nI_ge (by omega) (by omega)
    have xb : am_ix (nI b) 8 = true := am_ix_nI (by omega) (by decide)
    have zb : (nI b).toNatClampNeg = b := nI_clamp (by omega)
    have rb := rows b (by omega)
    have wl : B_W k t0 b ≤ 5 := B_who_le k _ b _
    obtain ⟨sh, sl⟩ := q_an1 (B_W k t0 b) (by omega)
    have dl := B_Dr_lt k t0 b
    have al : s &&& (63 ^^^ B_Dr k t0 b) < 64 := q_an_lt s (by omega) _
    have an := q_an _ al _ sl
    have e : (s &&& (63 ^^^ B_Dr k t0 b)) &&& (63 ^^^ 2 ^ B_W k t0 b) = s &&& (63 ^^^ B_Dr k t0 (b + 1)) := by
      rw [B_Dr]
      by_cases c : B_W k t0 b < 5
      · rw [if_pos c]
        exact q_an2 s (by omega) _ (by omega) _ (by omega)
      · have w5 : B_W k t0 b = 5 := by omega
        rw [if_neg c, w5, Nat.or_zero]
        exact q_an3 s hs _ dl
    rw [e] at an
    rw [e137_44]
    simp only [e137_0, e137_1, e137_4, e137_5, e137_6, e137_9, e137_12, e137_13, e137_14, e137_15, e137_18, e137_21, e137_22f, e137_22d, e137_22b, e137_22l, e137_22t, e137_23, e137_24, e137_25, e137_28, e137_29, e137_32, e137_33, e137_34, e137_37, e137_38, e137_39, e137_40, e137_41, e137_42, e137_46, e137_47, e137_50, e137_53, e137_54, e137_55, e137_56, e137_59, e137_62, e137_64, e137_65, e137_66, e137_67, e137_68, e137_69, e137_70, e137_73, e137_76, e137_77, am_bd_some, Option.toList_some, Option.toList_none, List.cons_append, List.nil_append, am_w8_0, am_w8_1, am_w8_2, am_w8_3, am_w8_4, eq_self, or_true, true_or, am_kd_sI, am_kd_sL, am_kd_sR, am_tc_sI, am_tc_sL, am_tc_sR, am_len_sI, am_len_sL, am_len_sR, am_rfs, if_true, if_false, am_rdL_sI, am_rR_sL, am_rt_cq, am_kd_cq, am_tc_cq, am_len_cq, am_rd_sL, am_rd_sR, am_rdL_sR, bo.1, c1, h1, okK_0 ok, okR_0_10 ok, okK_205 ok, okR_205_0 ok, okT_206 ok, okL_206 ok, xb, zb, rb, sh, an, nI_1]
    exact ih (b + 1) (by omega)
def B_iA (k : q_Bk) : Int32 := nI ((2 ^ B_d k - 1) &&& (63 ^^^ B_Dr k (B_turns k) (B_b k)))
def q_idA (A : q_All) (a : Int32) : Int32 := if 0 ≤ a ∧ a < nI (A.2.1 2) then B_iA (A.2.2.2.2.1 a.toNatClampNeg) else -1
theorem q_2d : ∀ d, d < 6 → 2 ^ d - 1 < 32 ∧ (2 ^ d - 1) &&& (63 ^^^ 0) = 2 ^ d - 1 := by decide
theorem den_cidle {A : q_All} {h : am_H} (H : q_Rel A h) (a : Int32) : ∃ h' : am_H, q_wk h h' ∧ am_den 137 [.ref 0, .int a] h = some (some (.int (q_idA A a)), h') := by
  have ok := H.1
  obtain ⟨c1, c2, c3⟩ := H.cnt 2 (by decide)
  have dh := den_has h ok 2 (by decide) (A.2.1 2) c1 c2 a
  rw [show nI 2 = 2 from rfl] at dh
  have y : ¬ (1 : Int32) = 0 := by decide
  show ∃ h' : am_H, q_wk h h' ∧ am_ev 137 0 [some (.ref 0), some (.int a), none, none, none] [] h = _
  unfold q_idA
  by_cases ca : 0 ≤ a ∧ a < nI (A.2.1 2)
  · rw [if_pos ca] at dh ⊢
    obtain ⟨i, hi, rfl⟩ := q_in2 c1 ca
    obtain ⟨bk, cB⟩ := q_cB_of H i hi
    have d5 := bk.1
    have r := (q_bo_now ok i (by omega)).2
    have z : (nI i).toNatClampNeg = i := nI_clamp (by omega)
    have x : am_ix (nI i) 2 = true := am_ix_nI (by omega) (by decide)
    obtain ⟨h1, f1, r1, s1⟩ := den_assign _ _ bk h cB
    have ok1 := f1.ok ok
    have cB1 := f1.cB cB
    obtain ⟨sh, -⟩ := q_shl1 (B_d (A.2.2.2.2.1 i)) (by omega)
    obtain ⟨sl, se⟩ := q_2d (B_d (A.2.2.2.2.1 i)) (by omega)
    have lp := q_id_l _ _ bk (B_turns (A.2.2.2.2.1 i)) (2 ^ B_d (A.2.2.2.2.1 i) - 1) sl h1 ok1 cB1.2.1 cB1.2.2.1.2.1 r1 (nI i) (B_b (A.2.2.2.2.1 i)) 0 (by omega)
    have e0 : B_Dr (A.2.2.2.2.1 i) (B_turns (A.2.2.2.2.1 i)) 0 = 0 := rfl
    rw [e0, se, nI_0] at lp
    refine ⟨h1, f1.wk ok, ?_⟩
    rw [z]
    simp only [e137_0, e137_1, e137_4, e137_5, e137_6, e137_9, e137_12, e137_13, e137_14, e137_15, e137_18, e137_21, e137_22f, e137_22d, e137_22b, e137_22l, e137_22t, e137_23, e137_24, e137_25, e137_28, e137_29, e137_32, e137_33, e137_34, e137_37, e137_38, e137_39, e137_40, e137_41, e137_42, e137_46, e137_47, e137_50, e137_53, e137_54, e137_55, e137_56, e137_59, e137_62, e137_64, e137_65, e137_66, e137_67, e137_68, e137_69, e137_70, e137_73, e137_76, e137_77, am_bd_some, Option.toList_some, Option.toList_none, List.cons_append, List.nil_append, am_w8_0, am_w8_1, am_w8_2, am_w8_3, am_w8_4, eq_self, or_true, true_or, am_kd_sI, am_kd_sL, am_kd_sR, am_tc_sI, am_tc_sL, am_tc_sR, am_len_sI, am_len_sL, am_len_sR, am_rfs, if_true, if_false, am_rdL_sI, am_rR_sL, am_rt_cq, am_kd_cq, am_tc_cq, am_len_cq, am_rd_sL, am_rd_sR, am_rdL_sR, okK_0 ok, okR_0_0 ok, okK_1 ok, okR_1_7 ok, okT_6 ok, okL_6 ok, okR_0_10 ok, okK_205 ok, dh, y, not_false_eq_true, x, z, r, s1, cB1.2.1.1, cB1.2.2.1.1, sh]
    exact lp
  · rw [if_neg ca] at dh ⊢
    refine ⟨h, q_wk.rf ok, ?_⟩
    simp only [e137_0, e137_1, e137_4, e137_5, e137_6, e137_9, e137_12, e137_13, e137_14, e137_15, e137_18, e137_21, e137_22f, e137_22d, e137_22b, e137_22l, e137_22t, e137_23, e137_24, e137_25, e137_28, e137_29, e137_32, e137_33, e137_34, e137_37, e137_38, e137_39, e137_40, e137_41, e137_42, e137_46, e137_47, e137_50, e137_53, e137_54, e137_55, e137_56, e137_59, e137_62, e137_64, e137_65, e137_66, e137_67, e137_68, e137_69, e137_70, e137_73, e137_76, e137_77, am_bd_some, Option.toList_some, Option.toList_none, List.cons_append, List.nil_append, am_w8_0, am_w8_1, am_w8_2, am_w8_3, am_w8_4, eq_self, or_true, true_or, am_kd_sI, am_kd_sL, am_kd_sR, am_tc_sI, am_tc_sL, am_tc_sR, am_len_sI, am_len_sL, am_len_sR, am_rfs, if_true, if_false, am_rdL_sI, am_rR_sL, am_rt_cq, am_kd_cq, am_tc_cq, am_len_cq, am_rd_sL, am_rd_sR, am_rdL_sR, okK_0 ok, okR_0_0 ok, okK_1 ok, dh, not_true]
