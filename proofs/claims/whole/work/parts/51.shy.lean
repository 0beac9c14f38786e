/-! part 51: shy -/
theorem e70_0 {ls : List (Option Value)} {st : List Value} {h : am_H} {a : Nat} : am_ev 70 0 (some (.ref a) :: ls) (st) h = am_ev 70 1 (some (.ref a) :: ls) (.ref a :: st) h := am_ev_step (q := (1, some (.ref a) :: ls, .ref a :: st, h)) _ (.aload_n 0) 1 am_my_70 (by decide +kernel) rfl
theorem e70_1 {ls : List (Option Value)} {st : List Value} {h : am_H} {l0 : Option Value} {a : Int32} : am_ev 70 1 (l0 :: some (.int a) :: ls) (st) h = am_ev 70 2 (l0 :: some (.int a) :: ls) (.int a :: st) h := am_ev_step (q := (2, l0 :: some (.int a) :: ls, .int a :: st, h)) _ (.iload_n 1) 1 am_my_70 (by decide +kernel) rfl
theorem e70_2 {ls : List (Option Value)} {st : List Value} {h : am_H} {l0 l1 : Option Value} {a : Int32} : am_ev 70 2 (l0 :: l1 :: some (.int a) :: ls) (st) h = am_ev 70 3 (l0 :: l1 :: some (.int a) :: ls) (.int a :: st) h := am_ev_step (q := (3, l0 :: l1 :: some (.int a) :: ls, .int a :: st, h)) _ (.iload_n 2) 1 am_my_70 (by decide +kernel) rfl
theorem e70_3 {ls : List (Option Value)} {st : List Value} {h : am_H} {p0 : Int32} {p1 : Int32} {o : Nat} (hw : am_w8 st ≤ 8) (hk : am_kd h o = some (.inl 10)) : am_ev 70 3 ls (.int p1 :: .int p0 :: .ref o :: st) h = am_bd (am_den 71 [.ref o, .int p0, .int p1] h) (fun v h1 => am_ev 70 6 ls (v.toList ++ st) h1) := am_u_cV (idx := 127) (wn := 3206) (as := [.int p0, .int p1]) am_my_70 (by decide +kernel) (Or.inl (by decide +kernel)) am_my_71 (by decide +kernel) rfl ⟨Nat.le_of_ble_eq_true rfl, rfl⟩ (by decide +kernel) hw hk
theorem e70_6 {ls : List (Option Value)} {st : List Value} {h : am_H} {a : Int32} : am_ev 70 6 ls (.int a :: st) h = if ¬ a = 0 then am_ev 70 11 ls st h else am_ev 70 9 ls st h := am_u_if1 (c := .ne) (off := 5) am_my_70 (by decide +kernel) (by decide)
theorem e70_9 {ls : List (Option Value)} {st : List Value} {h : am_H} : am_ev 70 9 (ls) (st) h = am_ev 70 10 (ls) (.int (-1) :: st) h := am_ev_step (q := (10, ls, .int (-1) :: st, h)) _ (.iconst (-1)) 1 am_my_70 (by decide +kernel) rfl
theorem e70_10 {ls : List (Option Value)} {h : am_H} {v : Int32} : am_ev 70 10 ls [.int v] h = some (some (.int v), h) := am_u_rtI am_my_70 (by decide +kernel) rfl
theorem e70_11 {ls : List (Option Value)} {st : List Value} {h : am_H} {a : Nat} : am_ev 70 11 (some (.ref a) :: ls) (st) h = am_ev 70 12 (some (.ref a) :: ls) (.ref a :: st) h := am_ev_step (q := (12, some (.ref a) :: ls, .ref a :: st, h)) _ (.aload_n 0) 1 am_my_70 (by decide +kernel) rfl
theorem e70_12 {ls : List (Option Value)} {st : List Value} {h : am_H} {o : Nat} (hk : am_kd h o = some (.inl 10)) : am_ev 70 12 ls (.ref o :: st) h = am_ev 70 15 ls (va_rf (h.2.2.1 o 0) :: st) h := am_u_gfR (idx := 10) (wn := 2146) (a := 0) am_my_70 (by decide +kernel) (by decide +kernel) (by decide +kernel) hk
theorem e70_15 {ls : List (Option Value)} {st : List Value} {h : am_H} {o : Nat} (hk : am_kd h o = some (.inl 8)) : am_ev 70 15 ls (.ref o :: st) h = am_ev 70 18 ls (va_rf (h.2.2.1 o 5) :: st) h := am_u_gfR (idx := 116) (wn := 1191) (a := 0) am_my_70 (by decide +kernel) (by decide +kernel) (by decide +kernel) hk
theorem e70_18 {ls : List (Option Value)} {st : List Value} {h : am_H} {l0 : Option Value} {a : Int32} : am_ev 70 18 (l0 :: some (.int a) :: ls) (st) h = am_ev 70 19 (l0 :: some (.int a) :: ls) (.int a :: st) h := am_ev_step (q := (19, l0 :: some (.int a) :: ls, .int a :: st, h)) _ (.iload_n 1) 1 am_my_70 (by decide +kernel) rfl
theorem e70_19f {ls : List (Option Value)} {st : List Value} {h : am_H} {i : Int32} {a : Nat} (ht : am_tc h a = some 4) : am_ev 70 19 ls (.int i :: .ref a :: st) h = if am_ix i (am_len h a) = true then am_ev 70 20 ls (va_rf (h.2.2.1 a i.toNatClampNeg) :: st) h else none := am_u_rA am_my_70 (by decide +kernel) ht (by decide)
theorem e70_19d {ls : List (Option Value)} {st : List Value} {h : am_H} {i : Int32} {a : Nat} (ht : am_tc h a = some 5) : am_ev 70 19 ls (.int i :: .ref a :: st) h = if am_ix i (am_len h a) = true then am_ev 70 20 ls (va_rf (h.2.2.1 a i.toNatClampNeg) :: st) h else none := am_u_rA am_my_70 (by decide +kernel) ht (by decide)
theorem e70_19b {ls : List (Option Value)} {st : List Value} {h : am_H} {i : Int32} {a : Nat} (ht : am_tc h a = some 6) : am_ev 70 19 ls (.int i :: .ref a :: st) h = if am_ix i (am_len h a) = true then am_ev 70 20 ls (va_rf (h.2.2.1 a i.toNatClampNeg) :: st) h else none := am_u_rA am_my_70 (by decide +kernel) ht (by decide)
theorem e70_19l {ls : List (Option Value)} {st : List Value} {h : am_H} {i : Int32} {a : Nat} (ht : am_tc h a = some 7) : am_ev 70 19 ls (.int i :: .ref a :: st) h = if am_ix i (am_len h a) = true then am_ev 70 20 ls (va_rf (h.2.2.1 a i.toNatClampNeg) :: st) h else none := am_u_rA am_my_70 (by decide +kernel) ht (by decide)
theorem e70_19t {ls : List (Option Value)} {st : List Value} {h : am_H} {i : Int32} {a : Nat} (ht : am_tc h a = some 8) : am_ev 70 19 ls (.int i :: .ref a :: st) h = if am_ix i (am_len h a) = true then am_ev 70 20 ls (va_rf (h.2.2.1 a i.toNatClampNeg) :: st) h else none := am_u_rA am_my_70 (by decide +kernel) ht (by decide)
theorem e70_20 {ls : List (Option Value)} {st : List Value} {h : am_H} {l0 l1 l2 : Option Value} {z : Option Value} {a : Nat} : am_ev 70 20 (l0 :: l1 :: l2 :: z :: ls) (.ref a :: st) h = am_ev 70 21 (l0 :: l1 :: l2 :: some (.ref a) :: ls) (st) h := am_ev_step (q := (21, l0 :: l1 :: l2 :: some (.ref a) :: ls, st, h)) _ (.astore_n 3) 1 am_my_70 (by decide +kernel) rfl
theorem e70_21 {ls : List (Option Value)} {st : List Value} {h : am_H} {a : Nat} : am_ev 70 21 (some (.ref a) :: ls) (st) h = am_ev 70 22 (some (.ref a) :: ls) (.ref a :: st) h := am_ev_step (q := (22, some (.ref a) :: ls, .ref a :: st, h)) _ (.aload_n 0) 1 am_my_70 (by decide +kernel) rfl
theorem e70_22 {ls : List (Option Value)} {st : List Value} {h : am_H} {o : Nat} (hk : am_kd h o = some (.inl 10)) : am_ev 70 22 ls (.ref o :: st) h = am_ev 70 25 ls (va_rf (h.2.2.1 o 4) :: st) h := am_u_gfR (idx := 34) (wn := 2150) (a := 0) am_my_70 (by decide +kernel) (by decide +kernel) (by decide +kernel) hk
theorem e70_25 {ls : List (Option Value)} {st : List Value} {h : am_H} {l0 l1 l2 : Option Value} {a : Nat} : am_ev 70 25 (l0 :: l1 :: l2 :: some (.ref a) :: ls) (st) h = am_ev 70 26 (l0 :: l1 :: l2 :: some (.ref a) :: ls) (.ref a :: st) h := am_ev_step (q := (26, l0 :: l1 :: l2 :: some (.ref a) :: ls, .ref a :: st, h)) _ (.aload_n 3) 1 am_my_70 (by decide +kernel) rfl
theorem e70_26 {ls : List (Option Value)} {st : List Value} {h : am_H} {p0 : Nat} {o : Nat} (hw : am_w8 st ≤ 8) (hk : am_kd h o = some (.inl 4)) : am_ev 70 26 ls (.ref p0 :: .ref o :: st) h = am_bd (am_den 72 [.ref o, .ref p0] h) (fun v h1 => am_ev 70 29 ls (v.toList ++ st) h1) := am_u_cV (idx := 130) (wn := 3210) (as := [.ref p0]) am_my_70 (by decide +kernel) (Or.inl (by decide +kernel)) am_my_72 (by decide +kernel) rfl ⟨Nat.le_of_ble_eq_true rfl, rfl⟩ (by decide +kernel) hw hk
theorem e70_29 {ls : List (Option Value)} {st : List Value} {h : am_H} {a : Nat} : am_ev 70 29 (some (.ref a) :: ls) (st) h = am_ev 70 30 (some (.ref a) :: ls) (.ref a :: st) h := am_ev_step (q := (30, some (.ref a) :: ls, .ref a :: st, h)) _ (.aload_n 0) 1 am_my_70 (by decide +kernel) rfl
theorem e70_30 {ls : List (Option Value)} {st : List Value} {h : am_H} {o : Nat} (hk : am_kd h o = some (.inl 10)) : am_ev 70 30 ls (.ref o :: st) h = am_ev 70 33 ls (va_rf (h.2.2.1 o 4) :: st) h := am_u_gfR (idx := 34) (wn := 2150) (a := 0) am_my_70 (by decide +kernel) (by decide +kernel) (by decide +kernel) hk
theorem e70_33 {ls : List (Option Value)} {st : List Value} {h : am_H} {l0 l1 : Option Value} {a : Int32} : am_ev 70 33 (l0 :: l1 :: some (.int a) :: ls) (st) h = am_ev 70 34 (l0 :: l1 :: some (.int a) :: ls) (.int a :: st) h := am_ev_step (q := (34, l0 :: l1 :: some (.int a) :: ls, .int a :: st, h)) _ (.iload_n 2) 1 am_my_70 (by decide +kernel) rfl
theorem e70_34 {ls : List (Option Value)} {st : List Value} {h : am_H} {p0 : Int32} {o : Nat} (hw : am_w8 st ≤ 8) (hk : am_kd h o = some (.inl 4)) : am_ev 70 34 ls (.int p0 :: .ref o :: st) h = am_bd (am_den 74 [.ref o, .int p0] h) (fun v h1 => am_ev 70 37 ls (v.toList ++ st) h1) := am_u_cV (idx := 134) (wn := 3218) (as := [.int p0]) am_my_70 (by decide +kernel) (Or.inl (by decide +kernel)) am_my_74 (by decide +kernel) rfl ⟨Nat.le_of_ble_eq_true rfl, rfl⟩ (by decide +kernel) hw hk
theorem e70_37 {ls : List (Option Value)} {st : List Value} {h : am_H} {a : Int32} : am_ev 70 37 (ls) (.int a :: st) h = am_ev 70 38 (ls) (st) h := am_ev_step (q := (38, ls, st, h)) _ (.pop) 1 am_my_70 (by decide +kernel) rfl
theorem e70_38 {ls : List (Option Value)} {st : List Value} {h : am_H} {l0 l1 l2 : Option Value} {a : Nat} : am_ev 70 38 (l0 :: l1 :: l2 :: some (.ref a) :: ls) (st) h = am_ev 70 39 (l0 :: l1 :: l2 :: some (.ref a) :: ls) (.ref a :: st) h := am_ev_step (q := (39, l0 :: l1 :: l2 :: some (.ref a) :: ls, .ref a :: st, h)) _ (.aload_n 3) 1 am_my_70 (by decide +kernel) rfl
theorem e70_39 {ls : List (Option Value)} {st : List Value} {h : am_H} {a : Nat} : am_ev 70 39 (some (.ref a) :: ls) (st) h = am_ev 70 40 (some (.ref a) :: ls) (.ref a :: st) h := am_ev_step (q := (40, some (.ref a) :: ls, .ref a :: st, h)) _ (.aload_n 0) 1 am_my_70 (by decide +kernel) rfl
theorem e70_40 {ls : List (Option Value)} {st : List Value} {h : am_H} {o : Nat} (hk : am_kd h o = some (.inl 10)) : am_ev 70 40 ls (.ref o :: st) h = am_ev 70 43 ls (va_rf (h.2.2.1 o 4) :: st) h := am_u_gfR (idx := 34) (wn := 2150) (a := 0) am_my_70 (by decide +kernel) (by decide +kernel) (by decide +kernel) hk
theorem e70_43 {ls : List (Option Value)} {st : List Value} {h : am_H} {o : Nat} (hk : am_kd h o = some (.inl 4)) : am_ev 70 43 ls (.ref o :: st) h = am_ev 70 46 ls (va_rf (h.2.2.1 o 3) :: st) h := am_u_gfR (idx := 138) (wn := 2056) (a := 0) am_my_70 (by decide +kernel) (by decide +kernel) (by decide +kernel) hk
theorem e70_46 {ls : List (Option Value)} {st : List Value} {h : am_H} {l0 l1 : Option Value} {a : Int32} : am_ev 70 46 (l0 :: l1 :: some (.int a) :: ls) (st) h = am_ev 70 47 (l0 :: l1 :: some (.int a) :: ls) (.int a :: st) h := am_ev_step (q := (47, l0 :: l1 :: some (.int a) :: ls, .int a :: st, h)) _ (.iload_n 2) 1 am_my_70 (by decide +kernel) rfl
theorem e70_47 {ls : List (Option Value)} {st : List Value} {h : am_H} {i : Int32} {a : Nat} (ht : am_tc h a = some 0) : am_ev 70 47 ls (.int i :: .ref a :: st) h = if am_ix i (am_len h a) = true then am_ev 70 48 ls (.int (h.1 a i.toNatClampNeg) :: st) h else none := am_u_rI am_my_70 (by decide +kernel) ht
theorem e70_48 {ls : List (Option Value)} {st : List Value} {h : am_H} {p0 : Int32} {o : Nat} (hw : am_w8 st ≤ 8) (hk : am_kd h o = some (.inl 3)) : am_ev 70 48 ls (.int p0 :: .ref o :: st) h = am_bd (am_den 67 [.ref o, .int p0] h) (fun v h1 => am_ev 70 51 ls (v.toList ++ st) h1) := am_u_cV (idx := 141) (wn := 4012) (as := [.int p0]) am_my_70 (by decide +kernel) (Or.inl (by decide +kernel)) am_my_67 (by decide +kernel) rfl ⟨Nat.le_of_ble_eq_true rfl, rfl⟩ (by decide +kernel) hw hk
theorem e70_51 {ls : List (Option Value)} {h : am_H} {v : Int32} : am_ev 70 51 ls [.int v] h = some (some (.int v), h) := am_u_rtI am_my_70 (by decide +kernel) rfl
theorem e227_0 {ls : List (Option Value)} {st : List Value} {h : am_H} {a : Nat} : am_ev 227 0 (some (.ref a) :: ls) (st) h = am_ev 227 1 (some (.ref a) :: ls) (.ref a :: st) h := am_ev_step (q := (1, some (.ref a) :: ls, .ref a :: st, h)) _ (.aload_n 0) 1 am_my_227 (by decide +kernel) rfl
theorem e227_1 {ls : List (Option Value)} {st : List Value} {h : am_H} : am_ev 227 1 (ls) (st) h = am_ev 227 2 (ls) (.int (0) :: st) h := am_ev_step (q := (2, ls, .int (0) :: st, h)) _ (.iconst (0)) 1 am_my_227 (by decide +kernel) rfl
theorem e227_2 {ls : List (Option Value)} {st : List Value} {h : am_H} {o : Nat} {v : Int32} (hk : am_kd h o = some (.inl 11)) : am_ev 227 2 ls (.int v :: .ref o :: st) h = am_ev 227 5 ls st (am_sI h o 0 v) := am_u_pfI (idx := 87) (wn := 5132) am_my_227 (by decide +kernel) (by decide +kernel) (by decide +kernel) (by decide +kernel) hk
theorem e227_5 {ls : List (Option Value)} {st : List Value} {h : am_H} {a : Nat} : am_ev 227 5 (some (.ref a) :: ls) (st) h = am_ev 227 6 (some (.ref a) :: ls) (.ref a :: st) h := am_ev_step (q := (6, some (.ref a) :: ls, .ref a :: st, h)) _ (.aload_n 0) 1 am_my_227 (by decide +kernel) rfl
theorem e227_6 {ls : List (Option Value)} {st : List Value} {h : am_H} {l0 : Option Value} {a : Int32} : am_ev 227 6 (l0 :: some (.int a) :: ls) (st) h = am_ev 227 7 (l0 :: some (.int a) :: ls) (.int a :: st) h := am_ev_step (q := (7, l0 :: some (.int a) :: ls, .int a :: st, h)) _ (.iload_n 1) 1 am_my_227 (by decide +kernel) rfl
theorem e227_7 {ls : List (Option Value)} {st : List Value} {h : am_H} {p0 : Int32} {o : Nat} (hw : am_w8 st ≤ 8) (hk : am_kd h o = some (.inl 11)) : am_ev 227 7 ls (.int p0 :: .ref o :: st) h = am_bd (am_den 201 [.ref o, .int p0] h) (fun v h1 => am_ev 227 10 ls (v.toList ++ st) h1) := am_u_cV (idx := 339) (wn := 6230) (as := [.int p0]) am_my_227 (by decide +kernel) (Or.inl (by decide +kernel)) am_my_201 (by decide +kernel) rfl ⟨Nat.le_of_ble_eq_true rfl, rfl⟩ (by decide +kernel) hw hk
theorem e227_10 {ls : List (Option Value)} {st : List Value} {h : am_H} {a : Int32} : am_ev 227 10 ls (.int a :: st) h = if a = 0 then am_ev 227 21 ls st h else am_ev 227 13 ls st h := am_u_if1 (c := .eq) (off := 11) am_my_227 (by decide +kernel) (by decide)
theorem e227_13 {ls : List (Option Value)} {st : List Value} {h : am_H} {a : Nat} : am_ev 227 13 (some (.ref a) :: ls) (st) h = am_ev 227 14 (some (.ref a) :: ls) (.ref a :: st) h := am_ev_step (q := (14, some (.ref a) :: ls, .ref a :: st, h)) _ (.aload_n 0) 1 am_my_227 (by decide +kernel) rfl
theorem e227_14 {ls : List (Option Value)} {st : List Value} {h : am_H} {l0 l1 : Option Value} {a : Int32} : am_ev 227 14 (l0 :: l1 :: some (.int a) :: ls) (st) h = am_ev 227 15 (l0 :: l1 :: some (.int a) :: ls) (.int a :: st) h := am_ev_step (q := (15, l0 :: l1 :: some (.int a) :: ls, .int a :: st, h)) _ (.iload_n 2) 1 am_my_227 (by decide +kernel) rfl
theorem e227_15 {ls : List (Option Value)} {st : List Value} {h : am_H} {p0 : Int32} {o : Nat} (hw : am_w8 st ≤ 8) (hk : am_kd h o = some (.inl 11)) : am_ev 227 15 ls (.int p0 :: .ref o :: st) h = am_bd (am_den 203 [.ref o, .int p0] h) (fun v h1 => am_ev 227 18 ls (v.toList ++ st) h1) := am_u_cV (idx := 342) (wn := 6238) (as := [.int p0]) am_my_227 (by decide +kernel) (Or.inl (by decide +kernel)) am_my_203 (by decide +kernel) rfl ⟨Nat.le_of_ble_eq_true rfl, rfl⟩ (by decide +kernel) hw hk
theorem e227_18 {ls : List (Option Value)} {st : List Value} {h : am_H} {a : Int32} : am_ev 227 18 ls (.int a :: st) h = if ¬ a = 0 then am_ev 227 23 ls st h else am_ev 227 21 ls st h := am_u_if1 (c := .ne) (off := 5) am_my_227 (by decide +kernel) (by decide)
theorem e227_21 {ls : List (Option Value)} {st : List Value} {h : am_H} : am_ev 227 21 (ls) (st) h = am_ev 227 22 (ls) (.int (-1) :: st) h := am_ev_step (q := (22, ls, .int (-1) :: st, h)) _ (.iconst (-1)) 1 am_my_227 (by decide +kernel) rfl
theorem e227_22 {ls : List (Option Value)} {h : am_H} {v : Int32} : am_ev 227 22 ls [.int v] h = some (some (.int v), h) := am_u_rtI am_my_227 (by decide +kernel) rfl
theorem e227_23 {ls : List (Option Value)} {st : List Value} {h : am_H} {a : Nat} : am_ev 227 23 (some (.ref a) :: ls) (st) h = am_ev 227 24 (some (.ref a) :: ls) (.ref a :: st) h := am_ev_step (q := (24, some (.ref a) :: ls, .ref a :: st, h)) _ (.aload_n 0) 1 am_my_227 (by decide +kernel) rfl
theorem e227_24 {ls : List (Option Value)} {st : List Value} {h : am_H} {l0 l1 : Option Value} {a : Int32} : am_ev 227 24 (l0 :: l1 :: some (.int a) :: ls) (st) h = am_ev 227 25 (l0 :: l1 :: some (.int a) :: ls) (.int a :: st) h := am_ev_step (q := (25, l0 :: l1 :: some (.int a) :: ls, .int a :: st, h)) _ (.iload_n 2) 1 am_my_227 (by decide +kernel) rfl
theorem e227_25 {ls : List (Option Value)} {st : List Value} {h : am_H} {p0 : Int32} {o : Nat} (hw : am_w8 st ≤ 8) (hk : am_kd h o = some (.inl 11)) : am_ev 227 25 ls (.int p0 :: .ref o :: st) h = am_bd (am_den 218 [.ref o, .int p0] h) (fun v h1 => am_ev 227 28 ls (v.toList ++ st) h1) := am_u_cV (idx := 336) (wn := 7058) (as := [.int p0]) am_my_227 (by decide +kernel) (Or.inl (by decide +kernel)) am_my_218 (by decide +kernel) rfl ⟨Nat.le_of_ble_eq_true rfl, rfl⟩ (by decide +kernel) hw hk
theorem e227_28 {ls : List (Option Value)} {st : List Value} {h : am_H} {a : Nat} : am_ev 227 28 (some (.ref a) :: ls) (st) h = am_ev 227 29 (some (.ref a) :: ls) (.ref a :: st) h := am_ev_step (q := (29, some (.ref a) :: ls, .ref a :: st, h)) _ (.aload_n 0) 1 am_my_227 (by decide +kernel) rfl
theorem e227_29 {ls : List (Option Value)} {st : List Value} {h : am_H} {o : Nat} (hk : am_kd h o = some (.inl 11)) : am_ev 227 29 ls (.ref o :: st) h = am_ev 227 32 ls (va_rf (h.2.2.1 o 36) :: st) h := am_u_gfR (idx := 51) (wn := 5168) (a := 0) am_my_227 (by decide +kernel) (by decide +kernel) (by decide +kernel) hk
theorem e227_32 {ls : List (Option Value)} {st : List Value} {h : am_H} {l0 l1 : Option Value} {a : Int32} : am_ev 227 32 (l0 :: l1 :: some (.int a) :: ls) (st) h = am_ev 227 33 (l0 :: l1 :: some (.int a) :: ls) (.int a :: st) h := am_ev_step (q := (33, l0 :: l1 :: some (.int a) :: ls, .int a :: st, h)) _ (.iload_n 2) 1 am_my_227 (by decide +kernel) rfl
theorem e227_33 {ls : List (Option Value)} {st : List Value} {h : am_H} {i : Int32} {a : Nat} (ht : am_tc h a = some 0) : am_ev 227 33 ls (.int i :: .ref a :: st) h = if am_ix i (am_len h a) = true then am_ev 227 34 ls (.int (h.1 a i.toNatClampNeg) :: st) h else none := am_u_rI am_my_227 (by decide +kernel) ht
theorem e227_34 {ls : List (Option Value)} {h : am_H} {v : Int32} : am_ev 227 34 ls [.int v] h = some (some (.int v), h) := am_u_rtI am_my_227 (by decide +kernel) rfl
theorem den_numberOf (h : am_H) (o : Nat) (f : q_Fl) (cf : q_cf h o f) (c : Nat) (hc : c < 64) : am_den 67 [.ref o, .int (nI c)] h = some (some (.int (nI (q_nm f c))), h) := by
  obtain ⟨fo, c0, -⟩ := cf
  obtain ⟨d1, d2⟩ := q_d8 hc
  have n1 := q_m1_n c (by omega)
  have n8 : ¬ (8 : Int32) = 0 := by decide
  show am_ev 67 0 [some (.ref o), some (.int (nI c))] [] h = _
  simp only [e67_0, e67_1, e67_2, e67_5, e67_6, e67_9, e67_10, e67_13, e67_14, e67_16, e67_17, e67_18, e67_19, e67_21, e67_22, e67_23, am_bd_some, Option.toList_some, Option.toList_none, List.cons_append, List.nil_append, am_w8_0, am_w8_1, am_w8_2, am_w8_3, am_w8_4, eq_self, or_true, true_or, am_kd_sI, am_kd_sL, am_kd_sR, am_tc_sI, am_tc_sL, am_tc_sR, am_len_sI, am_len_sL, am_len_sR, am_rfs, if_true, if_false, am_rdL_sI, am_rR_sL, am_rt_cq, am_kd_cq, am_tc_cq, am_len_cq, am_rd_sL, am_rd_sR, am_rdL_sR, n1, not_false_eq_true, fo.1, c0, n8, d1, d2, pk_mul, nI_add, q_nm]
theorem den_numberOf0 (h : am_H) (o : Nat) : am_den 67 [.ref o, .int (-1)] h = some (some (.int (-1)), h) := by
  show am_ev 67 0 [some (.ref o), some (.int (-1))] [] h = _
  simp only [e67_0, e67_1, e67_2, e67_5, e67_6, e67_9, e67_10, e67_13, e67_14, e67_16, e67_17, e67_18, e67_19, e67_21, e67_22, e67_23, am_bd_some, Option.toList_some, Option.toList_none, List.cons_append, List.nil_append, am_w8_0, am_w8_1, am_w8_2, am_w8_3, am_w8_4, eq_self, or_true, true_or, am_kd_sI, am_kd_sL, am_kd_sR, am_tc_sI, am_tc_sL, am_tc_sR, am_len_sI, am_len_sL, am_len_sR, am_rfs, if_true, if_false, am_rdL_sI, am_rR_sL, am_rt_cq, am_kd_cq, am_tc_cq, am_len_cq, am_rd_sL, am_rd_sR, am_rdL_sR, not_true]
/-- a fell and one of its beasts are there -/
def q_fb2 (A : q_All) (d b : Int32) : Prop := (0 ≤ d ∧ d < nI (A.2.1 0)) ∧ (0 ≤ b ∧ b < nI (F_n (A.2.2.1 d.toNatClampNeg)))
noncomputable def q_shyA (A : q_All) (d b : Int32) : Int32 := @ite _ (q_fb2 A d b) (Classical.propDecidable _) (nI (q_nm (A.2.2.1 d.toNatClampNeg) (G_at (G_go (A.2.2.1 d.toNatClampNeg) (G_0 (A.2.2.1 d.toNatClampNeg)) b.toNatClampNeg) b.toNatClampNeg))) (-1)
theorem q_fb2_nat {A : q_All} {h : am_H} (H : q_Rel A h) {d b : Int32} (c : q_fb2 A d b) : ∃ i j : Nat, i < A.2.1 0 ∧ i < 2 ∧ d = nI i ∧ j < F_n (A.2.2.1 i) ∧ j < 6 ∧ b = nI j := by
  obtain ⟨ca, cb⟩ := c
  have c1 := (H.cnt 0 (by decide)).1
  obtain ⟨i, hi, rfl⟩ := q_in2 c1 ca
  have z : (nI i).toNatClampNeg = i := nI_clamp (by omega)
  rw [z] at cb
  have n6 : F_n (A.2.2.1 i) ≤ 6 := (H.fl i hi).1.2.2.2.2.2.1
  obtain ⟨j, hj, rfl⟩ := nI_of (Int32.not_lt.mpr cb.1)
  have hj2 : j < F_n (A.2.2.1 i) := (nI_ltI hj (by omega)).mp cb.2
  exact ⟨i, j, hi, by omega, rfl, hj2, by omega, rfl⟩
theorem den_cshy {A : q_All} {h : am_H} (H : q_Rel A h) (d b : Int32) : ∃ h' : am_H, q_wk h h' ∧ am_den 70 [.ref 0, .int d, .int b] h = some (some (.int (q_shyA A d b)), h') := by
  have ok := H.1
  have db := den_hasBeast H d b
  show ∃ h' : am_H, q_wk h h' ∧ am_ev 70 0 [some (.ref 0), some (.int d), some (.int b), none] [] h = _
  unfold q_shyA
  by_cases c : q_fb2 A d b
  · rw [if_pos c]
    have c' : (0 ≤ d ∧ d < nI (A.2.1 0)) ∧ (0 ≤ b ∧ b < nI (F_n (A.2.2.1 d.toNatClampNeg))) := c
    rw [if_pos c'] at db
    obtain ⟨i, j, hi, hi2, rfl, hj, hj6, rfl⟩ := q_fb2_nat H c
    obtain ⟨fk, cF, -⟩ := H.fl i hi
    have wf := fk.wf
    have z : (nI i).toNatClampNeg = i := nI_clamp (by omega)
    have x : am_ix (nI i) 2 = true := am_ix_nI (by omega) (by decide)
    have zj : (nI j).toNatClampNeg = j := nI_clamp (by omega)
    have xj : am_ix (nI j) 6 = true := am_ix_nI (by omega) (by decide)
    have r := q_fo_ref ok i hi2
    have y : ¬ (1 : Int32) = 0 := by decide
    have q178 : q_flk 178 := Or.inl rfl
    obtain ⟨h1, f1, g1, s1⟩ := den_begin h ok 178 (8 + 16 * i) q178 (by omega) _ wf cF
    have ok1 := f1.ok q178 ok
    have i0 := G_0_in fk
    obtain ⟨h2, f2, g2, s2⟩ := den_goes h1 178 (8 + 16 * i) _ (G_0 _) g1 wf i0 j hj
    have fb := f1.tr f2.fb
    have ok2 := fb.ok q178 ok
    have i2 := G_go_in (b := j) wf i0 hj
    have a2 := g2.2.2.2.1 j hj
    have k2 := g2.1.1
    have dn := den_numberOf h2 (8 + 16 * i) _ g2.2.1 _ (i2.2.2 j hj).1
    refine ⟨h2, fb.wk q178 ok, ?_⟩
    rw [z, zj]
    simp only [e70_0, e70_1, e70_2, e70_3, e70_6, e70_9, e70_10, e70_11, e70_12, e70_15, e70_18, e70_19f, e70_19d, e70_19b, e70_19l, e70_19t, e70_20, e70_21, e70_22, e70_25, e70_26, e70_29, e70_30, e70_33, e70_34, e70_37, e70_38, e70_39, e70_40, e70_43, e70_46, e70_47, e70_48, e70_51, am_bd_some, Option.toList_some, Option.toList_none, List.cons_append, List.nil_append, am_w8_0, am_w8_1, am_w8_2, am_w8_3, am_w8_4, eq_self, or_true, true_or, am_kd_sI, am_kd_sL, am_kd_sR, am_tc_sI, am_tc_sL, am_tc_sR, am_len_sI, am_len_sL, am_len_sR, am_rfs, if_true, if_false, am_rdL_sI, am_rR_sL, am_rt_cq, am_kd_cq, am_tc_cq, am_len_cq, am_rd_sL, am_rd_sR, am_rdL_sR, okK_0 ok, okR_0_0 ok, okK_1 ok, okR_1_5 ok, okT_4 ok, okL_4 ok, okR_0_4 ok, okK_178 ok, db, y, not_false_eq_true, x, z, r, s1, okK_0 ok1, okR_0_4 ok1, okK_178 ok1, s2, okK_0 ok2, okR_0_4 ok2, okK_178 ok2, okR_178_3 ok2, okT_182 ok2, okL_182 ok2, xj, zj, a2, g2.2.1.1.1, dn]
  · rw [if_neg c]
    have c' : ¬ ((0 ≤ d ∧ d < nI (A.2.1 0)) ∧ (0 ≤ b ∧ b < nI (F_n (A.2.2.1 d.toNatClampNeg)))) := c
    rw [if_neg c'] at db
    refine ⟨h, q_wk.rf ok, ?_⟩
    simp only [e70_0, e70_1, e70_2, e70_3, e70_6, e70_9, e70_10, e70_11, e70_12, e70_15, e70_18, e70_19f, e70_19d, e70_19b, e70_19l, e70_19t, e70_20, e70_21, e70_22, e70_25, e70_26, e70_29, e70_30, e70_33, e70_34, e70_37, e70_38, e70_39, e70_40, e70_43, e70_46, e70_47, e70_48, e70_51, am_bd_some, Option.toList_some, Option.toList_none, List.cons_append, List.nil_append, am_w8_0, am_w8_1, am_w8_2, am_w8_3, am_w8_4, eq_self, or_true, true_or, am_kd_sI, am_kd_sL, am_kd_sR, am_tc_sI, am_tc_sL, am_tc_sR, am_len_sI, am_len_sL, am_len_sR, am_rfs, if_true, if_false, am_rdL_sI, am_rR_sL, am_rt_cq, am_kd_cq, am_tc_cq, am_len_cq, am_rd_sL, am_rd_sR, am_rdL_sR, okK_0 ok, db, not_true]
theorem den_mshy {A : q_All} {h : am_H} (H : q_Rel A h) (d b : Int32) : ∃ h' : am_H, q_wk h h' ∧ am_den 227 [.ref 211, .int d, .int b] h = some (some (.int (q_shyA A d b)), h') := by
  have ok := H.1
  have h0 := H.2.1
  obtain ⟨c1, c2, c3⟩ := H.cnt 0 (by decide)
  show ∃ h' : am_H, q_wk h h' ∧ am_ev 227 0 [some (.ref 211), some (.int d), some (.int b)] [] h = _
  unfold q_shyA
  have y : ¬ (1 : Int32) = 0 := by decide
  by_cases c : 0 ≤ d ∧ d < nI (A.2.1 0)
  · obtain ⟨i, hi, rfl⟩ := q_in2 c1 c
    obtain ⟨fk, cF, fm⟩ := H.fl i hi
    have wf := fk.wf
    have z : (nI i).toNatClampNeg = i := nI_clamp (by omega)
    obtain ⟨h1, f1, e24, g1, s1⟩ := den_hand1 h ok i (by omega) _ fk fm (A.2.1 0) c1 hi c3
    have ok1 := g1.1.1
    have db := den_isBeast h1 ok1 (F_n (A.2.2.1 i)) wf.2.2.2.1 g1.1.2.2.2.2.2.1 b
    by_cases cb : 0 ≤ b ∧ b < nI (F_n (A.2.2.1 i))
    · have cc : q_fb2 A (nI i) b := ⟨c, by rw [z]; exact cb⟩
      rw [if_pos cc]
      rw [if_pos cb] at db
      obtain ⟨i', j, -, hi2, ei, hj, hj6, rfl⟩ := q_fb2_nat H cc
      obtain rfl : i = i' := (nI_eq (by omega) (by omega)).mp ei
      have zj : (nI j).toNatClampNeg = j := nI_clamp (by omega)
      have xj : am_ix (nI j) 6 = true := am_ix_nI (by omega) (by decide)
      obtain ⟨h2, f2, g2, s2⟩ := den_mgoes h1 _ (G_0 _) g1 wf (G_0_in fk) (G_0_pi fk) j hj
      have ok2 := g2.1.1
      have a2 := g2.2.2.1 j hj
      refine ⟨h2, (f1.tr f2.hw).wk ok, ?_⟩
      rw [z, zj]
      simp only [e227_0, e227_1, e227_2, e227_5, e227_6, e227_7, e227_10, e227_13, e227_14, e227_15, e227_18, e227_21, e227_22, e227_23, e227_24, e227_25, e227_28, e227_29, e227_32, e227_33, e227_34, am_bd_some, Option.toList_some, Option.toList_none, List.cons_append, List.nil_append, am_w8_0, am_w8_1, am_w8_2, am_w8_3, am_w8_4, eq_self, or_true, true_or, am_kd_sI, am_kd_sL, am_kd_sR, am_tc_sI, am_tc_sL, am_tc_sR, am_len_sI, am_len_sL, am_len_sR, am_rfs, if_true, if_false, am_rdL_sI, am_rR_sL, am_rt_cq, am_kd_cq, am_tc_cq, am_len_cq, am_rd_sL, am_rd_sR, am_rdL_sR, okK_211 ok, am_sI_id h0, s1, y, okK_211 ok1, db, not_false_eq_true, s2, okK_211 ok2, okR_211_36 ok2, okT_225 ok2, okL_225 ok2, xj, zj, a2]
    · have cc : ¬ q_fb2 A (nI i) b := fun w => cb (by have := w.2; rw [z] at this; exact this)
      rw [if_neg cc]
      rw [if_neg cb] at db
      refine ⟨h1, f1.wk ok, ?_⟩
      simp only [e227_0, e227_1, e227_2, e227_5, e227_6, e227_7, e227_10, e227_13, e227_14, e227_15, e227_18, e227_21, e227_22, e227_23, e227_24, e227_25, e227_28, e227_29, e227_32, e227_33, e227_34, am_bd_some, Option.toList_some, Option.toList_none, List.cons_append, List.nil_append, am_w8_0, am_w8_1, am_w8_2, am_w8_3, am_w8_4, eq_self, or_true, true_or, am_kd_sI, am_kd_sL, am_kd_sR, am_tc_sI, am_tc_sL, am_tc_sR, am_len_sI, am_len_sL, am_len_sR, am_rfs, if_true, if_false, am_rdL_sI, am_rR_sL, am_rt_cq, am_kd_cq, am_tc_cq, am_len_cq, am_rd_sL, am_rd_sR, am_rdL_sR, okK_211 ok, am_sI_id h0, s1, y, okK_211 ok1, db, not_true]
  · have cc : ¬ q_fb2 A d b := fun w => c w.1
    rw [if_neg cc]
    have s0 := den_hand0 h ok (A.2.1 0) c1 c3 d c
    refine ⟨h, q_wk.rf ok, ?_⟩
    simp only [e227_0, e227_1, e227_2, e227_5, e227_6, e227_7, e227_10, e227_13, e227_14, e227_15, e227_18, e227_21, e227_22, e227_23, e227_24, e227_25, e227_28, e227_29, e227_32, e227_33, e227_34, am_bd_some, Option.toList_some, Option.toList_none, List.cons_append, List.nil_append, am_w8_0, am_w8_1, am_w8_2, am_w8_3, am_w8_4, eq_self, or_true, true_or, am_kd_sI, am_kd_sL, am_kd_sR, am_tc_sI, am_tc_sL, am_tc_sR, am_len_sI, am_len_sL, am_len_sR, am_rfs, if_true, if_false, am_rdL_sI, am_rR_sL, am_rt_cq, am_kd_cq, am_tc_cq, am_len_cq, am_rd_sL, am_rd_sR, am_rdL_sR, okK_211 ok, am_sI_id h0, s0]
/-- a pair out of two that change nothing told -/
theorem pr_wk {kc km : Nat} {as : List Value} (v : q_All → Int32) (hc : ∀ A h, q_Rel A h → ∃ h' : am_H, q_wk h h' ∧ am_den kc (.ref 0 :: as) h = some (some (.int (v A)), h')) (hm : ∀ A h, q_Rel A h → ∃ h' : am_H, q_wk h h' ∧ am_den km (.ref 211 :: as) h = some (some (.int (v A)), h')) : am_prI kc km as := fun h R => by
  obtain ⟨A, H⟩ := R
  obtain ⟨h1, w1, d1⟩ := hc A h H
  have H1 := H.wk w1
  obtain ⟨h2, w2, d2⟩ := hm A h1 H1
  exact ⟨v A, h1, h2, w1.1, w1.2.1, d1, d2, ⟨A, H1.wk w2⟩, w2.2.1.trans w1.2.1⟩
theorem pr_wkL {kc km : Nat} {as : List Value} (v : q_All → Int64) (hc : ∀ A h, q_Rel A h → ∃ h' : am_H, q_wk h h' ∧ am_den kc (.ref 0 :: as) h = some (some (.long (v A)), h')) (hm : ∀ A h, q_Rel A h → ∃ h' : am_H, q_wk h h' ∧ am_den km (.ref 211 :: as) h = some (some (.long (v A)), h')) : am_prL kc km as := fun h R => by
  obtain ⟨A, H⟩ := R
  obtain ⟨h1, w1, d1⟩ := hc A h H
  have H1 := H.wk w1
  obtain ⟨h2, w2, d2⟩ := hm A h1 H1
  exact ⟨v A, h1, h2, w1.1, w1.2.1, d1, d2, ⟨A, H1.wk w2⟩, w2.2.1.trans w1.2.1⟩
theorem ly_8 : ly_p8 := fun d b => pr_wk (fun A => q_shyA A d b) (fun A h H => den_cshy H d b) (fun A h H => den_mshy H d b)
