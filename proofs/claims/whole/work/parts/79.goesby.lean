/-! part 79: by a log: the reference's minute -/
theorem e263_0 {ls : List (Option Value)} {st : List Value} {h : am_H} {a : Nat} : am_ev 263 0 (some (.ref a) :: ls) (st) h = am_ev 263 1 (some (.ref a) :: ls) (.ref a :: st) h := am_ev_step (q := (1, some (.ref a) :: ls, .ref a :: st, h)) _ (.aload_n 0) 1 am_my_263 (by decide +kernel) rfl
theorem e263_1 {ls : List (Option Value)} {st : List Value} {h : am_H} {o : Nat} (hk : am_kd h o = some (.inl 11)) : am_ev 263 1 ls (.ref o :: st) h = am_ev 263 4 ls (va_rf (h.2.2.1 o 35) :: st) h := am_u_gfR (idx := 48) (wn := 5167) (a := 0) am_my_263 (by decide +kernel) (by decide +kernel) (by decide +kernel) hk
theorem e263_4 {ls : List (Option Value)} {st : List Value} {h : am_H} : am_ev 263 4 (ls) (st) h = am_ev 263 5 (ls) (.int (0) :: st) h := am_ev_step (q := (5, ls, .int (0) :: st, h)) _ (.iconst (0)) 1 am_my_263 (by decide +kernel) rfl
theorem e263_5 {ls : List (Option Value)} {st : List Value} {h : am_H} {l0 : Option Value} {a : Int32} : am_ev 263 5 (l0 :: some (.int a) :: ls) (st) h = am_ev 263 6 (l0 :: some (.int a) :: ls) (.int a :: st) h := am_ev_step (q := (6, l0 :: some (.int a) :: ls, .int a :: st, h)) _ (.iload_n 1) 1 am_my_263 (by decide +kernel) rfl
theorem e263_6 {ls : List (Option Value)} {st : List Value} {h : am_H} : am_ev 263 6 (ls) (st) h = am_ev 263 8 (ls) (.int (9) :: st) h := am_ev_step (q := (8, ls, .int (9) :: st, h)) _ (.bipush (9)) 2 am_my_263 (by decide +kernel) rfl
theorem e263_8 {ls : List (Option Value)} {st : List Value} {h : am_H} {a b : Int32} : am_ev 263 8 ls (.int b :: .int a :: st) h = if b = 0 then none else am_ev 263 9 ls (.int (a / b) :: st) h := am_u_iz (i := .idiv) (f := fun a b => a / b) am_my_263 (by decide +kernel) (fun _ => rfl)
theorem e263_9 {ls : List (Option Value)} {st : List Value} {h : am_H} {v i : Int32} {a : Nat} (ht : am_tc h a = some 0) : am_ev 263 9 ls (.int v :: .int i :: .ref a :: st) h = if am_ix i (am_len h a) = true then am_ev 263 10 ls st (am_sI h a i.toNatClampNeg v) else none := am_u_wI am_my_263 (by decide +kernel) ht
theorem e263_10 {ls : List (Option Value)} {st : List Value} {h : am_H} {a : Nat} : am_ev 263 10 (some (.ref a) :: ls) (st) h = am_ev 263 11 (some (.ref a) :: ls) (.ref a :: st) h := am_ev_step (q := (11, some (.ref a) :: ls, .ref a :: st, h)) _ (.aload_n 0) 1 am_my_263 (by decide +kernel) rfl
theorem e263_11 {ls : List (Option Value)} {st : List Value} {h : am_H} {l0 : Option Value} {a : Int32} : am_ev 263 11 (l0 :: some (.int a) :: ls) (st) h = am_ev 263 12 (l0 :: some (.int a) :: ls) (.int a :: st) h := am_ev_step (q := (12, l0 :: some (.int a) :: ls, .int a :: st, h)) _ (.iload_n 1) 1 am_my_263 (by decide +kernel) rfl
theorem e263_12 {ls : List (Option Value)} {st : List Value} {h : am_H} : am_ev 263 12 (ls) (st) h = am_ev 263 14 (ls) (.int (9) :: st) h := am_ev_step (q := (14, ls, .int (9) :: st, h)) _ (.bipush (9)) 2 am_my_263 (by decide +kernel) rfl
theorem e263_14 {ls : List (Option Value)} {st : List Value} {h : am_H} {a b : Int32} : am_ev 263 14 ls (.int b :: .int a :: st) h = if b = 0 then none else am_ev 263 15 ls (.int (a - a / b * b) :: st) h := am_u_iz (i := .irem) (f := fun a b => a - a / b * b) am_my_263 (by decide +kernel) (fun _ => rfl)
theorem e263_15 {ls : List (Option Value)} {st : List Value} {h : am_H} : am_ev 263 15 (ls) (st) h = am_ev 263 16 (ls) (.int (1) :: st) h := am_ev_step (q := (16, ls, .int (1) :: st, h)) _ (.iconst (1)) 1 am_my_263 (by decide +kernel) rfl
theorem e263_16 {ls : List (Option Value)} {st : List Value} {h : am_H} {a b : Int32} : am_ev 263 16 (ls) (.int b :: .int a :: st) h = am_ev 263 17 (ls) (.int (a + b) :: st) h := am_ev_step (q := (17, ls, .int (a + b) :: st, h)) _ (.iadd) 1 am_my_263 (by decide +kernel) rfl
theorem e263_17 {ls : List (Option Value)} {st : List Value} {h : am_H} {o : Nat} {v : Int32} (hk : am_kd h o = some (.inl 11)) : am_ev 263 17 ls (.int v :: .ref o :: st) h = am_ev 263 20 ls st (am_sI h o 29 v) := am_u_pfI (idx := 297) (wn := 5161) am_my_263 (by decide +kernel) (by decide +kernel) (by decide +kernel) (by decide +kernel) hk
theorem e263_20 {ls : List (Option Value)} {st : List Value} {h : am_H} {a : Nat} : am_ev 263 20 (some (.ref a) :: ls) (st) h = am_ev 263 21 (some (.ref a) :: ls) (.ref a :: st) h := am_ev_step (q := (21, some (.ref a) :: ls, .ref a :: st, h)) _ (.aload_n 0) 1 am_my_263 (by decide +kernel) rfl
theorem e263_21 {ls : List (Option Value)} {st : List Value} {h : am_H} {o : Nat} (hk : am_kd h o = some (.inl 11)) : am_ev 263 21 ls (.ref o :: st) h = am_ev 263 24 ls (va_rf (h.2.2.1 o 36) :: st) h := am_u_gfR (idx := 51) (wn := 5168) (a := 0) am_my_263 (by decide +kernel) (by decide +kernel) (by decide +kernel) hk
theorem e263_24 {ls : List (Option Value)} {st : List Value} {h : am_H} : am_ev 263 24 (ls) (st) h = am_ev 263 25 (ls) (.int (0) :: st) h := am_ev_step (q := (25, ls, .int (0) :: st, h)) _ (.iconst (0)) 1 am_my_263 (by decide +kernel) rfl
theorem e263_25 {ls : List (Option Value)} {st : List Value} {h : am_H} {l0 l1 : Option Value} {a : Int32} : am_ev 263 25 (l0 :: l1 :: some (.int a) :: ls) (st) h = am_ev 263 26 (l0 :: l1 :: some (.int a) :: ls) (.int a :: st) h := am_ev_step (q := (26, l0 :: l1 :: some (.int a) :: ls, .int a :: st, h)) _ (.iload_n 2) 1 am_my_263 (by decide +kernel) rfl
theorem e263_26 {ls : List (Option Value)} {st : List Value} {h : am_H} {v i : Int32} {a : Nat} (ht : am_tc h a = some 0) : am_ev 263 26 ls (.int v :: .int i :: .ref a :: st) h = if am_ix i (am_len h a) = true then am_ev 263 27 ls st (am_sI h a i.toNatClampNeg v) else none := am_u_wI am_my_263 (by decide +kernel) ht
theorem e263_27 {ls : List (Option Value)} {st : List Value} {h : am_H} {a : Nat} : am_ev 263 27 (some (.ref a) :: ls) (st) h = am_ev 263 28 (some (.ref a) :: ls) (.ref a :: st) h := am_ev_step (q := (28, some (.ref a) :: ls, .ref a :: st, h)) _ (.aload_n 0) 1 am_my_263 (by decide +kernel) rfl
theorem e263_28 {ls : List (Option Value)} {st : List Value} {h : am_H} {l0 l1 l2 : Option Value} {a : Int32} : am_ev 263 28 (l0 :: l1 :: l2 :: some (.int a) :: ls) (st) h = am_ev 263 29 (l0 :: l1 :: l2 :: some (.int a) :: ls) (.int a :: st) h := am_ev_step (q := (29, l0 :: l1 :: l2 :: some (.int a) :: ls, .int a :: st, h)) _ (.iload_n 3) 1 am_my_263 (by decide +kernel) rfl
theorem e263_29 {ls : List (Option Value)} {st : List Value} {h : am_H} {o : Nat} {v : Int32} (hk : am_kd h o = some (.inl 11)) : am_ev 263 29 ls (.int v :: .ref o :: st) h = am_ev 263 32 ls st (am_sI h o 28 v) := am_u_pfI (idx := 294) (wn := 5160) am_my_263 (by decide +kernel) (by decide +kernel) (by decide +kernel) (by decide +kernel) hk
theorem e263_32 {ls : List (Option Value)} {st : List Value} {h : am_H} {a : Nat} : am_ev 263 32 (some (.ref a) :: ls) (st) h = am_ev 263 33 (some (.ref a) :: ls) (.ref a :: st) h := am_ev_step (q := (33, some (.ref a) :: ls, .ref a :: st, h)) _ (.aload_n 0) 1 am_my_263 (by decide +kernel) rfl
theorem e263_33 {ls : List (Option Value)} {st : List Value} {h : am_H} {a : Nat} : am_ev 263 33 (some (.ref a) :: ls) (st) h = am_ev 263 34 (some (.ref a) :: ls) (.ref a :: st) h := am_ev_step (q := (34, some (.ref a) :: ls, .ref a :: st, h)) _ (.aload_n 0) 1 am_my_263 (by decide +kernel) rfl
theorem e263_34 {ls : List (Option Value)} {st : List Value} {h : am_H} : am_ev 263 34 (ls) (st) h = am_ev 263 35 (ls) (.int (0) :: st) h := am_ev_step (q := (35, ls, .int (0) :: st, h)) _ (.iconst (0)) 1 am_my_263 (by decide +kernel) rfl
theorem e263_35 {ls : List (Option Value)} {st : List Value} {h : am_H} {p0 : Int32} {o : Nat} (hw : am_w8 st ≤ 8) (hk : am_kd h o = some (.inl 11)) : am_ev 263 35 ls (.int p0 :: .ref o :: st) h = am_bd (am_den 219 [.ref o, .int p0] h) (fun v h1 => am_ev 263 38 ls (v.toList ++ st) h1) := am_u_cV (idx := 330) (wn := 7062) (as := [.int p0]) am_my_263 (by decide +kernel) (Or.inl (by decide +kernel)) am_my_219 (by decide +kernel) rfl ⟨Nat.le_of_ble_eq_true rfl, rfl⟩ (by decide +kernel) hw hk
theorem e263_38 {ls : List (Option Value)} {st : List Value} {h : am_H} {a : Int32} : am_ev 263 38 ls (.int a :: st) h = if a = 0 then am_ev 263 49 ls st h else am_ev 263 41 ls st h := am_u_if1 (c := .eq) (off := 11) am_my_263 (by decide +kernel) (by decide)
theorem e263_41 {ls : List (Option Value)} {st : List Value} {h : am_H} {a : Nat} : am_ev 263 41 (some (.ref a) :: ls) (st) h = am_ev 263 42 (some (.ref a) :: ls) (.ref a :: st) h := am_ev_step (q := (42, some (.ref a) :: ls, .ref a :: st, h)) _ (.aload_n 0) 1 am_my_263 (by decide +kernel) rfl
theorem e263_42 {ls : List (Option Value)} {st : List Value} {h : am_H} : am_ev 263 42 (ls) (st) h = am_ev 263 43 (ls) (.int (0) :: st) h := am_ev_step (q := (43, ls, .int (0) :: st, h)) _ (.iconst (0)) 1 am_my_263 (by decide +kernel) rfl
theorem e263_43 {ls : List (Option Value)} {st : List Value} {h : am_H} {p0 : Int32} {o : Nat} (hw : am_w8 st ≤ 8) (hk : am_kd h o = some (.inl 11)) : am_ev 263 43 ls (.int p0 :: .ref o :: st) h = am_bd (am_den 223 [.ref o, .int p0] h) (fun v h1 => am_ev 263 46 ls (v.toList ++ st) h1) := am_u_cV (idx := 327) (wn := 7077) (as := [.int p0]) am_my_263 (by decide +kernel) (Or.inl (by decide +kernel)) am_my_223 (by decide +kernel) rfl ⟨Nat.le_of_ble_eq_true rfl, rfl⟩ (by decide +kernel) hw hk
theorem e263_46 {ls : List (Option Value)} {st : List Value} {h : am_H} : am_ev 263 46 (ls) (st) h = am_ev 263 50 (ls) (st) h := am_ev_step (q := (50, ls, st, h)) _ (.goto (4)) 3 am_my_263 (by decide +kernel) rfl
theorem e263_49 {ls : List (Option Value)} {st : List Value} {h : am_H} : am_ev 263 49 (ls) (st) h = am_ev 263 50 (ls) (.int (-1) :: st) h := am_ev_step (q := (50, ls, .int (-1) :: st, h)) _ (.iconst (-1)) 1 am_my_263 (by decide +kernel) rfl
theorem e263_50 {ls : List (Option Value)} {st : List Value} {h : am_H} {o : Nat} {v : Int32} (hk : am_kd h o = some (.inl 11)) : am_ev 263 50 ls (.int v :: .ref o :: st) h = am_ev 263 53 ls st (am_sI h o 52 v) := am_u_pfI (idx := 474) (wn := 5184) am_my_263 (by decide +kernel) (by decide +kernel) (by decide +kernel) (by decide +kernel) hk
theorem e263_53 {ls : List (Option Value)} {st : List Value} {h : am_H} {a : Nat} : am_ev 263 53 (some (.ref a) :: ls) (st) h = am_ev 263 54 (some (.ref a) :: ls) (.ref a :: st) h := am_ev_step (q := (54, some (.ref a) :: ls, .ref a :: st, h)) _ (.aload_n 0) 1 am_my_263 (by decide +kernel) rfl
theorem e263_54 {ls : List (Option Value)} {st : List Value} {h : am_H} : am_ev 263 54 (ls) (st) h = am_ev 263 55 (ls) (.int (-1) :: st) h := am_ev_step (q := (55, ls, .int (-1) :: st, h)) _ (.iconst (-1)) 1 am_my_263 (by decide +kernel) rfl
theorem e263_55 {ls : List (Option Value)} {st : List Value} {h : am_H} {o : Nat} {v : Int32} (hk : am_kd h o = some (.inl 11)) : am_ev 263 55 ls (.int v :: .ref o :: st) h = am_ev 263 58 ls st (am_sI h o 53 v) := am_u_pfI (idx := 477) (wn := 5185) am_my_263 (by decide +kernel) (by decide +kernel) (by decide +kernel) (by decide +kernel) hk
theorem e263_58 {ls : List (Option Value)} {st : List Value} {h : am_H} {a : Nat} : am_ev 263 58 (some (.ref a) :: ls) (st) h = am_ev 263 59 (some (.ref a) :: ls) (.ref a :: st) h := am_ev_step (q := (59, some (.ref a) :: ls, .ref a :: st, h)) _ (.aload_n 0) 1 am_my_263 (by decide +kernel) rfl
theorem e263_59 {ls : List (Option Value)} {st : List Value} {h : am_H} {o : Nat} (hk : am_kd h o = some (.inl 11)) : am_ev 263 59 ls (.ref o :: st) h = am_ev 263 62 ls (.int (h.1 o 52) :: st) h := am_u_gfI (idx := 474) (wn := 5184) am_my_263 (by decide +kernel) (by decide +kernel) (by decide +kernel) hk
theorem e263_62 {ls : List (Option Value)} {st : List Value} {h : am_H} : am_ev 263 62 (ls) (st) h = am_ev 263 63 (ls) (.int (-1) :: st) h := am_ev_step (q := (63, ls, .int (-1) :: st, h)) _ (.iconst (-1)) 1 am_my_263 (by decide +kernel) rfl
theorem e263_63 {ls : List (Option Value)} {st : List Value} {h : am_H} {a b : Int32} : am_ev 263 63 ls (.int b :: .int a :: st) h = if a = b then am_ev 263 146 ls st h else am_ev 263 66 ls st h := am_u_if2 (c := .eq) (off := 83) am_my_263 (by decide +kernel) (by decide)
theorem e263_66 {ls : List (Option Value)} {st : List Value} {h : am_H} {a : Nat} : am_ev 263 66 (some (.ref a) :: ls) (st) h = am_ev 263 67 (some (.ref a) :: ls) (.ref a :: st) h := am_ev_step (q := (67, some (.ref a) :: ls, .ref a :: st, h)) _ (.aload_n 0) 1 am_my_263 (by decide +kernel) rfl
theorem e263_67 {ls : List (Option Value)} {st : List Value} {h : am_H} {o : Nat} (hk : am_kd h o = some (.inl 11)) : am_ev 263 67 ls (.ref o :: st) h = am_ev 263 70 ls (va_rf (h.2.2.1 o 36) :: st) h := am_u_gfR (idx := 51) (wn := 5168) (a := 0) am_my_263 (by decide +kernel) (by decide +kernel) (by decide +kernel) hk
theorem e263_70 {ls : List (Option Value)} {st : List Value} {h : am_H} : am_ev 263 70 (ls) (st) h = am_ev 263 71 (ls) (.int (0) :: st) h := am_ev_step (q := (71, ls, .int (0) :: st, h)) _ (.iconst (0)) 1 am_my_263 (by decide +kernel) rfl
theorem e263_71 {ls : List (Option Value)} {st : List Value} {h : am_H} {a : Nat} : am_ev 263 71 (some (.ref a) :: ls) (st) h = am_ev 263 72 (some (.ref a) :: ls) (.ref a :: st) h := am_ev_step (q := (72, some (.ref a) :: ls, .ref a :: st, h)) _ (.aload_n 0) 1 am_my_263 (by decide +kernel) rfl
theorem e263_72 {ls : List (Option Value)} {st : List Value} {h : am_H} {a : Nat} : am_ev 263 72 (some (.ref a) :: ls) (st) h = am_ev 263 73 (some (.ref a) :: ls) (.ref a :: st) h := am_ev_step (q := (73, some (.ref a) :: ls, .ref a :: st, h)) _ (.aload_n 0) 1 am_my_263 (by decide +kernel) rfl
theorem e263_73 {ls : List (Option Value)} {st : List Value} {h : am_H} {o : Nat} (hk : am_kd h o = some (.inl 11)) : am_ev 263 73 ls (.ref o :: st) h = am_ev 263 76 ls (va_rf (h.2.2.1 o 36) :: st) h := am_u_gfR (idx := 51) (wn := 5168) (a := 0) am_my_263 (by decide +kernel) (by decide +kernel) (by decide +kernel) hk
theorem e263_76 {ls : List (Option Value)} {st : List Value} {h : am_H} : am_ev 263 76 (ls) (st) h = am_ev 263 77 (ls) (.int (0) :: st) h := am_ev_step (q := (77, ls, .int (0) :: st, h)) _ (.iconst (0)) 1 am_my_263 (by decide +kernel) rfl
theorem e263_77 {ls : List (Option Value)} {st : List Value} {h : am_H} {i : Int32} {a : Nat} (ht : am_tc h a = some 0) : am_ev 263 77 ls (.int i :: .ref a :: st) h = if am_ix i (am_len h a) = true then am_ev 263 78 ls (.int (h.1 a i.toNatClampNeg) :: st) h else none := am_u_rI am_my_263 (by decide +kernel) ht
theorem e263_78 {ls : List (Option Value)} {st : List Value} {h : am_H} {a : Nat} : am_ev 263 78 (some (.ref a) :: ls) (st) h = am_ev 263 79 (some (.ref a) :: ls) (.ref a :: st) h := am_ev_step (q := (79, some (.ref a) :: ls, .ref a :: st, h)) _ (.aload_n 0) 1 am_my_263 (by decide +kernel) rfl
theorem e263_79 {ls : List (Option Value)} {st : List Value} {h : am_H} {o : Nat} (hk : am_kd h o = some (.inl 11)) : am_ev 263 79 ls (.ref o :: st) h = am_ev 263 82 ls (.int (h.1 o 52) :: st) h := am_u_gfI (idx := 474) (wn := 5184) am_my_263 (by decide +kernel) (by decide +kernel) (by decide +kernel) hk
theorem e263_82 {ls : List (Option Value)} {st : List Value} {h : am_H} {p0 : Int32} {p1 : Int32} {o : Nat} (hw : am_w8 st ≤ 8) (hk : am_kd h o = some (.inl 11)) : am_ev 263 82 ls (.int p1 :: .int p0 :: .ref o :: st) h = am_bd (am_den 213 [.ref o, .int p0, .int p1] h) (fun v h1 => am_ev 263 85 ls (v.toList ++ st) h1) := am_u_cV (idx := 318) (wn := 7038) (as := [.int p0, .int p1]) am_my_263 (by decide +kernel) (Or.inl (by decide +kernel)) am_my_213 (by decide +kernel) rfl ⟨Nat.le_of_ble_eq_true rfl, rfl⟩ (by decide +kernel) hw hk
theorem e263_85 {ls : List (Option Value)} {st : List Value} {h : am_H} {v i : Int32} {a : Nat} (ht : am_tc h a = some 0) : am_ev 263 85 ls (.int v :: .int i :: .ref a :: st) h = if am_ix i (am_len h a) = true then am_ev 263 86 ls st (am_sI h a i.toNatClampNeg v) else none := am_u_wI am_my_263 (by decide +kernel) ht
theorem e263_86 {ls : List (Option Value)} {st : List Value} {h : am_H} {a : Nat} : am_ev 263 86 (some (.ref a) :: ls) (st) h = am_ev 263 87 (some (.ref a) :: ls) (.ref a :: st) h := am_ev_step (q := (87, some (.ref a) :: ls, .ref a :: st, h)) _ (.aload_n 0) 1 am_my_263 (by decide +kernel) rfl
theorem e263_87 {ls : List (Option Value)} {st : List Value} {h : am_H} {a : Nat} : am_ev 263 87 (some (.ref a) :: ls) (st) h = am_ev 263 88 (some (.ref a) :: ls) (.ref a :: st) h := am_ev_step (q := (88, some (.ref a) :: ls, .ref a :: st, h)) _ (.aload_n 0) 1 am_my_263 (by decide +kernel) rfl
theorem e263_88 {ls : List (Option Value)} {st : List Value} {h : am_H} {o : Nat} (hk : am_kd h o = some (.inl 11)) : am_ev 263 88 ls (.ref o :: st) h = am_ev 263 91 ls (va_rf (h.2.2.1 o 35) :: st) h := am_u_gfR (idx := 48) (wn := 5167) (a := 0) am_my_263 (by decide +kernel) (by decide +kernel) (by decide +kernel) hk
theorem e263_91 {ls : List (Option Value)} {st : List Value} {h : am_H} : am_ev 263 91 (ls) (st) h = am_ev 263 92 (ls) (.int (0) :: st) h := am_ev_step (q := (92, ls, .int (0) :: st, h)) _ (.iconst (0)) 1 am_my_263 (by decide +kernel) rfl
theorem e263_92 {ls : List (Option Value)} {st : List Value} {h : am_H} {i : Int32} {a : Nat} (ht : am_tc h a = some 0) : am_ev 263 92 ls (.int i :: .ref a :: st) h = if am_ix i (am_len h a) = true then am_ev 263 93 ls (.int (h.1 a i.toNatClampNeg) :: st) h else none := am_u_rI am_my_263 (by decide +kernel) ht
theorem e263_93 {ls : List (Option Value)} {st : List Value} {h : am_H} : am_ev 263 93 (ls) (st) h = am_ev 263 94 (ls) (.int (2) :: st) h := am_ev_step (q := (94, ls, .int (2) :: st, h)) _ (.iconst (2)) 1 am_my_263 (by decide +kernel) rfl
theorem e263_94 {ls : List (Option Value)} {st : List Value} {h : am_H} {a b : Int32} : am_ev 263 94 ls (.int b :: .int a :: st) h = if ¬ a = b then am_ev 263 105 ls st h else am_ev 263 97 ls st h := am_u_if2 (c := .ne) (off := 11) am_my_263 (by decide +kernel) (by decide)
theorem e263_97 {ls : List (Option Value)} {st : List Value} {h : am_H} {a : Nat} : am_ev 263 97 (some (.ref a) :: ls) (st) h = am_ev 263 98 (some (.ref a) :: ls) (.ref a :: st) h := am_ev_step (q := (98, some (.ref a) :: ls, .ref a :: st, h)) _ (.aload_n 0) 1 am_my_263 (by decide +kernel) rfl
theorem e263_98 {ls : List (Option Value)} {st : List Value} {h : am_H} : am_ev 263 98 (ls) (st) h = am_ev 263 99 (ls) (.int (0) :: st) h := am_ev_step (q := (99, ls, .int (0) :: st, h)) _ (.iconst (0)) 1 am_my_263 (by decide +kernel) rfl
theorem e263_99 {ls : List (Option Value)} {st : List Value} {h : am_H} {p0 : Int32} {o : Nat} (hw : am_w8 st ≤ 8) (hk : am_kd h o = some (.inl 11)) : am_ev 263 99 ls (.int p0 :: .ref o :: st) h = am_bd (am_den 223 [.ref o, .int p0] h) (fun v h1 => am_ev 263 102 ls (v.toList ++ st) h1) := am_u_cV (idx := 327) (wn := 7077) (as := [.int p0]) am_my_263 (by decide +kernel) (Or.inl (by decide +kernel)) am_my_223 (by decide +kernel) rfl ⟨Nat.le_of_ble_eq_true rfl, rfl⟩ (by decide +kernel) hw hk
theorem e263_102 {ls : List (Option Value)} {st : List Value} {h : am_H} : am_ev 263 102 (ls) (st) h = am_ev 263 106 (ls) (st) h := am_ev_step (q := (106, ls, st, h)) _ (.goto (4)) 3 am_my_263 (by decide +kernel) rfl
theorem e263_105 {ls : List (Option Value)} {st : List Value} {h : am_H} : am_ev 263 105 (ls) (st) h = am_ev 263 106 (ls) (.int (-1) :: st) h := am_ev_step (q := (106, ls, .int (-1) :: st, h)) _ (.iconst (-1)) 1 am_my_263 (by decide +kernel) rfl
theorem e263_106 {ls : List (Option Value)} {st : List Value} {h : am_H} {o : Nat} {v : Int32} (hk : am_kd h o = some (.inl 11)) : am_ev 263 106 ls (.int v :: .ref o :: st) h = am_ev 263 109 ls st (am_sI h o 53 v) := am_u_pfI (idx := 477) (wn := 5185) am_my_263 (by decide +kernel) (by decide +kernel) (by decide +kernel) (by decide +kernel) hk
theorem e263_109 {ls : List (Option Value)} {st : List Value} {h : am_H} {a : Nat} : am_ev 263 109 (some (.ref a) :: ls) (st) h = am_ev 263 110 (some (.ref a) :: ls) (.ref a :: st) h := am_ev_step (q := (110, some (.ref a) :: ls, .ref a :: st, h)) _ (.aload_n 0) 1 am_my_263 (by decide +kernel) rfl
theorem e263_110 {ls : List (Option Value)} {st : List Value} {h : am_H} {o : Nat} (hk : am_kd h o = some (.inl 11)) : am_ev 263 110 ls (.ref o :: st) h = am_ev 263 113 ls (va_rf (h.2.2.1 o 36) :: st) h := am_u_gfR (idx := 51) (wn := 5168) (a := 0) am_my_263 (by decide +kernel) (by decide +kernel) (by decide +kernel) hk
theorem e263_113 {ls : List (Option Value)} {st : List Value} {h : am_H} : am_ev 263 113 (ls) (st) h = am_ev 263 114 (ls) (.int (0) :: st) h := am_ev_step (q := (114, ls, .int (0) :: st, h)) _ (.iconst (0)) 1 am_my_263 (by decide +kernel) rfl
theorem e263_114 {ls : List (Option Value)} {st : List Value} {h : am_H} {a : Nat} : am_ev 263 114 (some (.ref a) :: ls) (st) h = am_ev 263 115 (some (.ref a) :: ls) (.ref a :: st) h := am_ev_step (q := (115, some (.ref a) :: ls, .ref a :: st, h)) _ (.aload_n 0) 1 am_my_263 (by decide +kernel) rfl
theorem e263_115 {ls : List (Option Value)} {st : List Value} {h : am_H} {o : Nat} (hk : am_kd h o = some (.inl 11)) : am_ev 263 115 ls (.ref o :: st) h = am_ev 263 118 ls (.int (h.1 o 53) :: st) h := am_u_gfI (idx := 477) (wn := 5185) am_my_263 (by decide +kernel) (by decide +kernel) (by decide +kernel) hk
theorem e263_118 {ls : List (Option Value)} {st : List Value} {h : am_H} : am_ev 263 118 (ls) (st) h = am_ev 263 119 (ls) (.int (-1) :: st) h := am_ev_step (q := (119, ls, .int (-1) :: st, h)) _ (.iconst (-1)) 1 am_my_263 (by decide +kernel) rfl
theorem e263_119 {ls : List (Option Value)} {st : List Value} {h : am_H} {a b : Int32} : am_ev 263 119 ls (.int b :: .int a :: st) h = if ¬ a = b then am_ev 263 131 ls st h else am_ev 263 122 ls st h := am_u_if2 (c := .ne) (off := 12) am_my_263 (by decide +kernel) (by decide)
theorem e263_122 {ls : List (Option Value)} {st : List Value} {h : am_H} {a : Nat} : am_ev 263 122 (some (.ref a) :: ls) (st) h = am_ev 263 123 (some (.ref a) :: ls) (.ref a :: st) h := am_ev_step (q := (123, some (.ref a) :: ls, .ref a :: st, h)) _ (.aload_n 0) 1 am_my_263 (by decide +kernel) rfl
theorem e263_123 {ls : List (Option Value)} {st : List Value} {h : am_H} {o : Nat} (hk : am_kd h o = some (.inl 11)) : am_ev 263 123 ls (.ref o :: st) h = am_ev 263 126 ls (va_rf (h.2.2.1 o 36) :: st) h := am_u_gfR (idx := 51) (wn := 5168) (a := 0) am_my_263 (by decide +kernel) (by decide +kernel) (by decide +kernel) hk
theorem e263_126 {ls : List (Option Value)} {st : List Value} {h : am_H} : am_ev 263 126 (ls) (st) h = am_ev 263 127 (ls) (.int (0) :: st) h := am_ev_step (q := (127, ls, .int (0) :: st, h)) _ (.iconst (0)) 1 am_my_263 (by decide +kernel) rfl
theorem e263_127 {ls : List (Option Value)} {st : List Value} {h : am_H} {i : Int32} {a : Nat} (ht : am_tc h a = some 0) : am_ev 263 127 ls (.int i :: .ref a :: st) h = if am_ix i (am_len h a) = true then am_ev 263 128 ls (.int (h.1 a i.toNatClampNeg) :: st) h else none := am_u_rI am_my_263 (by decide +kernel) ht
theorem e263_128 {ls : List (Option Value)} {st : List Value} {h : am_H} : am_ev 263 128 (ls) (st) h = am_ev 263 145 (ls) (st) h := am_ev_step (q := (145, ls, st, h)) _ (.goto (17)) 3 am_my_263 (by decide +kernel) rfl
theorem e263_131 {ls : List (Option Value)} {st : List Value} {h : am_H} {a : Nat} : am_ev 263 131 (some (.ref a) :: ls) (st) h = am_ev 263 132 (some (.ref a) :: ls) (.ref a :: st) h := am_ev_step (q := (132, some (.ref a) :: ls, .ref a :: st, h)) _ (.aload_n 0) 1 am_my_263 (by decide +kernel) rfl
theorem e263_132 {ls : List (Option Value)} {st : List Value} {h : am_H} {a : Nat} : am_ev 263 132 (some (.ref a) :: ls) (st) h = am_ev 263 133 (some (.ref a) :: ls) (.ref a :: st) h := am_ev_step (q := (133, some (.ref a) :: ls, .ref a :: st, h)) _ (.aload_n 0) 1 am_my_263 (by decide +kernel) rfl
theorem e263_133 {ls : List (Option Value)} {st : List Value} {h : am_H} {o : Nat} (hk : am_kd h o = some (.inl 11)) : am_ev 263 133 ls (.ref o :: st) h = am_ev 263 136 ls (va_rf (h.2.2.1 o 36) :: st) h := am_u_gfR (idx := 51) (wn := 5168) (a := 0) am_my_263 (by decide +kernel) (by decide +kernel) (by decide +kernel) hk
theorem e263_136 {ls : List (Option Value)} {st : List Value} {h : am_H} : am_ev 263 136 (ls) (st) h = am_ev 263 137 (ls) (.int (0) :: st) h := am_ev_step (q := (137, ls, .int (0) :: st, h)) _ (.iconst (0)) 1 am_my_263 (by decide +kernel) rfl
theorem e263_137 {ls : List (Option Value)} {st : List Value} {h : am_H} {i : Int32} {a : Nat} (ht : am_tc h a = some 0) : am_ev 263 137 ls (.int i :: .ref a :: st) h = if am_ix i (am_len h a) = true then am_ev 263 138 ls (.int (h.1 a i.toNatClampNeg) :: st) h else none := am_u_rI am_my_263 (by decide +kernel) ht
theorem e263_138 {ls : List (Option Value)} {st : List Value} {h : am_H} {a : Nat} : am_ev 263 138 (some (.ref a) :: ls) (st) h = am_ev 263 139 (some (.ref a) :: ls) (.ref a :: st) h := am_ev_step (q := (139, some (.ref a) :: ls, .ref a :: st, h)) _ (.aload_n 0) 1 am_my_263 (by decide +kernel) rfl
theorem e263_139 {ls : List (Option Value)} {st : List Value} {h : am_H} {o : Nat} (hk : am_kd h o = some (.inl 11)) : am_ev 263 139 ls (.ref o :: st) h = am_ev 263 142 ls (.int (h.1 o 53) :: st) h := am_u_gfI (idx := 477) (wn := 5185) am_my_263 (by decide +kernel) (by decide +kernel) (by decide +kernel) hk
theorem e263_142 {ls : List (Option Value)} {st : List Value} {h : am_H} {p0 : Int32} {p1 : Int32} {o : Nat} (hw : am_w8 st ≤ 8) (hk : am_kd h o = some (.inl 11)) : am_ev 263 142 ls (.int p1 :: .int p0 :: .ref o :: st) h = am_bd (am_den 213 [.ref o, .int p0, .int p1] h) (fun v h1 => am_ev 263 145 ls (v.toList ++ st) h1) := am_u_cV (idx := 318) (wn := 7038) (as := [.int p0, .int p1]) am_my_263 (by decide +kernel) (Or.inl (by decide +kernel)) am_my_213 (by decide +kernel) rfl ⟨Nat.le_of_ble_eq_true rfl, rfl⟩ (by decide +kernel) hw hk
theorem e263_145 {ls : List (Option Value)} {st : List Value} {h : am_H} {v i : Int32} {a : Nat} (ht : am_tc h a = some 0) : am_ev 263 145 ls (.int v :: .int i :: .ref a :: st) h = if am_ix i (am_len h a) = true then am_ev 263 146 ls st (am_sI h a i.toNatClampNeg v) else none := am_u_wI am_my_263 (by decide +kernel) ht
theorem e263_146 {ls : List (Option Value)} {st : List Value} {h : am_H} {a : Nat} : am_ev 263 146 (some (.ref a) :: ls) (st) h = am_ev 263 147 (some (.ref a) :: ls) (.ref a :: st) h := am_ev_step (q := (147, some (.ref a) :: ls, .ref a :: st, h)) _ (.aload_n 0) 1 am_my_263 (by decide +kernel) rfl
theorem e263_147 {ls : List (Option Value)} {st : List Value} {h : am_H} {o : Nat} (hk : am_kd h o = some (.inl 11)) : am_ev 263 147 ls (.ref o :: st) h = am_ev 263 150 ls (va_rf (h.2.2.1 o 36) :: st) h := am_u_gfR (idx := 51) (wn := 5168) (a := 0) am_my_263 (by decide +kernel) (by decide +kernel) (by decide +kernel) hk
theorem e263_150 {ls : List (Option Value)} {st : List Value} {h : am_H} : am_ev 263 150 (ls) (st) h = am_ev 263 151 (ls) (.int (0) :: st) h := am_ev_step (q := (151, ls, .int (0) :: st, h)) _ (.iconst (0)) 1 am_my_263 (by decide +kernel) rfl
theorem e263_151 {ls : List (Option Value)} {st : List Value} {h : am_H} {i : Int32} {a : Nat} (ht : am_tc h a = some 0) : am_ev 263 151 ls (.int i :: .ref a :: st) h = if am_ix i (am_len h a) = true then am_ev 263 152 ls (.int (h.1 a i.toNatClampNeg) :: st) h else none := am_u_rI am_my_263 (by decide +kernel) ht
theorem e263_152 {ls : List (Option Value)} {h : am_H} {v : Int32} : am_ev 263 152 ls [.int v] h = some (some (.int v), h) := am_u_rtI am_my_263 (by decide +kernel) rfl
theorem e262_0 {ls : List (Option Value)} {st : List Value} {h : am_H} : am_ev 262 0 (ls) (st) h = am_ev 262 1 (ls) (.int (0) :: st) h := am_ev_step (q := (1, ls, .int (0) :: st, h)) _ (.iconst (0)) 1 am_my_262 (by decide +kernel) rfl
theorem e262_1 {ls : List (Option Value)} {st : List Value} {h : am_H} {l0 l1 : Option Value} {z : Option Value} {a : Int32} : am_ev 262 1 (l0 :: l1 :: z :: ls) (.int a :: st) h = am_ev 262 2 (l0 :: l1 :: some (.int a) :: ls) (st) h := am_ev_step (q := (2, l0 :: l1 :: some (.int a) :: ls, st, h)) _ (.istore_n 2) 1 am_my_262 (by decide +kernel) rfl
theorem e262_2 {ls : List (Option Value)} {st : List Value} {h : am_H} {l0 l1 : Option Value} {a : Int32} : am_ev 262 2 (l0 :: l1 :: some (.int a) :: ls) (st) h = am_ev 262 3 (l0 :: l1 :: some (.int a) :: ls) (.int a :: st) h := am_ev_step (q := (3, l0 :: l1 :: some (.int a) :: ls, .int a :: st, h)) _ (.iload_n 2) 1 am_my_262 (by decide +kernel) rfl
theorem e262_3 {ls : List (Option Value)} {st : List Value} {h : am_H} {a : Nat} : am_ev 262 3 (some (.ref a) :: ls) (st) h = am_ev 262 4 (some (.ref a) :: ls) (.ref a :: st) h := am_ev_step (q := (4, some (.ref a) :: ls, .ref a :: st, h)) _ (.aload_n 0) 1 am_my_262 (by decide +kernel) rfl
theorem e262_4 {ls : List (Option Value)} {st : List Value} {h : am_H}  {o : Nat} (hw : am_w8 st ≤ 8) (hk : am_kd h o = some (.inl 11)) : am_ev 262 4 ls (.ref o :: st) h = am_bd (am_den 258 [.ref o] h) (fun v h1 => am_ev 262 7 ls (v.toList ++ st) h1) := am_u_cV (idx := 468) (wn := 7217) (as := []) am_my_262 (by decide +kernel) (Or.inl (by decide +kernel)) am_my_258 (by decide +kernel) rfl ⟨Nat.le_of_ble_eq_true rfl, rfl⟩ (by decide +kernel) hw hk
theorem e262_7 {ls : List (Option Value)} {st : List Value} {h : am_H} {a b : Int32} : am_ev 262 7 ls (.int b :: .int a :: st) h = if b ≤ a then am_ev 262 98 ls st h else am_ev 262 10 ls st h := am_u_if2 (c := .ge) (off := 91) am_my_262 (by decide +kernel) (by decide)
theorem e262_10 {ls : List (Option Value)} {st : List Value} {h : am_H} {a : Nat} : am_ev 262 10 (some (.ref a) :: ls) (st) h = am_ev 262 11 (some (.ref a) :: ls) (.ref a :: st) h := am_ev_step (q := (11, some (.ref a) :: ls, .ref a :: st, h)) _ (.aload_n 0) 1 am_my_262 (by decide +kernel) rfl
theorem e262_11 {ls : List (Option Value)} {st : List Value} {h : am_H} {l0 : Option Value} {a : Int32} : am_ev 262 11 (l0 :: some (.int a) :: ls) (st) h = am_ev 262 12 (l0 :: some (.int a) :: ls) (.int a :: st) h := am_ev_step (q := (12, l0 :: some (.int a) :: ls, .int a :: st, h)) _ (.iload_n 1) 1 am_my_262 (by decide +kernel) rfl
theorem e262_12 {ls : List (Option Value)} {st : List Value} {h : am_H} : am_ev 262 12 (ls) (st) h = am_ev 262 14 (ls) (.int (8) :: st) h := am_ev_step (q := (14, ls, .int (8) :: st, h)) _ (.bipush (8)) 2 am_my_262 (by decide +kernel) rfl
theorem e262_14 {ls : List (Option Value)} {st : List Value} {h : am_H} {a : Nat} : am_ev 262 14 (some (.ref a) :: ls) (st) h = am_ev 262 15 (some (.ref a) :: ls) (.ref a :: st) h := am_ev_step (q := (15, some (.ref a) :: ls, .ref a :: st, h)) _ (.aload_n 0) 1 am_my_262 (by decide +kernel) rfl
theorem e262_15 {ls : List (Option Value)} {st : List Value} {h : am_H} {l0 l1 : Option Value} {a : Int32} : am_ev 262 15 (l0 :: l1 :: some (.int a) :: ls) (st) h = am_ev 262 16 (l0 :: l1 :: some (.int a) :: ls) (.int a :: st) h := am_ev_step (q := (16, l0 :: l1 :: some (.int a) :: ls, .int a :: st, h)) _ (.iload_n 2) 1 am_my_262 (by decide +kernel) rfl
theorem e262_16 {ls : List (Option Value)} {st : List Value} {h : am_H} : am_ev 262 16 (ls) (st) h = am_ev 262 17 (ls) (.int (2) :: st) h := am_ev_step (q := (17, ls, .int (2) :: st, h)) _ (.iconst (2)) 1 am_my_262 (by decide +kernel) rfl
theorem e262_17 {ls : List (Option Value)} {st : List Value} {h : am_H} {p0 : Int32} {p1 : Int32} {o : Nat} (hw : am_w8 st ≤ 8) (hk : am_kd h o = some (.inl 11)) : am_ev 262 17 ls (.int p1 :: .int p0 :: .ref o :: st) h = am_bd (am_den 259 [.ref o, .int p0, .int p1] h) (fun v h1 => am_ev 262 20 ls (v.toList ++ st) h1) := am_u_cV (idx := 471) (wn := 7221) (as := [.int p0, .int p1]) am_my_262 (by decide +kernel) (Or.inl (by decide +kernel)) am_my_259 (by decide +kernel) rfl ⟨Nat.le_of_ble_eq_true rfl, rfl⟩ (by decide +kernel) hw hk
theorem e262_20 {ls : List (Option Value)} {st : List Value} {h : am_H} {a b : Int32} : am_ev 262 20 (ls) (.int b :: .int a :: st) h = am_ev 262 21 (ls) (.int (a * b) :: st) h := am_ev_step (q := (21, ls, .int (a * b) :: st, h)) _ (.imul) 1 am_my_262 (by decide +kernel) rfl
theorem e262_21 {ls : List (Option Value)} {st : List Value} {h : am_H} {a : Nat} : am_ev 262 21 (some (.ref a) :: ls) (st) h = am_ev 262 22 (some (.ref a) :: ls) (.ref a :: st) h := am_ev_step (q := (22, some (.ref a) :: ls, .ref a :: st, h)) _ (.aload_n 0) 1 am_my_262 (by decide +kernel) rfl
theorem e262_22 {ls : List (Option Value)} {st : List Value} {h : am_H} {l0 l1 : Option Value} {a : Int32} : am_ev 262 22 (l0 :: l1 :: some (.int a) :: ls) (st) h = am_ev 262 23 (l0 :: l1 :: some (.int a) :: ls) (.int a :: st) h := am_ev_step (q := (23, l0 :: l1 :: some (.int a) :: ls, .int a :: st, h)) _ (.iload_n 2) 1 am_my_262 (by decide +kernel) rfl
theorem e262_23 {ls : List (Option Value)} {st : List Value} {h : am_H} : am_ev 262 23 (ls) (st) h = am_ev 262 24 (ls) (.int (1) :: st) h := am_ev_step (q := (24, ls, .int (1) :: st, h)) _ (.iconst (1)) 1 am_my_262 (by decide +kernel) rfl
theorem e262_24 {ls : List (Option Value)} {st : List Value} {h : am_H} {p0 : Int32} {p1 : Int32} {o : Nat} (hw : am_w8 st ≤ 8) (hk : am_kd h o = some (.inl 11)) : am_ev 262 24 ls (.int p1 :: .int p0 :: .ref o :: st) h = am_bd (am_den 259 [.ref o, .int p0, .int p1] h) (fun v h1 => am_ev 262 27 ls (v.toList ++ st) h1) := am_u_cV (idx := 471) (wn := 7221) (as := [.int p0, .int p1]) am_my_262 (by decide +kernel) (Or.inl (by decide +kernel)) am_my_259 (by decide +kernel) rfl ⟨Nat.le_of_ble_eq_true rfl, rfl⟩ (by decide +kernel) hw hk
theorem e262_27 {ls : List (Option Value)} {st : List Value} {h : am_H} {a b : Int32} : am_ev 262 27 (ls) (.int b :: .int a :: st) h = am_ev 262 28 (ls) (.int (a + b) :: st) h := am_ev_step (q := (28, ls, .int (a + b) :: st, h)) _ (.iadd) 1 am_my_262 (by decide +kernel) rfl
theorem e262_28 {ls : List (Option Value)} {st : List Value} {h : am_H} : am_ev 262 28 (ls) (st) h = am_ev 262 30 (ls) (.int (8) :: st) h := am_ev_step (q := (30, ls, .int (8) :: st, h)) _ (.bipush (8)) 2 am_my_262 (by decide +kernel) rfl
theorem e262_30 {ls : List (Option Value)} {st : List Value} {h : am_H} {a : Nat} : am_ev 262 30 (some (.ref a) :: ls) (st) h = am_ev 262 31 (some (.ref a) :: ls) (.ref a :: st) h := am_ev_step (q := (31, some (.ref a) :: ls, .ref a :: st, h)) _ (.aload_n 0) 1 am_my_262 (by decide +kernel) rfl
theorem e262_31 {ls : List (Option Value)} {st : List Value} {h : am_H} {l0 l1 : Option Value} {a : Int32} : am_ev 262 31 (l0 :: l1 :: some (.int a) :: ls) (st) h = am_ev 262 32 (l0 :: l1 :: some (.int a) :: ls) (.int a :: st) h := am_ev_step (q := (32, l0 :: l1 :: some (.int a) :: ls, .int a :: st, h)) _ (.iload_n 2) 1 am_my_262 (by decide +kernel) rfl
theorem e262_32 {ls : List (Option Value)} {st : List Value} {h : am_H} : am_ev 262 32 (ls) (st) h = am_ev 262 33 (ls) (.int (4) :: st) h := am_ev_step (q := (33, ls, .int (4) :: st, h)) _ (.iconst (4)) 1 am_my_262 (by decide +kernel) rfl
theorem e262_33 {ls : List (Option Value)} {st : List Value} {h : am_H} {p0 : Int32} {p1 : Int32} {o : Nat} (hw : am_w8 st ≤ 8) (hk : am_kd h o = some (.inl 11)) : am_ev 262 33 ls (.int p1 :: .int p0 :: .ref o :: st) h = am_bd (am_den 259 [.ref o, .int p0, .int p1] h) (fun v h1 => am_ev 262 36 ls (v.toList ++ st) h1) := am_u_cV (idx := 471) (wn := 7221) (as := [.int p0, .int p1]) am_my_262 (by decide +kernel) (Or.inl (by decide +kernel)) am_my_259 (by decide +kernel) rfl ⟨Nat.le_of_ble_eq_true rfl, rfl⟩ (by decide +kernel) hw hk
theorem e262_36 {ls : List (Option Value)} {st : List Value} {h : am_H} {a b : Int32} : am_ev 262 36 (ls) (.int b :: .int a :: st) h = am_ev 262 37 (ls) (.int (a * b) :: st) h := am_ev_step (q := (37, ls, .int (a * b) :: st, h)) _ (.imul) 1 am_my_262 (by decide +kernel) rfl
theorem e262_37 {ls : List (Option Value)} {st : List Value} {h : am_H} {a : Nat} : am_ev 262 37 (some (.ref a) :: ls) (st) h = am_ev 262 38 (some (.ref a) :: ls) (.ref a :: st) h := am_ev_step (q := (38, some (.ref a) :: ls, .ref a :: st, h)) _ (.aload_n 0) 1 am_my_262 (by decide +kernel) rfl
theorem e262_38 {ls : List (Option Value)} {st : List Value} {h : am_H} {l0 l1 : Option Value} {a : Int32} : am_ev 262 38 (l0 :: l1 :: some (.int a) :: ls) (st) h = am_ev 262 39 (l0 :: l1 :: some (.int a) :: ls) (.int a :: st) h := am_ev_step (q := (39, l0 :: l1 :: some (.int a) :: ls, .int a :: st, h)) _ (.iload_n 2) 1 am_my_262 (by decide +kernel) rfl
theorem e262_39 {ls : List (Option Value)} {st : List Value} {h : am_H} : am_ev 262 39 (ls) (st) h = am_ev 262 40 (ls) (.int (3) :: st) h := am_ev_step (q := (40, ls, .int (3) :: st, h)) _ (.iconst (3)) 1 am_my_262 (by decide +kernel) rfl
theorem e262_40 {ls : List (Option Value)} {st : List Value} {h : am_H} {p0 : Int32} {p1 : Int32} {o : Nat} (hw : am_w8 st ≤ 8) (hk : am_kd h o = some (.inl 11)) : am_ev 262 40 ls (.int p1 :: .int p0 :: .ref o :: st) h = am_bd (am_den 259 [.ref o, .int p0, .int p1] h) (fun v h1 => am_ev 262 43 ls (v.toList ++ st) h1) := am_u_cV (idx := 471) (wn := 7221) (as := [.int p0, .int p1]) am_my_262 (by decide +kernel) (Or.inl (by decide +kernel)) am_my_259 (by decide +kernel) rfl ⟨Nat.le_of_ble_eq_true rfl, rfl⟩ (by decide +kernel) hw hk
theorem e262_43 {ls : List (Option Value)} {st : List Value} {h : am_H} {a b : Int32} : am_ev 262 43 (ls) (.int b :: .int a :: st) h = am_ev 262 44 (ls) (.int (a + b) :: st) h := am_ev_step (q := (44, ls, .int (a + b) :: st, h)) _ (.iadd) 1 am_my_262 (by decide +kernel) rfl
theorem e262_44 {ls : List (Option Value)} {st : List Value} {h : am_H} {p0 : Int32} {p1 : Int32} {p2 : Int32} {o : Nat} (hw : am_w8 st ≤ 8) (hk : am_kd h o = some (.inl 11)) : am_ev 262 44 ls (.int p2 :: .int p1 :: .int p0 :: .ref o :: st) h = am_bd (am_den 263 [.ref o, .int p0, .int p1, .int p2] h) (fun v h1 => am_ev 262 47 ls (v.toList ++ st) h1) := am_u_cV (idx := 480) (wn := 7237) (as := [.int p0, .int p1, .int p2]) am_my_262 (by decide +kernel) (Or.inl (by decide +kernel)) am_my_263 (by decide +kernel) rfl ⟨Nat.le_of_ble_eq_true rfl, rfl⟩ (by decide +kernel) hw hk
theorem e262_47 {ls : List (Option Value)} {st : List Value} {h : am_H} {a : Int32} : am_ev 262 47 (ls) (.int a :: st) h = am_ev 262 48 (ls) (st) h := am_ev_step (q := (48, ls, st, h)) _ (.pop) 1 am_my_262 (by decide +kernel) rfl
theorem e262_48 {ls : List (Option Value)} {st : List Value} {h : am_H} {a : Nat} : am_ev 262 48 (some (.ref a) :: ls) (st) h = am_ev 262 49 (some (.ref a) :: ls) (.ref a :: st) h := am_ev_step (q := (49, some (.ref a) :: ls, .ref a :: st, h)) _ (.aload_n 0) 1 am_my_262 (by decide +kernel) rfl
theorem e262_49 {ls : List (Option Value)} {st : List Value} {h : am_H} {l0 l1 : Option Value} {a : Int32} : am_ev 262 49 (l0 :: l1 :: some (.int a) :: ls) (st) h = am_ev 262 50 (l0 :: l1 :: some (.int a) :: ls) (.int a :: st) h := am_ev_step (q := (50, l0 :: l1 :: some (.int a) :: ls, .int a :: st, h)) _ (.iload_n 2) 1 am_my_262 (by decide +kernel) rfl
theorem e262_50 {ls : List (Option Value)} {st : List Value} {h : am_H} : am_ev 262 50 (ls) (st) h = am_ev 262 51 (ls) (.int (0) :: st) h := am_ev_step (q := (51, ls, .int (0) :: st, h)) _ (.iconst (0)) 1 am_my_262 (by decide +kernel) rfl
theorem e262_51 {ls : List (Option Value)} {st : List Value} {h : am_H} {p0 : Int32} {p1 : Int32} {o : Nat} (hw : am_w8 st ≤ 8) (hk : am_kd h o = some (.inl 11)) : am_ev 262 51 ls (.int p1 :: .int p0 :: .ref o :: st) h = am_bd (am_den 259 [.ref o, .int p0, .int p1] h) (fun v h1 => am_ev 262 54 ls (v.toList ++ st) h1) := am_u_cV (idx := 471) (wn := 7221) (as := [.int p0, .int p1]) am_my_262 (by decide +kernel) (Or.inl (by decide +kernel)) am_my_259 (by decide +kernel) rfl ⟨Nat.le_of_ble_eq_true rfl, rfl⟩ (by decide +kernel) hw hk
theorem e262_54 {ls : List (Option Value)} {st : List Value} {h : am_H} {l0 l1 l2 : Option Value} {z : Option Value} {a : Int32} : am_ev 262 54 (l0 :: l1 :: l2 :: z :: ls) (.int a :: st) h = am_ev 262 55 (l0 :: l1 :: l2 :: some (.int a) :: ls) (st) h := am_ev_step (q := (55, l0 :: l1 :: l2 :: some (.int a) :: ls, st, h)) _ (.istore_n 3) 1 am_my_262 (by decide +kernel) rfl
theorem e262_55 {ls : List (Option Value)} {st : List Value} {h : am_H} {a : Nat} : am_ev 262 55 (some (.ref a) :: ls) (st) h = am_ev 262 56 (some (.ref a) :: ls) (.ref a :: st) h := am_ev_step (q := (56, some (.ref a) :: ls, .ref a :: st, h)) _ (.aload_n 0) 1 am_my_262 (by decide +kernel) rfl
theorem e262_56 {ls : List (Option Value)} {st : List Value} {h : am_H} {o : Nat} (hk : am_kd h o = some (.inl 11)) : am_ev 262 56 ls (.ref o :: st) h = am_ev 262 59 ls (.int (h.1 o 52) :: st) h := am_u_gfI (idx := 474) (wn := 5184) am_my_262 (by decide +kernel) (by decide +kernel) (by decide +kernel) hk
theorem e262_59 {ls : List (Option Value)} {st : List Value} {h : am_H} {a : Nat} : am_ev 262 59 (some (.ref a) :: ls) (st) h = am_ev 262 60 (some (.ref a) :: ls) (.ref a :: st) h := am_ev_step (q := (60, some (.ref a) :: ls, .ref a :: st, h)) _ (.aload_n 0) 1 am_my_262 (by decide +kernel) rfl
theorem e262_60 {ls : List (Option Value)} {st : List Value} {h : am_H} {l0 l1 : Option Value} {a : Int32} : am_ev 262 60 (l0 :: l1 :: some (.int a) :: ls) (st) h = am_ev 262 61 (l0 :: l1 :: some (.int a) :: ls) (.int a :: st) h := am_ev_step (q := (61, l0 :: l1 :: some (.int a) :: ls, .int a :: st, h)) _ (.iload_n 2) 1 am_my_262 (by decide +kernel) rfl
theorem e262_61 {ls : List (Option Value)} {st : List Value} {h : am_H} : am_ev 262 61 (ls) (st) h = am_ev 262 62 (ls) (.int (5) :: st) h := am_ev_step (q := (62, ls, .int (5) :: st, h)) _ (.iconst (5)) 1 am_my_262 (by decide +kernel) rfl
theorem e262_62 {ls : List (Option Value)} {st : List Value} {h : am_H} {p0 : Int32} {p1 : Int32} {o : Nat} (hw : am_w8 st ≤ 8) (hk : am_kd h o = some (.inl 11)) : am_ev 262 62 ls (.int p1 :: .int p0 :: .ref o :: st) h = am_bd (am_den 259 [.ref o, .int p0, .int p1] h) (fun v h1 => am_ev 262 65 ls (v.toList ++ st) h1) := am_u_cV (idx := 471) (wn := 7221) (as := [.int p0, .int p1]) am_my_262 (by decide +kernel) (Or.inl (by decide +kernel)) am_my_259 (by decide +kernel) rfl ⟨Nat.le_of_ble_eq_true rfl, rfl⟩ (by decide +kernel) hw hk
theorem e262_65 {ls : List (Option Value)} {st : List Value} {h : am_H} {a b : Int32} : am_ev 262 65 ls (.int b :: .int a :: st) h = if ¬ a = b then am_ev 262 90 ls st h else am_ev 262 68 ls st h := am_u_if2 (c := .ne) (off := 25) am_my_262 (by decide +kernel) (by decide)
theorem e262_68 {ls : List (Option Value)} {st : List Value} {h : am_H} {a : Nat} : am_ev 262 68 (some (.ref a) :: ls) (st) h = am_ev 262 69 (some (.ref a) :: ls) (.ref a :: st) h := am_ev_step (q := (69, some (.ref a) :: ls, .ref a :: st, h)) _ (.aload_n 0) 1 am_my_262 (by decide +kernel) rfl
theorem e262_69 {ls : List (Option Value)} {st : List Value} {h : am_H} {o : Nat} (hk : am_kd h o = some (.inl 11)) : am_ev 262 69 ls (.ref o :: st) h = am_ev 262 72 ls (.int (h.1 o 53) :: st) h := am_u_gfI (idx := 477) (wn := 5185) am_my_262 (by decide +kernel) (by decide +kernel) (by decide +kernel) hk
theorem e262_72 {ls : List (Option Value)} {st : List Value} {h : am_H} {l0 l1 l2 : Option Value} {a : Int32} : am_ev 262 72 (l0 :: l1 :: l2 :: some (.int a) :: ls) (st) h = am_ev 262 73 (l0 :: l1 :: l2 :: some (.int a) :: ls) (.int a :: st) h := am_ev_step (q := (73, l0 :: l1 :: l2 :: some (.int a) :: ls, .int a :: st, h)) _ (.iload_n 3) 1 am_my_262 (by decide +kernel) rfl
theorem e262_73 {ls : List (Option Value)} {st : List Value} {h : am_H} : am_ev 262 73 (ls) (st) h = am_ev 262 74 (ls) (.int (1) :: st) h := am_ev_step (q := (74, ls, .int (1) :: st, h)) _ (.iconst (1)) 1 am_my_262 (by decide +kernel) rfl
theorem e262_74 {ls : List (Option Value)} {st : List Value} {h : am_H} {a b : Int32} : am_ev 262 74 ls (.int b :: .int a :: st) h = if ¬ a = b then am_ev 262 86 ls st h else am_ev 262 77 ls st h := am_u_if2 (c := .ne) (off := 12) am_my_262 (by decide +kernel) (by decide)
theorem e262_77 {ls : List (Option Value)} {st : List Value} {h : am_H} {a : Nat} : am_ev 262 77 (some (.ref a) :: ls) (st) h = am_ev 262 78 (some (.ref a) :: ls) (.ref a :: st) h := am_ev_step (q := (78, some (.ref a) :: ls, .ref a :: st, h)) _ (.aload_n 0) 1 am_my_262 (by decide +kernel) rfl
theorem e262_78 {ls : List (Option Value)} {st : List Value} {h : am_H} {l0 l1 : Option Value} {a : Int32} : am_ev 262 78 (l0 :: l1 :: some (.int a) :: ls) (st) h = am_ev 262 79 (l0 :: l1 :: some (.int a) :: ls) (.int a :: st) h := am_ev_step (q := (79, l0 :: l1 :: some (.int a) :: ls, .int a :: st, h)) _ (.iload_n 2) 1 am_my_262 (by decide +kernel) rfl
theorem e262_79 {ls : List (Option Value)} {st : List Value} {h : am_H} : am_ev 262 79 (ls) (st) h = am_ev 262 80 (ls) (.int (5) :: st) h := am_ev_step (q := (80, ls, .int (5) :: st, h)) _ (.iconst (5)) 1 am_my_262 (by decide +kernel) rfl
theorem e262_80 {ls : List (Option Value)} {st : List Value} {h : am_H} {p0 : Int32} {p1 : Int32} {o : Nat} (hw : am_w8 st ≤ 8) (hk : am_kd h o = some (.inl 11)) : am_ev 262 80 ls (.int p1 :: .int p0 :: .ref o :: st) h = am_bd (am_den 259 [.ref o, .int p0, .int p1] h) (fun v h1 => am_ev 262 83 ls (v.toList ++ st) h1) := am_u_cV (idx := 471) (wn := 7221) (as := [.int p0, .int p1]) am_my_262 (by decide +kernel) (Or.inl (by decide +kernel)) am_my_259 (by decide +kernel) rfl ⟨Nat.le_of_ble_eq_true rfl, rfl⟩ (by decide +kernel) hw hk
theorem e262_83 {ls : List (Option Value)} {st : List Value} {h : am_H} : am_ev 262 83 (ls) (st) h = am_ev 262 87 (ls) (st) h := am_ev_step (q := (87, ls, st, h)) _ (.goto (4)) 3 am_my_262 (by decide +kernel) rfl
theorem e262_86 {ls : List (Option Value)} {st : List Value} {h : am_H} : am_ev 262 86 (ls) (st) h = am_ev 262 87 (ls) (.int (-1) :: st) h := am_ev_step (q := (87, ls, .int (-1) :: st, h)) _ (.iconst (-1)) 1 am_my_262 (by decide +kernel) rfl
theorem e262_87 {ls : List (Option Value)} {st : List Value} {h : am_H} {a b : Int32} : am_ev 262 87 ls (.int b :: .int a :: st) h = if a = b then am_ev 262 92 ls st h else am_ev 262 90 ls st h := am_u_if2 (c := .eq) (off := 5) am_my_262 (by decide +kernel) (by decide)
theorem e262_90 {ls : List (Option Value)} {st : List Value} {h : am_H} : am_ev 262 90 (ls) (st) h = am_ev 262 91 (ls) (.int (0) :: st) h := am_ev_step (q := (91, ls, .int (0) :: st, h)) _ (.iconst (0)) 1 am_my_262 (by decide +kernel) rfl
theorem e262_91 {ls : List (Option Value)} {h : am_H} {v : Int32} (hv : v = 0 ∨ v = 1) : am_ev 262 91 ls [.int v] h = some (some (.int v), h) := am_u_rtZ am_my_262 (by decide +kernel) rfl hv
theorem e262_92 {ls : List (Option Value)} {st : List Value} {h : am_H} {l0 l1 : Option Value} {a : Int32} : am_ev 262 92 (l0 :: l1 :: some (.int a) :: ls) (st) h = am_ev 262 95 (l0 :: l1 :: some (.int (a + (1))) :: ls) (st) h := am_ev_step (q := (95, l0 :: l1 :: some (.int (a + (1))) :: ls, st, h)) _ (.iinc 2 (1)) 3 am_my_262 (by decide +kernel) rfl
theorem e262_95 {ls : List (Option Value)} {st : List Value} {h : am_H} : am_ev 262 95 (ls) (st) h = am_ev 262 2 (ls) (st) h := am_ev_step (q := (2, ls, st, h)) _ (.goto (-93)) 3 am_my_262 (by decide +kernel) rfl
theorem e262_98 {ls : List (Option Value)} {st : List Value} {h : am_H} : am_ev 262 98 (ls) (st) h = am_ev 262 99 (ls) (.int (1) :: st) h := am_ev_step (q := (99, ls, .int (1) :: st, h)) _ (.iconst (1)) 1 am_my_262 (by decide +kernel) rfl
theorem e262_99 {ls : List (Option Value)} {h : am_H} {v : Int32} (hv : v = 0 ∨ v = 1) : am_ev 262 99 ls [.int v] h = some (some (.int v), h) := am_u_rtZ am_my_262 (by decide +kernel) rfl hv
theorem e261_0 {ls : List (Option Value)} {st : List Value} {h : am_H} {a : Nat} : am_ev 261 0 (some (.ref a) :: ls) (st) h = am_ev 261 1 (some (.ref a) :: ls) (.ref a :: st) h := am_ev_step (q := (1, some (.ref a) :: ls, .ref a :: st, h)) _ (.aload_n 0) 1 am_my_261 (by decide +kernel) rfl
theorem e261_1 {ls : List (Option Value)} {st : List Value} {h : am_H} : am_ev 261 1 (ls) (st) h = am_ev 261 2 (ls) (.int (0) :: st) h := am_ev_step (q := (2, ls, .int (0) :: st, h)) _ (.iconst (0)) 1 am_my_261 (by decide +kernel) rfl
theorem e261_2 {ls : List (Option Value)} {st : List Value} {h : am_H} {o : Nat} {v : Int32} (hk : am_kd h o = some (.inl 11)) : am_ev 261 2 ls (.int v :: .ref o :: st) h = am_ev 261 5 ls st (am_sI h o 51 v) := am_u_pfI (idx := 483) (wn := 5183) am_my_261 (by decide +kernel) (by decide +kernel) (by decide +kernel) (by decide +kernel) hk
theorem e261_5 {ls : List (Option Value)} {st : List Value} {h : am_H} : am_ev 261 5 (ls) (st) h = am_ev 261 6 (ls) (.int (0) :: st) h := am_ev_step (q := (6, ls, .int (0) :: st, h)) _ (.iconst (0)) 1 am_my_261 (by decide +kernel) rfl
theorem e261_6 {ls : List (Option Value)} {st : List Value} {h : am_H} {l0 : Option Value} {z : Option Value} {a : Int32} : am_ev 261 6 (l0 :: z :: ls) (.int a :: st) h = am_ev 261 7 (l0 :: some (.int a) :: ls) (st) h := am_ev_step (q := (7, l0 :: some (.int a) :: ls, st, h)) _ (.istore_n 1) 1 am_my_261 (by decide +kernel) rfl
theorem e261_7 {ls : List (Option Value)} {st : List Value} {h : am_H} {l0 : Option Value} {a : Int32} : am_ev 261 7 (l0 :: some (.int a) :: ls) (st) h = am_ev 261 8 (l0 :: some (.int a) :: ls) (.int a :: st) h := am_ev_step (q := (8, l0 :: some (.int a) :: ls, .int a :: st, h)) _ (.iload_n 1) 1 am_my_261 (by decide +kernel) rfl
theorem e261_8 {ls : List (Option Value)} {st : List Value} {h : am_H} : am_ev 261 8 (ls) (st) h = am_ev 261 10 (ls) (.int (36) :: st) h := am_ev_step (q := (10, ls, .int (36) :: st, h)) _ (.bipush (36)) 2 am_my_261 (by decide +kernel) rfl
theorem e261_10 {ls : List (Option Value)} {st : List Value} {h : am_H} {a b : Int32} : am_ev 261 10 ls (.int b :: .int a :: st) h = if b ≤ a then am_ev 261 47 ls st h else am_ev 261 13 ls st h := am_u_if2 (c := .ge) (off := 37) am_my_261 (by decide +kernel) (by decide)
theorem e261_13 {ls : List (Option Value)} {st : List Value} {h : am_H} {a : Nat} : am_ev 261 13 (some (.ref a) :: ls) (st) h = am_ev 261 14 (some (.ref a) :: ls) (.ref a :: st) h := am_ev_step (q := (14, some (.ref a) :: ls, .ref a :: st, h)) _ (.aload_n 0) 1 am_my_261 (by decide +kernel) rfl
theorem e261_14 {ls : List (Option Value)} {st : List Value} {h : am_H} {l0 : Option Value} {a : Int32} : am_ev 261 14 (l0 :: some (.int a) :: ls) (st) h = am_ev 261 15 (l0 :: some (.int a) :: ls) (.int a :: st) h := am_ev_step (q := (15, l0 :: some (.int a) :: ls, .int a :: st, h)) _ (.iload_n 1) 1 am_my_261 (by decide +kernel) rfl
theorem e261_15 {ls : List (Option Value)} {st : List Value} {h : am_H} {p0 : Int32} {o : Nat} (hw : am_w8 st ≤ 8) (hk : am_kd h o = some (.inl 11)) : am_ev 261 15 ls (.int p0 :: .ref o :: st) h = am_bd (am_den 262 [.ref o, .int p0] h) (fun v h1 => am_ev 261 18 ls (v.toList ++ st) h1) := am_u_cV (idx := 486) (wn := 7233) (as := [.int p0]) am_my_261 (by decide +kernel) (Or.inl (by decide +kernel)) am_my_262 (by decide +kernel) rfl ⟨Nat.le_of_ble_eq_true rfl, rfl⟩ (by decide +kernel) hw hk
theorem e261_18 {ls : List (Option Value)} {st : List Value} {h : am_H} {a : Int32} : am_ev 261 18 ls (.int a :: st) h = if a = 0 then am_ev 261 41 ls st h else am_ev 261 21 ls st h := am_u_if1 (c := .eq) (off := 23) am_my_261 (by decide +kernel) (by decide)
theorem e261_21 {ls : List (Option Value)} {st : List Value} {h : am_H} {a : Nat} : am_ev 261 21 (some (.ref a) :: ls) (st) h = am_ev 261 22 (some (.ref a) :: ls) (.ref a :: st) h := am_ev_step (q := (22, some (.ref a) :: ls, .ref a :: st, h)) _ (.aload_n 0) 1 am_my_261 (by decide +kernel) rfl
theorem e261_22 {ls : List (Option Value)} {st : List Value} {h : am_H} {o : Nat} (hk : am_kd h o = some (.inl 11)) : am_ev 261 22 ls (.ref o :: st) h = am_ev 261 25 ls (va_rf (h.2.2.1 o 50) :: st) h := am_u_gfR (idx := 75) (wn := 5182) (a := 0) am_my_261 (by decide +kernel) (by decide +kernel) (by decide +kernel) hk
theorem e261_25 {ls : List (Option Value)} {st : List Value} {h : am_H} {a : Nat} : am_ev 261 25 (some (.ref a) :: ls) (st) h = am_ev 261 26 (some (.ref a) :: ls) (.ref a :: st) h := am_ev_step (q := (26, some (.ref a) :: ls, .ref a :: st, h)) _ (.aload_n 0) 1 am_my_261 (by decide +kernel) rfl
theorem e261_26 {ls : List (Option Value)} {st : List Value} {h : am_H} {o : Nat} (hk : am_kd h o = some (.inl 11)) : am_ev 261 26 ls (.ref o :: st) h = am_ev 261 29 ls (.int (h.1 o 51) :: st) h := am_u_gfI (idx := 483) (wn := 5183) am_my_261 (by decide +kernel) (by decide +kernel) (by decide +kernel) hk
theorem e261_29 {ls : List (Option Value)} {st : List Value} {h : am_H} {l0 : Option Value} {a : Int32} : am_ev 261 29 (l0 :: some (.int a) :: ls) (st) h = am_ev 261 30 (l0 :: some (.int a) :: ls) (.int a :: st) h := am_ev_step (q := (30, l0 :: some (.int a) :: ls, .int a :: st, h)) _ (.iload_n 1) 1 am_my_261 (by decide +kernel) rfl
theorem e261_30 {ls : List (Option Value)} {st : List Value} {h : am_H} {v i : Int32} {a : Nat} (ht : am_tc h a = some 0) : am_ev 261 30 ls (.int v :: .int i :: .ref a :: st) h = if am_ix i (am_len h a) = true then am_ev 261 31 ls st (am_sI h a i.toNatClampNeg v) else none := am_u_wI am_my_261 (by decide +kernel) ht
theorem e261_31 {ls : List (Option Value)} {st : List Value} {h : am_H} {a : Nat} : am_ev 261 31 (some (.ref a) :: ls) (st) h = am_ev 261 32 (some (.ref a) :: ls) (.ref a :: st) h := am_ev_step (q := (32, some (.ref a) :: ls, .ref a :: st, h)) _ (.aload_n 0) 1 am_my_261 (by decide +kernel) rfl
theorem e261_32 {ls : List (Option Value)} {st : List Value} {h : am_H} {a : Nat} : am_ev 261 32 (ls) (.ref a :: st) h = am_ev 261 33 (ls) (.ref a :: .ref a :: st) h := am_ev_step (q := (33, ls, .ref a :: .ref a :: st, h)) _ (.dup) 1 am_my_261 (by decide +kernel) rfl
theorem e261_32i {ls : List (Option Value)} {st : List Value} {h : am_H} {a : Int32} : am_ev 261 32 (ls) (.int a :: st) h = am_ev 261 33 (ls) (.int a :: .int a :: st) h := am_ev_step (q := (33, ls, .int a :: .int a :: st, h)) _ (.dup) 1 am_my_261 (by decide +kernel) rfl
theorem e261_33 {ls : List (Option Value)} {st : List Value} {h : am_H} {o : Nat} (hk : am_kd h o = some (.inl 11)) : am_ev 261 33 ls (.ref o :: st) h = am_ev 261 36 ls (.int (h.1 o 51) :: st) h := am_u_gfI (idx := 483) (wn := 5183) am_my_261 (by decide +kernel) (by decide +kernel) (by decide +kernel) hk
theorem e261_36 {ls : List (Option Value)} {st : List Value} {h : am_H} : am_ev 261 36 (ls) (st) h = am_ev 261 37 (ls) (.int (1) :: st) h := am_ev_step (q := (37, ls, .int (1) :: st, h)) _ (.iconst (1)) 1 am_my_261 (by decide +kernel) rfl
theorem e261_37 {ls : List (Option Value)} {st : List Value} {h : am_H} {a b : Int32} : am_ev 261 37 (ls) (.int b :: .int a :: st) h = am_ev 261 38 (ls) (.int (a + b) :: st) h := am_ev_step (q := (38, ls, .int (a + b) :: st, h)) _ (.iadd) 1 am_my_261 (by decide +kernel) rfl
theorem e261_38 {ls : List (Option Value)} {st : List Value} {h : am_H} {o : Nat} {v : Int32} (hk : am_kd h o = some (.inl 11)) : am_ev 261 38 ls (.int v :: .ref o :: st) h = am_ev 261 41 ls st (am_sI h o 51 v) := am_u_pfI (idx := 483) (wn := 5183) am_my_261 (by decide +kernel) (by decide +kernel) (by decide +kernel) (by decide +kernel) hk
theorem e261_41 {ls : List (Option Value)} {st : List Value} {h : am_H} {l0 : Option Value} {a : Int32} : am_ev 261 41 (l0 :: some (.int a) :: ls) (st) h = am_ev 261 44 (l0 :: some (.int (a + (1))) :: ls) (st) h := am_ev_step (q := (44, l0 :: some (.int (a + (1))) :: ls, st, h)) _ (.iinc 1 (1)) 3 am_my_261 (by decide +kernel) rfl
theorem e261_44 {ls : List (Option Value)} {st : List Value} {h : am_H} : am_ev 261 44 (ls) (st) h = am_ev 261 7 (ls) (st) h := am_ev_step (q := (7, ls, st, h)) _ (.goto (-37)) 3 am_my_261 (by decide +kernel) rfl
theorem e261_47 {ls : List (Option Value)} {h : am_H} : am_ev 261 47 ls [] h = some (none, h) := am_u_rtV am_my_261 (by decide +kernel) rfl
def q_k1 (c d e : Nat) : Bool := decide (q_n8 c d = none) || (!decide (q_n8 c d = q_n8 c e) || decide (d = e))
theorem q_k1_a : ∀ c, c < 64 → ∀ d, d < 4 → ∀ e, e < 4 → q_k1 c d e = true := by decide +kernel
theorem q_n8_1 (c : Nat) (hc : c < 64) (d : Nat) (hd : d < 4) (e : Nat) (he : e < 4) (h1 : q_n8 c d ≠ none) (h2 : q_n8 c d = q_n8 c e) : d = e := by
  have := q_k1_a c hc d hd e he
  unfold q_k1 at this
  rw [decide_eq_false h1, decide_eq_true h2] at this
  exact of_decide_eq_true this
theorem q_n8_2 : ∀ c, c < 64 → ∀ d, d < 4 → q_n8 c d ≠ some c := by decide +kernel
def q_n88 (c d e : Nat) : Option Nat := match q_n8 c d with
  | none => none
  | some t => q_n8 t e
def q_k3 (c d e i : Nat) : Bool := (decide (q_n88 c d e = none) || !decide (q_n88 c d e = q_n8 c i)) && (decide (q_n88 c d e = none) || (!decide (q_n88 c d e = q_n88 c i i) || (decide (d = i) && decide (e = i))))
theorem q_k3_a : ∀ c, c < 64 → ∀ d, d < 4 → ∀ e, e < 4 → ∀ i, i < 4 → q_k3 c d e i = true := by decide +kernel
theorem q_n8_3 (c : Nat) (hc : c < 64) (d : Nat) (hd : d < 4) (e : Nat) (he : e < 4) (i : Nat) (hi : i < 4) (h1 : q_n88 c d e ≠ none) : q_n88 c d e ≠ q_n8 c i := fun h2 => by
  have := ((Bool.and_eq_true _ _).mp (q_k3_a c hc d hd e he i hi)).1
  rw [decide_eq_false h1, decide_eq_true h2] at this
  cases this
theorem q_n8_4 (c : Nat) (hc : c < 64) (d : Nat) (hd : d < 4) (e : Nat) (he : e < 4) (i : Nat) (hi : i < 4) (h1 : q_n88 c d e ≠ none) (h2 : q_n88 c d e = q_n88 c i i) : d = i ∧ e = i := by
  have := ((Bool.and_eq_true _ _).mp (q_k3_a c hc d hd e he i hi)).2
  rw [decide_eq_false h1, decide_eq_true h2] at this
  have h3 : (decide (d = i) && decide (e = i)) = true := this
  rw [Bool.and_eq_true] at h3
  exact ⟨of_decide_eq_true h3.1, of_decide_eq_true h3.2⟩
theorem q_n8_5 : ∀ c, c < 64 → ∀ d, d < 4 → q_n88 c d d ≠ some c := by decide +kernel
theorem q_n8_6 : ∀ c, c < 64 → ∀ d, d < 4 → ∀ e, e < 4 → q_n8 c d ≠ none → q_n8 c d ≠ q_n88 c e e := by decide +kernel
/-- the two steps of a minute by a log -/
def F_s1 (code b d : Nat) : Option Nat := if G_drv (F_lg code b d) (G_0 (F_lg code b d)) 0 = true then G_way (F_lg code b d) (G_0 (F_lg code b d)) 0 else none
def F_s2 (code b d : Nat) : Option Nat := match F_s1 code b d with
  | none => none
  | some _ => if code / 9 = 2 then G_way (F_lg code b d) (G_s1 (F_lg code b d) (G_0 (F_lg code b d)) 0) 0 else none
theorem F_np (code b d : Nat) (g : q_G) (h : G_pen g = 0) : G_pnd g 0 = false := by
  unfold G_pnd
  rw [h]
  rfl
theorem F_lg_pen (code b d t : Nat) (g : q_G) (ht : t < 64) : G_pen (G_mv (F_lg code b d) g 0 t) = G_pen g := if_neg (by show ¬ t = 64; omega)
theorem F_end_ne {code b d e : Nat} (h : F_s1 code b d = some e) : F_end code b d ≠ b := by
  have g := G_went1_ne (F_lg code b d) (G_0 (F_lg code b d)) 0
  unfold F_s1 at h
  split at h
  · rename_i hd
    unfold G_went1 at g
    rw [hd, h] at g
    exact of_decide_eq_true g.symm
  · cases h
/-- how a minute by a log goes -/
theorem F_min {code b d : Nat} (hb : b < 64) (hd : d < 64) (hc : code < 36) : (F_s1 code b d = none ∧ F_s2 code b d = none ∧ F_end code b d = b) ∨ ∃ e t, F_s1 code b d = some e ∧ e < 4 ∧ q_n8 b e = some t ∧ G_s1 (F_lg code b d) (G_0 (F_lg code b d)) 0 = G_mv (F_lg code b d) (G_0 (F_lg code b d)) 0 t ∧ ((F_s2 code b d = none ∧ F_end code b d = t) ∨ (code / 9 = 2 ∧ ∃ i u, F_s2 code b d = some i ∧ i < 4 ∧ q_n8 t i = some u ∧ F_end code b d = u)) := by
  unfold F_s2 F_s1 F_end G_go
  cases hdr : G_drv (F_lg code b d) (G_0 (F_lg code b d)) 0 with
  | false => exact Or.inl ⟨rfl, rfl, rfl⟩
  | true =>
    rw [if_pos rfl, if_pos rfl]
    rcases G_s1_sp (F_lg code b d) (G_0 (F_lg code b d)) 0 with ⟨w, e⟩ | ⟨e, t, w, x, s, -, -⟩
    · left
      rw [w, e, e]
      refine ⟨rfl, rfl, ?_⟩
      split <;> rfl
    · right
      have x' : q_n8 b e = some t := by rw [← F_lg_nx code b d]; exact x
      have tl := q_n8_lt hb x'
      have pn : G_pnd (G_s1 (F_lg code b d) (G_0 (F_lg code b d)) 0) 0 = false := F_np code b d _ (by rw [s, F_lg_pen _ _ _ _ _ tl]; rfl)
      refine ⟨e, t, w, (G_way_lt w).1, x', s, ?_⟩
      rw [w, pn]
      show ((if code / 9 = 2 then _ else none) = none ∧ G_at (if code / 9 = 2 ∧ false = false then _ else _) 0 = t) ∨ (code / 9 = 2 ∧ ∃ i u, (if code / 9 = 2 then _ else none) = some i ∧ i < 4 ∧ q_n8 t i = some u ∧ G_at (if code / 9 = 2 ∧ false = false then _ else _) 0 = u)
      by_cases k2 : code / 9 = 2
      · rw [if_pos k2, if_pos ⟨k2, rfl⟩]
        have ta : G_at (G_s1 (F_lg code b d) (G_0 (F_lg code b d)) 0) 0 = t := by rw [s]; exact G_mv_b _ _ _ _
        rcases G_s1_sp (F_lg code b d) (G_s1 (F_lg code b d) (G_0 (F_lg code b d)) 0) 0 with ⟨w2, e2⟩ | ⟨i, u, w2, x2, s2, -, -⟩
        · exact Or.inl ⟨w2, by rw [e2]; exact ta⟩
        · rw [ta, F_lg_nx] at x2
          exact Or.inr ⟨k2, i, u, w2, (G_way_lt w2).1, x2, by rw [s2]; exact G_mv_b _ _ _ _⟩
      · rw [if_neg k2, if_neg (fun v => k2 v.1)]
        exact Or.inl ⟨rfl, by rw [s]; exact G_mv_b _ _ _ _⟩
/-- the reference's test of a fact is the class's -/
theorem L_so_iff {l : q_Lg} (lk : L_ok l) {code k : Nat} (hc : code < 36) (hk : k < L_n l) : (q_ov (F_s1 code (L_beast l k) (L_dog l k)) = L_way l k ∧ q_ov (F_s2 code (L_beast l k) (L_dog l k)) = if L_did l k = 1 then L_way l k else -1) ↔ L_so l code k = true := by
  obtain ⟨w0, w1, w2, w3, w4⟩ := lk.2 k hk
  have wn : L_did l k ≠ 2 → L_way l k = nI (L_dir l k) := fun c => if_neg c
  have wy : L_did l k = 2 → L_way l k = -1 := fun c => if_pos c
  have ov : ∀ e : Nat, e < 4 → (q_ov (some e) = nI (L_dir l k) ↔ e = L_dir l k) := fun e he => nI_eq (by omega) (by omega)
  have om : ∀ e : Nat, e < 4 → ¬ q_ov (some e) = -1 := fun e he => q_m1_n e (by omega)
  have o0 : ¬ (-1 : Int32) = nI (L_dir l k) := fun w => q_m1_n _ (by omega) w.symm
  have on : q_ov none = -1 := rfl
  unfold L_so
  rw [decide_eq_true_eq]
  generalize L_beast l k = b at *
  generalize L_dog l k = dg at *
  rcases F_min w1 w2 hc with ⟨e1, e2, e3⟩ | ⟨e, t, e1, he, hn, -, e3⟩
  · rw [e1, e2, e3, on]
    by_cases c2 : L_did l k = 2
    · rw [wy c2, if_neg (by omega)]
      have : q_tl (L_did l k) b (L_dir l k) = some b := if_pos c2
      rw [this]
      exact ⟨fun _ => rfl, fun _ => ⟨rfl, rfl⟩⟩
    · rw [wn c2]
      constructor
      · intro w; exact absurd w.1 o0
      · intro w
        exfalso
        unfold q_tl at w
        rw [if_neg c2] at w
        split at w
        · exact q_n8_2 b w1 _ w4 w
        · exact q_n8_5 b w1 _ w4 w
  · rw [e1]
    rcases e3 with ⟨e4, e5⟩ | ⟨k2, i, u, e4, hi, hu, e5⟩
    · rw [e4, e5, on]
      have nn : q_n8 b e ≠ none := by rw [hn]; intro w; cases w
      by_cases c2 : L_did l k = 2
      · rw [wy c2]
        have : q_tl (L_did l k) b (L_dir l k) = some b := if_pos c2
        rw [this]
        constructor
        · intro w; exact absurd w.1 (om e he)
        · intro w
          exfalso
          rw [← hn] at w
          exact q_n8_2 b w1 e he w.symm
      · rw [wn c2, ov e he]
        by_cases c0 : L_did l k = 0
        · have : q_tl (L_did l k) b (L_dir l k) = q_n8 b (L_dir l k) := by
            unfold q_tl
            rw [if_neg c2, if_pos c0]
          rw [this, if_neg (by omega), ← hn]
          exact ⟨fun w => by rw [w.1], fun w => ⟨q_n8_1 b w1 e he _ w4 nn w.symm, rfl⟩⟩
        · have : q_tl (L_did l k) b (L_dir l k) = q_n88 b (L_dir l k) (L_dir l k) := by
            unfold q_tl
            rw [if_neg c2, if_neg c0]
            rfl
          rw [this, if_pos (by omega), ← hn]
          exact ⟨fun w => absurd w.2 o0, fun w => absurd w.symm (q_n8_6 b w1 e he _ w4 nn)⟩
    · rw [e4, e5]
      have n88 : q_n88 b e i = some u := by
        unfold q_n88
        rw [hn]
        exact hu
      have nn : q_n88 b e i ≠ none := by rw [n88]; intro w; cases w
      by_cases c2 : L_did l k = 2
      · rw [wy c2]
        have : q_tl (L_did l k) b (L_dir l k) = some b := if_pos c2
        rw [this]
        constructor
        · intro w; exact absurd w.1 (om e he)
        · intro w
          exfalso
          exact F_end_ne e1 (e5.trans (Option.some.inj w).symm)
      · rw [wn c2, ov e he]
        by_cases c0 : L_did l k = 0
        · have : q_tl (L_did l k) b (L_dir l k) = q_n8 b (L_dir l k) := by
            unfold q_tl
            rw [if_neg c2, if_pos c0]
          rw [this, if_neg (by omega), ← n88]
          exact ⟨fun w => absurd w.2 (om i hi), fun w => absurd w.symm (q_n8_3 b w1 e he i hi _ w4 nn)⟩
        · have : q_tl (L_did l k) b (L_dir l k) = q_n88 b (L_dir l k) (L_dir l k) := by
            unfold q_tl
            rw [if_neg c2, if_neg c0]
            rfl
          rw [this, if_pos (by omega), ← n88, ov i hi]
          exact ⟨fun w => by rw [w.1, w.2], fun w => q_n8_4 b w1 e he i hi _ w4 nn w.symm⟩
