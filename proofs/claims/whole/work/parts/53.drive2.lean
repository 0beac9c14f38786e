/-! part 53: till, thrice, caught -/
theorem e123_0 {ls : List (Option Value)} {st : List Value} {h : am_H} {a : Nat} : am_ev 123 0 (some (.ref a) :: ls) (st) h = am_ev 123 1 (some (.ref a) :: ls) (.ref a :: st) h := am_ev_step (q := (1, some (.ref a) :: ls, .ref a :: st, h)) _ (.aload_n 0) 1 am_my_123 (by decide +kernel) rfl
theorem e123_1 {ls : List (Option Value)} {st : List Value} {h : am_H} {l0 : Option Value} {a : Int32} : am_ev 123 1 (l0 :: some (.int a) :: ls) (st) h = am_ev 123 2 (l0 :: some (.int a) :: ls) (.int a :: st) h := am_ev_step (q := (2, l0 :: some (.int a) :: ls, .int a :: st, h)) _ (.iload_n 1) 1 am_my_123 (by decide +kernel) rfl
theorem e123_2 {ls : List (Option Value)} {st : List Value} {h : am_H} {l0 l1 : Option Value} {a : Int32} : am_ev 123 2 (l0 :: l1 :: some (.int a) :: ls) (st) h = am_ev 123 3 (l0 :: l1 :: some (.int a) :: ls) (.int a :: st) h := am_ev_step (q := (3, l0 :: l1 :: some (.int a) :: ls, .int a :: st, h)) _ (.iload_n 2) 1 am_my_123 (by decide +kernel) rfl
theorem e123_3 {ls : List (Option Value)} {st : List Value} {h : am_H} {p0 : Int32} {p1 : Int32} {o : Nat} (hw : am_w8 st ≤ 8) (hk : am_kd h o = some (.inl 10)) : am_ev 123 3 ls (.int p1 :: .int p0 :: .ref o :: st) h = am_bd (am_den 114 [.ref o, .int p0, .int p1] h) (fun v h1 => am_ev 123 6 ls (v.toList ++ st) h1) := am_u_cV (idx := 238) (wn := 4155) (as := [.int p0, .int p1]) am_my_123 (by decide +kernel) (Or.inl (by decide +kernel)) am_my_114 (by decide +kernel) rfl ⟨Nat.le_of_ble_eq_true rfl, rfl⟩ (by decide +kernel) hw hk
theorem e123_6 {ls : List (Option Value)} {st : List Value} {h : am_H} {a : Int32} : am_ev 123 6 ls (.int a :: st) h = if ¬ a = 0 then am_ev 123 11 ls st h else am_ev 123 9 ls st h := am_u_if1 (c := .ne) (off := 5) am_my_123 (by decide +kernel) (by decide)
theorem e123_9 {ls : List (Option Value)} {st : List Value} {h : am_H} : am_ev 123 9 (ls) (st) h = am_ev 123 10 (ls) (.int (-1) :: st) h := am_ev_step (q := (10, ls, .int (-1) :: st, h)) _ (.iconst (-1)) 1 am_my_123 (by decide +kernel) rfl
theorem e123_10 {ls : List (Option Value)} {h : am_H} {v : Int32} : am_ev 123 10 ls [.int v] h = some (some (.int v), h) := am_u_rtI am_my_123 (by decide +kernel) rfl
theorem e123_11 {ls : List (Option Value)} {st : List Value} {h : am_H} {a : Nat} : am_ev 123 11 (some (.ref a) :: ls) (st) h = am_ev 123 12 (some (.ref a) :: ls) (.ref a :: st) h := am_ev_step (q := (12, some (.ref a) :: ls, .ref a :: st, h)) _ (.aload_n 0) 1 am_my_123 (by decide +kernel) rfl
theorem e123_12 {ls : List (Option Value)} {st : List Value} {h : am_H} {o : Nat} (hk : am_kd h o = some (.inl 10)) : am_ev 123 12 ls (.ref o :: st) h = am_ev 123 15 ls (va_rf (h.2.2.1 o 0) :: st) h := am_u_gfR (idx := 10) (wn := 2146) (a := 0) am_my_123 (by decide +kernel) (by decide +kernel) (by decide +kernel) hk
theorem e123_15 {ls : List (Option Value)} {st : List Value} {h : am_H} {o : Nat} (hk : am_kd h o = some (.inl 8)) : am_ev 123 15 ls (.ref o :: st) h = am_ev 123 18 ls (va_rf (h.2.2.1 o 6) :: st) h := am_u_gfR (idx := 230) (wn := 1193) (a := 0) am_my_123 (by decide +kernel) (by decide +kernel) (by decide +kernel) hk
theorem e123_18 {ls : List (Option Value)} {st : List Value} {h : am_H} {l0 l1 : Option Value} {a : Int32} : am_ev 123 18 (l0 :: l1 :: some (.int a) :: ls) (st) h = am_ev 123 19 (l0 :: l1 :: some (.int a) :: ls) (.int a :: st) h := am_ev_step (q := (19, l0 :: l1 :: some (.int a) :: ls, .int a :: st, h)) _ (.iload_n 2) 1 am_my_123 (by decide +kernel) rfl
theorem e123_19f {ls : List (Option Value)} {st : List Value} {h : am_H} {i : Int32} {a : Nat} (ht : am_tc h a = some 4) : am_ev 123 19 ls (.int i :: .ref a :: st) h = if am_ix i (am_len h a) = true then am_ev 123 20 ls (va_rf (h.2.2.1 a i.toNatClampNeg) :: st) h else none := am_u_rA am_my_123 (by decide +kernel) ht (by decide)
theorem e123_19d {ls : List (Option Value)} {st : List Value} {h : am_H} {i : Int32} {a : Nat} (ht : am_tc h a = some 5) : am_ev 123 19 ls (.int i :: .ref a :: st) h = if am_ix i (am_len h a) = true then am_ev 123 20 ls (va_rf (h.2.2.1 a i.toNatClampNeg) :: st) h else none := am_u_rA am_my_123 (by decide +kernel) ht (by decide)
theorem e123_19b {ls : List (Option Value)} {st : List Value} {h : am_H} {i : Int32} {a : Nat} (ht : am_tc h a = some 6) : am_ev 123 19 ls (.int i :: .ref a :: st) h = if am_ix i (am_len h a) = true then am_ev 123 20 ls (va_rf (h.2.2.1 a i.toNatClampNeg) :: st) h else none := am_u_rA am_my_123 (by decide +kernel) ht (by decide)
theorem e123_19l {ls : List (Option Value)} {st : List Value} {h : am_H} {i : Int32} {a : Nat} (ht : am_tc h a = some 7) : am_ev 123 19 ls (.int i :: .ref a :: st) h = if am_ix i (am_len h a) = true then am_ev 123 20 ls (va_rf (h.2.2.1 a i.toNatClampNeg) :: st) h else none := am_u_rA am_my_123 (by decide +kernel) ht (by decide)
theorem e123_19t {ls : List (Option Value)} {st : List Value} {h : am_H} {i : Int32} {a : Nat} (ht : am_tc h a = some 8) : am_ev 123 19 ls (.int i :: .ref a :: st) h = if am_ix i (am_len h a) = true then am_ev 123 20 ls (va_rf (h.2.2.1 a i.toNatClampNeg) :: st) h else none := am_u_rA am_my_123 (by decide +kernel) ht (by decide)
theorem e123_20 {ls : List (Option Value)} {st : List Value} {h : am_H} {l0 l1 l2 : Option Value} {z : Option Value} {a : Nat} : am_ev 123 20 (l0 :: l1 :: l2 :: z :: ls) (.ref a :: st) h = am_ev 123 21 (l0 :: l1 :: l2 :: some (.ref a) :: ls) (st) h := am_ev_step (q := (21, l0 :: l1 :: l2 :: some (.ref a) :: ls, st, h)) _ (.astore_n 3) 1 am_my_123 (by decide +kernel) rfl
theorem e123_21 {ls : List (Option Value)} {st : List Value} {h : am_H} {a : Nat} : am_ev 123 21 (some (.ref a) :: ls) (st) h = am_ev 123 22 (some (.ref a) :: ls) (.ref a :: st) h := am_ev_step (q := (22, some (.ref a) :: ls, .ref a :: st, h)) _ (.aload_n 0) 1 am_my_123 (by decide +kernel) rfl
theorem e123_22 {ls : List (Option Value)} {st : List Value} {h : am_H} {o : Nat} (hk : am_kd h o = some (.inl 10)) : am_ev 123 22 ls (.ref o :: st) h = am_ev 123 25 ls (va_rf (h.2.2.1 o 4) :: st) h := am_u_gfR (idx := 34) (wn := 2150) (a := 0) am_my_123 (by decide +kernel) (by decide +kernel) (by decide +kernel) hk
theorem e123_25 {ls : List (Option Value)} {st : List Value} {h : am_H} {a : Nat} : am_ev 123 25 (some (.ref a) :: ls) (st) h = am_ev 123 26 (some (.ref a) :: ls) (.ref a :: st) h := am_ev_step (q := (26, some (.ref a) :: ls, .ref a :: st, h)) _ (.aload_n 0) 1 am_my_123 (by decide +kernel) rfl
theorem e123_26 {ls : List (Option Value)} {st : List Value} {h : am_H} {o : Nat} (hk : am_kd h o = some (.inl 10)) : am_ev 123 26 ls (.ref o :: st) h = am_ev 123 29 ls (va_rf (h.2.2.1 o 0) :: st) h := am_u_gfR (idx := 10) (wn := 2146) (a := 0) am_my_123 (by decide +kernel) (by decide +kernel) (by decide +kernel) hk
theorem e123_29 {ls : List (Option Value)} {st : List Value} {h : am_H} {o : Nat} (hk : am_kd h o = some (.inl 8)) : am_ev 123 29 ls (.ref o :: st) h = am_ev 123 32 ls (va_rf (h.2.2.1 o 5) :: st) h := am_u_gfR (idx := 116) (wn := 1191) (a := 0) am_my_123 (by decide +kernel) (by decide +kernel) (by decide +kernel) hk
theorem e123_32 {ls : List (Option Value)} {st : List Value} {h : am_H} {l0 : Option Value} {a : Int32} : am_ev 123 32 (l0 :: some (.int a) :: ls) (st) h = am_ev 123 33 (l0 :: some (.int a) :: ls) (.int a :: st) h := am_ev_step (q := (33, l0 :: some (.int a) :: ls, .int a :: st, h)) _ (.iload_n 1) 1 am_my_123 (by decide +kernel) rfl
theorem e123_33f {ls : List (Option Value)} {st : List Value} {h : am_H} {i : Int32} {a : Nat} (ht : am_tc h a = some 4) : am_ev 123 33 ls (.int i :: .ref a :: st) h = if am_ix i (am_len h a) = true then am_ev 123 34 ls (va_rf (h.2.2.1 a i.toNatClampNeg) :: st) h else none := am_u_rA am_my_123 (by decide +kernel) ht (by decide)
theorem e123_33d {ls : List (Option Value)} {st : List Value} {h : am_H} {i : Int32} {a : Nat} (ht : am_tc h a = some 5) : am_ev 123 33 ls (.int i :: .ref a :: st) h = if am_ix i (am_len h a) = true then am_ev 123 34 ls (va_rf (h.2.2.1 a i.toNatClampNeg) :: st) h else none := am_u_rA am_my_123 (by decide +kernel) ht (by decide)
theorem e123_33b {ls : List (Option Value)} {st : List Value} {h : am_H} {i : Int32} {a : Nat} (ht : am_tc h a = some 6) : am_ev 123 33 ls (.int i :: .ref a :: st) h = if am_ix i (am_len h a) = true then am_ev 123 34 ls (va_rf (h.2.2.1 a i.toNatClampNeg) :: st) h else none := am_u_rA am_my_123 (by decide +kernel) ht (by decide)
theorem e123_33l {ls : List (Option Value)} {st : List Value} {h : am_H} {i : Int32} {a : Nat} (ht : am_tc h a = some 7) : am_ev 123 33 ls (.int i :: .ref a :: st) h = if am_ix i (am_len h a) = true then am_ev 123 34 ls (va_rf (h.2.2.1 a i.toNatClampNeg) :: st) h else none := am_u_rA am_my_123 (by decide +kernel) ht (by decide)
theorem e123_33t {ls : List (Option Value)} {st : List Value} {h : am_H} {i : Int32} {a : Nat} (ht : am_tc h a = some 8) : am_ev 123 33 ls (.int i :: .ref a :: st) h = if am_ix i (am_len h a) = true then am_ev 123 34 ls (va_rf (h.2.2.1 a i.toNatClampNeg) :: st) h else none := am_u_rA am_my_123 (by decide +kernel) ht (by decide)
theorem e123_34 {ls : List (Option Value)} {st : List Value} {h : am_H} {p0 : Nat} {o : Nat} (hw : am_w8 st ≤ 8) (hk : am_kd h o = some (.inl 4)) : am_ev 123 34 ls (.ref p0 :: .ref o :: st) h = am_bd (am_den 72 [.ref o, .ref p0] h) (fun v h1 => am_ev 123 37 ls (v.toList ++ st) h1) := am_u_cV (idx := 130) (wn := 3210) (as := [.ref p0]) am_my_123 (by decide +kernel) (Or.inl (by decide +kernel)) am_my_72 (by decide +kernel) rfl ⟨Nat.le_of_ble_eq_true rfl, rfl⟩ (by decide +kernel) hw hk
theorem e123_37 {ls : List (Option Value)} {st : List Value} {h : am_H} : am_ev 123 37 (ls) (st) h = am_ev 123 38 (ls) (.int (0) :: st) h := am_ev_step (q := (38, ls, .int (0) :: st, h)) _ (.iconst (0)) 1 am_my_123 (by decide +kernel) rfl
theorem e123_38 {ls : List (Option Value)} {st : List Value} {h : am_H} {l0 l1 l2 l3 : Option Value} {z : Option Value} {a : Int32} : am_ev 123 38 (l0 :: l1 :: l2 :: l3 :: z :: ls) (.int a :: st) h = am_ev 123 40 (l0 :: l1 :: l2 :: l3 :: some (.int a) :: ls) (st) h := am_ev_step (q := (40, l0 :: l1 :: l2 :: l3 :: some (.int a) :: ls, st, h)) _ (.istore 4) 2 am_my_123 (by decide +kernel) rfl
theorem e123_40 {ls : List (Option Value)} {st : List Value} {h : am_H} {l0 l1 l2 l3 : Option Value} {a : Int32} : am_ev 123 40 (l0 :: l1 :: l2 :: l3 :: some (.int a) :: ls) (st) h = am_ev 123 42 (l0 :: l1 :: l2 :: l3 :: some (.int a) :: ls) (.int a :: st) h := am_ev_step (q := (42, l0 :: l1 :: l2 :: l3 :: some (.int a) :: ls, .int a :: st, h)) _ (.iload 4) 2 am_my_123 (by decide +kernel) rfl
theorem e123_42 {ls : List (Option Value)} {st : List Value} {h : am_H} : am_ev 123 42 (ls) (st) h = am_ev 123 43 (ls) (.int (3) :: st) h := am_ev_step (q := (43, ls, .int (3) :: st, h)) _ (.iconst (3)) 1 am_my_123 (by decide +kernel) rfl
theorem e123_43 {ls : List (Option Value)} {st : List Value} {h : am_H} {a b : Int32} : am_ev 123 43 ls (.int b :: .int a :: st) h = if b ≤ a then am_ev 123 74 ls st h else am_ev 123 46 ls st h := am_u_if2 (c := .ge) (off := 31) am_my_123 (by decide +kernel) (by decide)
theorem e123_46 {ls : List (Option Value)} {st : List Value} {h : am_H} {a : Nat} : am_ev 123 46 (some (.ref a) :: ls) (st) h = am_ev 123 47 (some (.ref a) :: ls) (.ref a :: st) h := am_ev_step (q := (47, some (.ref a) :: ls, .ref a :: st, h)) _ (.aload_n 0) 1 am_my_123 (by decide +kernel) rfl
theorem e123_47 {ls : List (Option Value)} {st : List Value} {h : am_H} {o : Nat} (hk : am_kd h o = some (.inl 10)) : am_ev 123 47 ls (.ref o :: st) h = am_ev 123 50 ls (va_rf (h.2.2.1 o 4) :: st) h := am_u_gfR (idx := 34) (wn := 2150) (a := 0) am_my_123 (by decide +kernel) (by decide +kernel) (by decide +kernel) hk
theorem e123_50 {ls : List (Option Value)} {st : List Value} {h : am_H} {l0 l1 l2 : Option Value} {a : Nat} : am_ev 123 50 (l0 :: l1 :: l2 :: some (.ref a) :: ls) (st) h = am_ev 123 51 (l0 :: l1 :: l2 :: some (.ref a) :: ls) (.ref a :: st) h := am_ev_step (q := (51, l0 :: l1 :: l2 :: some (.ref a) :: ls, .ref a :: st, h)) _ (.aload_n 3) 1 am_my_123 (by decide +kernel) rfl
theorem e123_51 {ls : List (Option Value)} {st : List Value} {h : am_H} {l0 l1 l2 : Option Value} {a : Nat} : am_ev 123 51 (l0 :: l1 :: l2 :: some (.ref a) :: ls) (st) h = am_ev 123 52 (l0 :: l1 :: l2 :: some (.ref a) :: ls) (.ref a :: st) h := am_ev_step (q := (52, l0 :: l1 :: l2 :: some (.ref a) :: ls, .ref a :: st, h)) _ (.aload_n 3) 1 am_my_123 (by decide +kernel) rfl
theorem e123_52 {ls : List (Option Value)} {st : List Value} {h : am_H} {o : Nat} (hk : am_kd h o = some (.inl 2)) : am_ev 123 52 ls (.ref o :: st) h = am_ev 123 55 ls (.int (h.1 o 0) :: st) h := am_u_gfI (idx := 246) (wn := 1106) am_my_123 (by decide +kernel) (by decide +kernel) (by decide +kernel) hk
theorem e123_55 {ls : List (Option Value)} {st : List Value} {h : am_H} {p0 : Nat} {p1 : Int32} {o : Nat} (hw : am_w8 st ≤ 8) (hk : am_kd h o = some (.inl 4)) : am_ev 123 55 ls (.int p1 :: .ref p0 :: .ref o :: st) h = am_bd (am_den 115 [.ref o, .ref p0, .int p1] h) (fun v h1 => am_ev 123 58 ls (v.toList ++ st) h1) := am_u_cV (idx := 241) (wn := 4159) (as := [.ref p0, .int p1]) am_my_123 (by decide +kernel) (Or.inl (by decide +kernel)) am_my_115 (by decide +kernel) rfl ⟨Nat.le_of_ble_eq_true rfl, rfl⟩ (by decide +kernel) hw hk
theorem e123_58 {ls : List (Option Value)} {st : List Value} {h : am_H} {l0 l1 l2 : Option Value} {a : Nat} : am_ev 123 58 (l0 :: l1 :: l2 :: some (.ref a) :: ls) (st) h = am_ev 123 59 (l0 :: l1 :: l2 :: some (.ref a) :: ls) (.ref a :: st) h := am_ev_step (q := (59, l0 :: l1 :: l2 :: some (.ref a) :: ls, .ref a :: st, h)) _ (.aload_n 3) 1 am_my_123 (by decide +kernel) rfl
theorem e123_59 {ls : List (Option Value)} {st : List Value} {h : am_H} {o : Nat} (hk : am_kd h o = some (.inl 2)) : am_ev 123 59 ls (.ref o :: st) h = am_ev 123 62 ls (.int (h.1 o 0) :: st) h := am_u_gfI (idx := 246) (wn := 1106) am_my_123 (by decide +kernel) (by decide +kernel) (by decide +kernel) hk
theorem e123_62 {ls : List (Option Value)} {st : List Value} {h : am_H} {a b : Int32} : am_ev 123 62 ls (.int b :: .int a :: st) h = if b ≤ a then am_ev 123 68 ls st h else am_ev 123 65 ls st h := am_u_if2 (c := .ge) (off := 6) am_my_123 (by decide +kernel) (by decide)
theorem e123_65 {ls : List (Option Value)} {st : List Value} {h : am_H} {l0 l1 l2 l3 : Option Value} {a : Int32} : am_ev 123 65 (l0 :: l1 :: l2 :: l3 :: some (.int a) :: ls) (st) h = am_ev 123 67 (l0 :: l1 :: l2 :: l3 :: some (.int a) :: ls) (.int a :: st) h := am_ev_step (q := (67, l0 :: l1 :: l2 :: l3 :: some (.int a) :: ls, .int a :: st, h)) _ (.iload 4) 2 am_my_123 (by decide +kernel) rfl
theorem e123_67 {ls : List (Option Value)} {h : am_H} {v : Int32} : am_ev 123 67 ls [.int v] h = some (some (.int v), h) := am_u_rtI am_my_123 (by decide +kernel) rfl
theorem e123_68 {ls : List (Option Value)} {st : List Value} {h : am_H} {l0 l1 l2 l3 : Option Value} {a : Int32} : am_ev 123 68 (l0 :: l1 :: l2 :: l3 :: some (.int a) :: ls) (st) h = am_ev 123 71 (l0 :: l1 :: l2 :: l3 :: some (.int (a + (1))) :: ls) (st) h := am_ev_step (q := (71, l0 :: l1 :: l2 :: l3 :: some (.int (a + (1))) :: ls, st, h)) _ (.iinc 4 (1)) 3 am_my_123 (by decide +kernel) rfl
theorem e123_71 {ls : List (Option Value)} {st : List Value} {h : am_H} : am_ev 123 71 (ls) (st) h = am_ev 123 40 (ls) (st) h := am_ev_step (q := (40, ls, st, h)) _ (.goto (-31)) 3 am_my_123 (by decide +kernel) rfl
theorem e123_74 {ls : List (Option Value)} {st : List Value} {h : am_H} : am_ev 123 74 (ls) (st) h = am_ev 123 75 (ls) (.int (3) :: st) h := am_ev_step (q := (75, ls, .int (3) :: st, h)) _ (.iconst (3)) 1 am_my_123 (by decide +kernel) rfl
theorem e123_75 {ls : List (Option Value)} {h : am_H} {v : Int32} : am_ev 123 75 ls [.int v] h = some (some (.int v), h) := am_u_rtI am_my_123 (by decide +kernel) rfl
theorem e286_0 {ls : List (Option Value)} {st : List Value} {h : am_H} {a : Nat} : am_ev 286 0 (some (.ref a) :: ls) (st) h = am_ev 286 1 (some (.ref a) :: ls) (.ref a :: st) h := am_ev_step (q := (1, some (.ref a) :: ls, .ref a :: st, h)) _ (.aload_n 0) 1 am_my_286 (by decide +kernel) rfl
theorem e286_1 {ls : List (Option Value)} {st : List Value} {h : am_H} : am_ev 286 1 (ls) (st) h = am_ev 286 2 (ls) (.int (0) :: st) h := am_ev_step (q := (2, ls, .int (0) :: st, h)) _ (.iconst (0)) 1 am_my_286 (by decide +kernel) rfl
theorem e286_2 {ls : List (Option Value)} {st : List Value} {h : am_H} {o : Nat} {v : Int32} (hk : am_kd h o = some (.inl 11)) : am_ev 286 2 ls (.int v :: .ref o :: st) h = am_ev 286 5 ls st (am_sI h o 0 v) := am_u_pfI (idx := 87) (wn := 5132) am_my_286 (by decide +kernel) (by decide +kernel) (by decide +kernel) (by decide +kernel) hk
theorem e286_5 {ls : List (Option Value)} {st : List Value} {h : am_H} {a : Nat} : am_ev 286 5 (some (.ref a) :: ls) (st) h = am_ev 286 6 (some (.ref a) :: ls) (.ref a :: st) h := am_ev_step (q := (6, some (.ref a) :: ls, .ref a :: st, h)) _ (.aload_n 0) 1 am_my_286 (by decide +kernel) rfl
theorem e286_6 {ls : List (Option Value)} {st : List Value} {h : am_H} {l0 : Option Value} {a : Int32} : am_ev 286 6 (l0 :: some (.int a) :: ls) (st) h = am_ev 286 7 (l0 :: some (.int a) :: ls) (.int a :: st) h := am_ev_step (q := (7, l0 :: some (.int a) :: ls, .int a :: st, h)) _ (.iload_n 1) 1 am_my_286 (by decide +kernel) rfl
theorem e286_7 {ls : List (Option Value)} {st : List Value} {h : am_H} {l0 l1 : Option Value} {a : Int32} : am_ev 286 7 (l0 :: l1 :: some (.int a) :: ls) (st) h = am_ev 286 8 (l0 :: l1 :: some (.int a) :: ls) (.int a :: st) h := am_ev_step (q := (8, l0 :: l1 :: some (.int a) :: ls, .int a :: st, h)) _ (.iload_n 2) 1 am_my_286 (by decide +kernel) rfl
theorem e286_8 {ls : List (Option Value)} {st : List Value} {h : am_H} {p0 : Int32} {p1 : Int32} {o : Nat} (hw : am_w8 st ≤ 8) (hk : am_kd h o = some (.inl 11)) : am_ev 286 8 ls (.int p1 :: .int p0 :: .ref o :: st) h = am_bd (am_den 209 [.ref o, .int p0, .int p1] h) (fun v h1 => am_ev 286 11 ls (v.toList ++ st) h1) := am_u_cV (idx := 373) (wn := 7022) (as := [.int p0, .int p1]) am_my_286 (by decide +kernel) (Or.inl (by decide +kernel)) am_my_209 (by decide +kernel) rfl ⟨Nat.le_of_ble_eq_true rfl, rfl⟩ (by decide +kernel) hw hk
theorem e286_11 {ls : List (Option Value)} {st : List Value} {h : am_H} {a : Int32} : am_ev 286 11 ls (.int a :: st) h = if ¬ a = 0 then am_ev 286 16 ls st h else am_ev 286 14 ls st h := am_u_if1 (c := .ne) (off := 5) am_my_286 (by decide +kernel) (by decide)
theorem e286_14 {ls : List (Option Value)} {st : List Value} {h : am_H} : am_ev 286 14 (ls) (st) h = am_ev 286 15 (ls) (.int (-1) :: st) h := am_ev_step (q := (15, ls, .int (-1) :: st, h)) _ (.iconst (-1)) 1 am_my_286 (by decide +kernel) rfl
theorem e286_15 {ls : List (Option Value)} {h : am_H} {v : Int32} : am_ev 286 15 ls [.int v] h = some (some (.int v), h) := am_u_rtI am_my_286 (by decide +kernel) rfl
theorem e286_16 {ls : List (Option Value)} {st : List Value} {h : am_H} : am_ev 286 16 (ls) (st) h = am_ev 286 17 (ls) (.int (0) :: st) h := am_ev_step (q := (17, ls, .int (0) :: st, h)) _ (.iconst (0)) 1 am_my_286 (by decide +kernel) rfl
theorem e286_17 {ls : List (Option Value)} {st : List Value} {h : am_H} {l0 l1 l2 : Option Value} {z : Option Value} {a : Int32} : am_ev 286 17 (l0 :: l1 :: l2 :: z :: ls) (.int a :: st) h = am_ev 286 18 (l0 :: l1 :: l2 :: some (.int a) :: ls) (st) h := am_ev_step (q := (18, l0 :: l1 :: l2 :: some (.int a) :: ls, st, h)) _ (.istore_n 3) 1 am_my_286 (by decide +kernel) rfl
theorem e286_18 {ls : List (Option Value)} {st : List Value} {h : am_H} {l0 l1 l2 : Option Value} {a : Int32} : am_ev 286 18 (l0 :: l1 :: l2 :: some (.int a) :: ls) (st) h = am_ev 286 19 (l0 :: l1 :: l2 :: some (.int a) :: ls) (.int a :: st) h := am_ev_step (q := (19, l0 :: l1 :: l2 :: some (.int a) :: ls, .int a :: st, h)) _ (.iload_n 3) 1 am_my_286 (by decide +kernel) rfl
theorem e286_19 {ls : List (Option Value)} {st : List Value} {h : am_H} : am_ev 286 19 (ls) (st) h = am_ev 286 20 (ls) (.int (3) :: st) h := am_ev_step (q := (20, ls, .int (3) :: st, h)) _ (.iconst (3)) 1 am_my_286 (by decide +kernel) rfl
theorem e286_20 {ls : List (Option Value)} {st : List Value} {h : am_H} {a b : Int32} : am_ev 286 20 ls (.int b :: .int a :: st) h = if b ≤ a then am_ev 286 44 ls st h else am_ev 286 23 ls st h := am_u_if2 (c := .ge) (off := 24) am_my_286 (by decide +kernel) (by decide)
theorem e286_23 {ls : List (Option Value)} {st : List Value} {h : am_H} {a : Nat} : am_ev 286 23 (some (.ref a) :: ls) (st) h = am_ev 286 24 (some (.ref a) :: ls) (.ref a :: st) h := am_ev_step (q := (24, some (.ref a) :: ls, .ref a :: st, h)) _ (.aload_n 0) 1 am_my_286 (by decide +kernel) rfl
theorem e286_24 {ls : List (Option Value)} {st : List Value} {h : am_H} {a : Nat} : am_ev 286 24 (some (.ref a) :: ls) (st) h = am_ev 286 25 (some (.ref a) :: ls) (.ref a :: st) h := am_ev_step (q := (25, some (.ref a) :: ls, .ref a :: st, h)) _ (.aload_n 0) 1 am_my_286 (by decide +kernel) rfl
theorem e286_25 {ls : List (Option Value)} {st : List Value} {h : am_H}  {o : Nat} (hw : am_w8 st ≤ 8) (hk : am_kd h o = some (.inl 11)) : am_ev 286 25 ls (.ref o :: st) h = am_bd (am_den 206 [.ref o] h) (fun v h1 => am_ev 286 28 ls (v.toList ++ st) h1) := am_u_cV (idx := 351) (wn := 7010) (as := []) am_my_286 (by decide +kernel) (Or.inl (by decide +kernel)) am_my_206 (by decide +kernel) rfl ⟨Nat.le_of_ble_eq_true rfl, rfl⟩ (by decide +kernel) hw hk
theorem e286_28 {ls : List (Option Value)} {st : List Value} {h : am_H} {p0 : Int32} {o : Nat} (hw : am_w8 st ≤ 8) (hk : am_kd h o = some (.inl 11)) : am_ev 286 28 ls (.int p0 :: .ref o :: st) h = am_bd (am_den 210 [.ref o, .int p0] h) (fun v h1 => am_ev 286 31 ls (v.toList ++ st) h1) := am_u_cV (idx := 376) (wn := 7026) (as := [.int p0]) am_my_286 (by decide +kernel) (Or.inl (by decide +kernel)) am_my_210 (by decide +kernel) rfl ⟨Nat.le_of_ble_eq_true rfl, rfl⟩ (by decide +kernel) hw hk
theorem e286_31 {ls : List (Option Value)} {st : List Value} {h : am_H} {a : Nat} : am_ev 286 31 (some (.ref a) :: ls) (st) h = am_ev 286 32 (some (.ref a) :: ls) (.ref a :: st) h := am_ev_step (q := (32, some (.ref a) :: ls, .ref a :: st, h)) _ (.aload_n 0) 1 am_my_286 (by decide +kernel) rfl
theorem e286_32 {ls : List (Option Value)} {st : List Value} {h : am_H}  {o : Nat} (hw : am_w8 st ≤ 8) (hk : am_kd h o = some (.inl 11)) : am_ev 286 32 ls (.ref o :: st) h = am_bd (am_den 206 [.ref o] h) (fun v h1 => am_ev 286 35 ls (v.toList ++ st) h1) := am_u_cV (idx := 351) (wn := 7010) (as := []) am_my_286 (by decide +kernel) (Or.inl (by decide +kernel)) am_my_206 (by decide +kernel) rfl ⟨Nat.le_of_ble_eq_true rfl, rfl⟩ (by decide +kernel) hw hk
theorem e286_35 {ls : List (Option Value)} {st : List Value} {h : am_H} {a b : Int32} : am_ev 286 35 ls (.int b :: .int a :: st) h = if ¬ a = b then am_ev 286 44 ls st h else am_ev 286 38 ls st h := am_u_if2 (c := .ne) (off := 9) am_my_286 (by decide +kernel) (by decide)
theorem e286_38 {ls : List (Option Value)} {st : List Value} {h : am_H} {l0 l1 l2 : Option Value} {a : Int32} : am_ev 286 38 (l0 :: l1 :: l2 :: some (.int a) :: ls) (st) h = am_ev 286 41 (l0 :: l1 :: l2 :: some (.int (a + (1))) :: ls) (st) h := am_ev_step (q := (41, l0 :: l1 :: l2 :: some (.int (a + (1))) :: ls, st, h)) _ (.iinc 3 (1)) 3 am_my_286 (by decide +kernel) rfl
theorem e286_41 {ls : List (Option Value)} {st : List Value} {h : am_H} : am_ev 286 41 (ls) (st) h = am_ev 286 18 (ls) (st) h := am_ev_step (q := (18, ls, st, h)) _ (.goto (-23)) 3 am_my_286 (by decide +kernel) rfl
theorem e286_44 {ls : List (Option Value)} {st : List Value} {h : am_H} {l0 l1 l2 : Option Value} {a : Int32} : am_ev 286 44 (l0 :: l1 :: l2 :: some (.int a) :: ls) (st) h = am_ev 286 45 (l0 :: l1 :: l2 :: some (.int a) :: ls) (.int a :: st) h := am_ev_step (q := (45, l0 :: l1 :: l2 :: some (.int a) :: ls, .int a :: st, h)) _ (.iload_n 3) 1 am_my_286 (by decide +kernel) rfl
theorem e286_45 {ls : List (Option Value)} {h : am_H} {v : Int32} : am_ev 286 45 ls [.int v] h = some (some (.int v), h) := am_u_rtI am_my_286 (by decide +kernel) rfl
theorem e120_0 {ls : List (Option Value)} {st : List Value} {h : am_H} {a : Nat} : am_ev 120 0 (some (.ref a) :: ls) (st) h = am_ev 120 1 (some (.ref a) :: ls) (.ref a :: st) h := am_ev_step (q := (1, some (.ref a) :: ls, .ref a :: st, h)) _ (.aload_n 0) 1 am_my_120 (by decide +kernel) rfl
theorem e120_1 {ls : List (Option Value)} {st : List Value} {h : am_H} {l0 : Option Value} {a : Int32} : am_ev 120 1 (l0 :: some (.int a) :: ls) (st) h = am_ev 120 2 (l0 :: some (.int a) :: ls) (.int a :: st) h := am_ev_step (q := (2, l0 :: some (.int a) :: ls, .int a :: st, h)) _ (.iload_n 1) 1 am_my_120 (by decide +kernel) rfl
theorem e120_2 {ls : List (Option Value)} {st : List Value} {h : am_H} {l0 l1 : Option Value} {a : Int32} : am_ev 120 2 (l0 :: l1 :: some (.int a) :: ls) (st) h = am_ev 120 3 (l0 :: l1 :: some (.int a) :: ls) (.int a :: st) h := am_ev_step (q := (3, l0 :: l1 :: some (.int a) :: ls, .int a :: st, h)) _ (.iload_n 2) 1 am_my_120 (by decide +kernel) rfl
theorem e120_3 {ls : List (Option Value)} {st : List Value} {h : am_H} {p0 : Int32} {p1 : Int32} {o : Nat} (hw : am_w8 st ≤ 8) (hk : am_kd h o = some (.inl 10)) : am_ev 120 3 ls (.int p1 :: .int p0 :: .ref o :: st) h = am_bd (am_den 114 [.ref o, .int p0, .int p1] h) (fun v h1 => am_ev 120 6 ls (v.toList ++ st) h1) := am_u_cV (idx := 238) (wn := 4155) (as := [.int p0, .int p1]) am_my_120 (by decide +kernel) (Or.inl (by decide +kernel)) am_my_114 (by decide +kernel) rfl ⟨Nat.le_of_ble_eq_true rfl, rfl⟩ (by decide +kernel) hw hk
theorem e120_6 {ls : List (Option Value)} {st : List Value} {h : am_H} {a : Int32} : am_ev 120 6 ls (.int a :: st) h = if a = 0 then am_ev 120 18 ls st h else am_ev 120 9 ls st h := am_u_if1 (c := .eq) (off := 12) am_my_120 (by decide +kernel) (by decide)
theorem e120_9 {ls : List (Option Value)} {st : List Value} {h : am_H} {a : Nat} : am_ev 120 9 (some (.ref a) :: ls) (st) h = am_ev 120 10 (some (.ref a) :: ls) (.ref a :: st) h := am_ev_step (q := (10, some (.ref a) :: ls, .ref a :: st, h)) _ (.aload_n 0) 1 am_my_120 (by decide +kernel) rfl
theorem e120_10 {ls : List (Option Value)} {st : List Value} {h : am_H} {l0 : Option Value} {a : Int32} : am_ev 120 10 (l0 :: some (.int a) :: ls) (st) h = am_ev 120 11 (l0 :: some (.int a) :: ls) (.int a :: st) h := am_ev_step (q := (11, l0 :: some (.int a) :: ls, .int a :: st, h)) _ (.iload_n 1) 1 am_my_120 (by decide +kernel) rfl
theorem e120_11 {ls : List (Option Value)} {st : List Value} {h : am_H} {l0 l1 l2 : Option Value} {a : Int32} : am_ev 120 11 (l0 :: l1 :: l2 :: some (.int a) :: ls) (st) h = am_ev 120 12 (l0 :: l1 :: l2 :: some (.int a) :: ls) (.int a :: st) h := am_ev_step (q := (12, l0 :: l1 :: l2 :: some (.int a) :: ls, .int a :: st, h)) _ (.iload_n 3) 1 am_my_120 (by decide +kernel) rfl
theorem e120_12 {ls : List (Option Value)} {st : List Value} {h : am_H} {p0 : Int32} {p1 : Int32} {o : Nat} (hw : am_w8 st ≤ 8) (hk : am_kd h o = some (.inl 10)) : am_ev 120 12 ls (.int p1 :: .int p0 :: .ref o :: st) h = am_bd (am_den 71 [.ref o, .int p0, .int p1] h) (fun v h1 => am_ev 120 15 ls (v.toList ++ st) h1) := am_u_cV (idx := 127) (wn := 3206) (as := [.int p0, .int p1]) am_my_120 (by decide +kernel) (Or.inl (by decide +kernel)) am_my_71 (by decide +kernel) rfl ⟨Nat.le_of_ble_eq_true rfl, rfl⟩ (by decide +kernel) hw hk
theorem e120_15 {ls : List (Option Value)} {st : List Value} {h : am_H} {a : Int32} : am_ev 120 15 ls (.int a :: st) h = if ¬ a = 0 then am_ev 120 20 ls st h else am_ev 120 18 ls st h := am_u_if1 (c := .ne) (off := 5) am_my_120 (by decide +kernel) (by decide)
theorem e120_18 {ls : List (Option Value)} {st : List Value} {h : am_H} : am_ev 120 18 (ls) (st) h = am_ev 120 19 (ls) (.int (-1) :: st) h := am_ev_step (q := (19, ls, .int (-1) :: st, h)) _ (.iconst (-1)) 1 am_my_120 (by decide +kernel) rfl
theorem e120_19 {ls : List (Option Value)} {h : am_H} {v : Int32} : am_ev 120 19 ls [.int v] h = some (some (.int v), h) := am_u_rtI am_my_120 (by decide +kernel) rfl
theorem e120_20 {ls : List (Option Value)} {st : List Value} {h : am_H} {a : Nat} : am_ev 120 20 (some (.ref a) :: ls) (st) h = am_ev 120 21 (some (.ref a) :: ls) (.ref a :: st) h := am_ev_step (q := (21, some (.ref a) :: ls, .ref a :: st, h)) _ (.aload_n 0) 1 am_my_120 (by decide +kernel) rfl
theorem e120_21 {ls : List (Option Value)} {st : List Value} {h : am_H} {o : Nat} (hk : am_kd h o = some (.inl 10)) : am_ev 120 21 ls (.ref o :: st) h = am_ev 120 24 ls (va_rf (h.2.2.1 o 0) :: st) h := am_u_gfR (idx := 10) (wn := 2146) (a := 0) am_my_120 (by decide +kernel) (by decide +kernel) (by decide +kernel) hk
theorem e120_24 {ls : List (Option Value)} {st : List Value} {h : am_H} {o : Nat} (hk : am_kd h o = some (.inl 8)) : am_ev 120 24 ls (.ref o :: st) h = am_ev 120 27 ls (va_rf (h.2.2.1 o 6) :: st) h := am_u_gfR (idx := 230) (wn := 1193) (a := 0) am_my_120 (by decide +kernel) (by decide +kernel) (by decide +kernel) hk
theorem e120_27 {ls : List (Option Value)} {st : List Value} {h : am_H} {l0 l1 : Option Value} {a : Int32} : am_ev 120 27 (l0 :: l1 :: some (.int a) :: ls) (st) h = am_ev 120 28 (l0 :: l1 :: some (.int a) :: ls) (.int a :: st) h := am_ev_step (q := (28, l0 :: l1 :: some (.int a) :: ls, .int a :: st, h)) _ (.iload_n 2) 1 am_my_120 (by decide +kernel) rfl
theorem e120_28f {ls : List (Option Value)} {st : List Value} {h : am_H} {i : Int32} {a : Nat} (ht : am_tc h a = some 4) : am_ev 120 28 ls (.int i :: .ref a :: st) h = if am_ix i (am_len h a) = true then am_ev 120 29 ls (va_rf (h.2.2.1 a i.toNatClampNeg) :: st) h else none := am_u_rA am_my_120 (by decide +kernel) ht (by decide)
theorem e120_28d {ls : List (Option Value)} {st : List Value} {h : am_H} {i : Int32} {a : Nat} (ht : am_tc h a = some 5) : am_ev 120 28 ls (.int i :: .ref a :: st) h = if am_ix i (am_len h a) = true then am_ev 120 29 ls (va_rf (h.2.2.1 a i.toNatClampNeg) :: st) h else none := am_u_rA am_my_120 (by decide +kernel) ht (by decide)
theorem e120_28b {ls : List (Option Value)} {st : List Value} {h : am_H} {i : Int32} {a : Nat} (ht : am_tc h a = some 6) : am_ev 120 28 ls (.int i :: .ref a :: st) h = if am_ix i (am_len h a) = true then am_ev 120 29 ls (va_rf (h.2.2.1 a i.toNatClampNeg) :: st) h else none := am_u_rA am_my_120 (by decide +kernel) ht (by decide)
theorem e120_28l {ls : List (Option Value)} {st : List Value} {h : am_H} {i : Int32} {a : Nat} (ht : am_tc h a = some 7) : am_ev 120 28 ls (.int i :: .ref a :: st) h = if am_ix i (am_len h a) = true then am_ev 120 29 ls (va_rf (h.2.2.1 a i.toNatClampNeg) :: st) h else none := am_u_rA am_my_120 (by decide +kernel) ht (by decide)
theorem e120_28t {ls : List (Option Value)} {st : List Value} {h : am_H} {i : Int32} {a : Nat} (ht : am_tc h a = some 8) : am_ev 120 28 ls (.int i :: .ref a :: st) h = if am_ix i (am_len h a) = true then am_ev 120 29 ls (va_rf (h.2.2.1 a i.toNatClampNeg) :: st) h else none := am_u_rA am_my_120 (by decide +kernel) ht (by decide)
theorem e120_29 {ls : List (Option Value)} {st : List Value} {h : am_H} {l0 l1 l2 l3 : Option Value} {z : Option Value} {a : Nat} : am_ev 120 29 (l0 :: l1 :: l2 :: l3 :: z :: ls) (.ref a :: st) h = am_ev 120 31 (l0 :: l1 :: l2 :: l3 :: some (.ref a) :: ls) (st) h := am_ev_step (q := (31, l0 :: l1 :: l2 :: l3 :: some (.ref a) :: ls, st, h)) _ (.astore 4) 2 am_my_120 (by decide +kernel) rfl
theorem e120_31 {ls : List (Option Value)} {st : List Value} {h : am_H} {a : Nat} : am_ev 120 31 (some (.ref a) :: ls) (st) h = am_ev 120 32 (some (.ref a) :: ls) (.ref a :: st) h := am_ev_step (q := (32, some (.ref a) :: ls, .ref a :: st, h)) _ (.aload_n 0) 1 am_my_120 (by decide +kernel) rfl
theorem e120_32 {ls : List (Option Value)} {st : List Value} {h : am_H} {o : Nat} (hk : am_kd h o = some (.inl 10)) : am_ev 120 32 ls (.ref o :: st) h = am_ev 120 35 ls (va_rf (h.2.2.1 o 4) :: st) h := am_u_gfR (idx := 34) (wn := 2150) (a := 0) am_my_120 (by decide +kernel) (by decide +kernel) (by decide +kernel) hk
theorem e120_35 {ls : List (Option Value)} {st : List Value} {h : am_H} {a : Nat} : am_ev 120 35 (some (.ref a) :: ls) (st) h = am_ev 120 36 (some (.ref a) :: ls) (.ref a :: st) h := am_ev_step (q := (36, some (.ref a) :: ls, .ref a :: st, h)) _ (.aload_n 0) 1 am_my_120 (by decide +kernel) rfl
theorem e120_36 {ls : List (Option Value)} {st : List Value} {h : am_H} {o : Nat} (hk : am_kd h o = some (.inl 10)) : am_ev 120 36 ls (.ref o :: st) h = am_ev 120 39 ls (va_rf (h.2.2.1 o 0) :: st) h := am_u_gfR (idx := 10) (wn := 2146) (a := 0) am_my_120 (by decide +kernel) (by decide +kernel) (by decide +kernel) hk
theorem e120_39 {ls : List (Option Value)} {st : List Value} {h : am_H} {o : Nat} (hk : am_kd h o = some (.inl 8)) : am_ev 120 39 ls (.ref o :: st) h = am_ev 120 42 ls (va_rf (h.2.2.1 o 5) :: st) h := am_u_gfR (idx := 116) (wn := 1191) (a := 0) am_my_120 (by decide +kernel) (by decide +kernel) (by decide +kernel) hk
theorem e120_42 {ls : List (Option Value)} {st : List Value} {h : am_H} {l0 : Option Value} {a : Int32} : am_ev 120 42 (l0 :: some (.int a) :: ls) (st) h = am_ev 120 43 (l0 :: some (.int a) :: ls) (.int a :: st) h := am_ev_step (q := (43, l0 :: some (.int a) :: ls, .int a :: st, h)) _ (.iload_n 1) 1 am_my_120 (by decide +kernel) rfl
theorem e120_43f {ls : List (Option Value)} {st : List Value} {h : am_H} {i : Int32} {a : Nat} (ht : am_tc h a = some 4) : am_ev 120 43 ls (.int i :: .ref a :: st) h = if am_ix i (am_len h a) = true then am_ev 120 44 ls (va_rf (h.2.2.1 a i.toNatClampNeg) :: st) h else none := am_u_rA am_my_120 (by decide +kernel) ht (by decide)
theorem e120_43d {ls : List (Option Value)} {st : List Value} {h : am_H} {i : Int32} {a : Nat} (ht : am_tc h a = some 5) : am_ev 120 43 ls (.int i :: .ref a :: st) h = if am_ix i (am_len h a) = true then am_ev 120 44 ls (va_rf (h.2.2.1 a i.toNatClampNeg) :: st) h else none := am_u_rA am_my_120 (by decide +kernel) ht (by decide)
theorem e120_43b {ls : List (Option Value)} {st : List Value} {h : am_H} {i : Int32} {a : Nat} (ht : am_tc h a = some 6) : am_ev 120 43 ls (.int i :: .ref a :: st) h = if am_ix i (am_len h a) = true then am_ev 120 44 ls (va_rf (h.2.2.1 a i.toNatClampNeg) :: st) h else none := am_u_rA am_my_120 (by decide +kernel) ht (by decide)
theorem e120_43l {ls : List (Option Value)} {st : List Value} {h : am_H} {i : Int32} {a : Nat} (ht : am_tc h a = some 7) : am_ev 120 43 ls (.int i :: .ref a :: st) h = if am_ix i (am_len h a) = true then am_ev 120 44 ls (va_rf (h.2.2.1 a i.toNatClampNeg) :: st) h else none := am_u_rA am_my_120 (by decide +kernel) ht (by decide)
theorem e120_43t {ls : List (Option Value)} {st : List Value} {h : am_H} {i : Int32} {a : Nat} (ht : am_tc h a = some 8) : am_ev 120 43 ls (.int i :: .ref a :: st) h = if am_ix i (am_len h a) = true then am_ev 120 44 ls (va_rf (h.2.2.1 a i.toNatClampNeg) :: st) h else none := am_u_rA am_my_120 (by decide +kernel) ht (by decide)
theorem e120_44 {ls : List (Option Value)} {st : List Value} {h : am_H} {p0 : Nat} {o : Nat} (hw : am_w8 st ≤ 8) (hk : am_kd h o = some (.inl 4)) : am_ev 120 44 ls (.ref p0 :: .ref o :: st) h = am_bd (am_den 72 [.ref o, .ref p0] h) (fun v h1 => am_ev 120 47 ls (v.toList ++ st) h1) := am_u_cV (idx := 130) (wn := 3210) (as := [.ref p0]) am_my_120 (by decide +kernel) (Or.inl (by decide +kernel)) am_my_72 (by decide +kernel) rfl ⟨Nat.le_of_ble_eq_true rfl, rfl⟩ (by decide +kernel) hw hk
theorem e120_47 {ls : List (Option Value)} {st : List Value} {h : am_H} : am_ev 120 47 (ls) (st) h = am_ev 120 48 (ls) (.int (0) :: st) h := am_ev_step (q := (48, ls, .int (0) :: st, h)) _ (.iconst (0)) 1 am_my_120 (by decide +kernel) rfl
theorem e120_48 {ls : List (Option Value)} {st : List Value} {h : am_H} {l0 l1 l2 l3 l4 : Option Value} {z : Option Value} {a : Int32} : am_ev 120 48 (l0 :: l1 :: l2 :: l3 :: l4 :: z :: ls) (.int a :: st) h = am_ev 120 50 (l0 :: l1 :: l2 :: l3 :: l4 :: some (.int a) :: ls) (st) h := am_ev_step (q := (50, l0 :: l1 :: l2 :: l3 :: l4 :: some (.int a) :: ls, st, h)) _ (.istore 5) 2 am_my_120 (by decide +kernel) rfl
theorem e120_50 {ls : List (Option Value)} {st : List Value} {h : am_H} {l0 l1 l2 l3 l4 : Option Value} {a : Int32} : am_ev 120 50 (l0 :: l1 :: l2 :: l3 :: l4 :: some (.int a) :: ls) (st) h = am_ev 120 52 (l0 :: l1 :: l2 :: l3 :: l4 :: some (.int a) :: ls) (.int a :: st) h := am_ev_step (q := (52, l0 :: l1 :: l2 :: l3 :: l4 :: some (.int a) :: ls, .int a :: st, h)) _ (.iload 5) 2 am_my_120 (by decide +kernel) rfl
theorem e120_52 {ls : List (Option Value)} {st : List Value} {h : am_H} {l0 l1 l2 l3 : Option Value} {a : Nat} : am_ev 120 52 (l0 :: l1 :: l2 :: l3 :: some (.ref a) :: ls) (st) h = am_ev 120 54 (l0 :: l1 :: l2 :: l3 :: some (.ref a) :: ls) (.ref a :: st) h := am_ev_step (q := (54, l0 :: l1 :: l2 :: l3 :: some (.ref a) :: ls, .ref a :: st, h)) _ (.aload 4) 2 am_my_120 (by decide +kernel) rfl
theorem e120_54 {ls : List (Option Value)} {st : List Value} {h : am_H} {o : Nat} (hk : am_kd h o = some (.inl 2)) : am_ev 120 54 ls (.ref o :: st) h = am_ev 120 57 ls (.int (h.1 o 0) :: st) h := am_u_gfI (idx := 246) (wn := 1106) am_my_120 (by decide +kernel) (by decide +kernel) (by decide +kernel) hk
theorem e120_57 {ls : List (Option Value)} {st : List Value} {h : am_H} {a b : Int32} : am_ev 120 57 ls (.int b :: .int a :: st) h = if b ≤ a then am_ev 120 102 ls st h else am_ev 120 60 ls st h := am_u_if2 (c := .ge) (off := 45) am_my_120 (by decide +kernel) (by decide)
theorem e120_60 {ls : List (Option Value)} {st : List Value} {h : am_H} {a : Nat} : am_ev 120 60 (some (.ref a) :: ls) (st) h = am_ev 120 61 (some (.ref a) :: ls) (.ref a :: st) h := am_ev_step (q := (61, some (.ref a) :: ls, .ref a :: st, h)) _ (.aload_n 0) 1 am_my_120 (by decide +kernel) rfl
theorem e120_61 {ls : List (Option Value)} {st : List Value} {h : am_H} {o : Nat} (hk : am_kd h o = some (.inl 10)) : am_ev 120 61 ls (.ref o :: st) h = am_ev 120 64 ls (va_rf (h.2.2.1 o 4) :: st) h := am_u_gfR (idx := 34) (wn := 2150) (a := 0) am_my_120 (by decide +kernel) (by decide +kernel) (by decide +kernel) hk
theorem e120_64 {ls : List (Option Value)} {st : List Value} {h : am_H} {l0 l1 l2 l3 : Option Value} {a : Nat} : am_ev 120 64 (l0 :: l1 :: l2 :: l3 :: some (.ref a) :: ls) (st) h = am_ev 120 66 (l0 :: l1 :: l2 :: l3 :: some (.ref a) :: ls) (.ref a :: st) h := am_ev_step (q := (66, l0 :: l1 :: l2 :: l3 :: some (.ref a) :: ls, .ref a :: st, h)) _ (.aload 4) 2 am_my_120 (by decide +kernel) rfl
theorem e120_66 {ls : List (Option Value)} {st : List Value} {h : am_H} {o : Nat} (hk : am_kd h o = some (.inl 2)) : am_ev 120 66 ls (.ref o :: st) h = am_ev 120 69 ls (va_rf (h.2.2.1 o 1) :: st) h := am_u_gfR (idx := 249) (wn := 1109) (a := 0) am_my_120 (by decide +kernel) (by decide +kernel) (by decide +kernel) hk
theorem e120_69 {ls : List (Option Value)} {st : List Value} {h : am_H} {l0 l1 l2 l3 l4 : Option Value} {a : Int32} : am_ev 120 69 (l0 :: l1 :: l2 :: l3 :: l4 :: some (.int a) :: ls) (st) h = am_ev 120 71 (l0 :: l1 :: l2 :: l3 :: l4 :: some (.int a) :: ls) (.int a :: st) h := am_ev_step (q := (71, l0 :: l1 :: l2 :: l3 :: l4 :: some (.int a) :: ls, .int a :: st, h)) _ (.iload 5) 2 am_my_120 (by decide +kernel) rfl
theorem e120_71 {ls : List (Option Value)} {st : List Value} {h : am_H} {i : Int32} {a : Nat} (ht : am_tc h a = some 0) : am_ev 120 71 ls (.int i :: .ref a :: st) h = if am_ix i (am_len h a) = true then am_ev 120 72 ls (.int (h.1 a i.toNatClampNeg) :: st) h else none := am_u_rI am_my_120 (by decide +kernel) ht
theorem e120_72 {ls : List (Option Value)} {st : List Value} {h : am_H} {p0 : Int32} {o : Nat} (hw : am_w8 st ≤ 8) (hk : am_kd h o = some (.inl 4)) : am_ev 120 72 ls (.int p0 :: .ref o :: st) h = am_bd (am_den 108 [.ref o, .int p0] h) (fun v h1 => am_ev 120 75 ls (v.toList ++ st) h1) := am_u_cV (idx := 224) (wn := 4128) (as := [.int p0]) am_my_120 (by decide +kernel) (Or.inl (by decide +kernel)) am_my_108 (by decide +kernel) rfl ⟨Nat.le_of_ble_eq_true rfl, rfl⟩ (by decide +kernel) hw hk
theorem e120_75 {ls : List (Option Value)} {st : List Value} {h : am_H} {a : Int32} : am_ev 120 75 ls (.int a :: st) h = if ¬ a = 0 then am_ev 120 80 ls st h else am_ev 120 78 ls st h := am_u_if1 (c := .ne) (off := 5) am_my_120 (by decide +kernel) (by decide)
theorem e120_78 {ls : List (Option Value)} {st : List Value} {h : am_H} : am_ev 120 78 (ls) (st) h = am_ev 120 79 (ls) (.int (-1) :: st) h := am_ev_step (q := (79, ls, .int (-1) :: st, h)) _ (.iconst (-1)) 1 am_my_120 (by decide +kernel) rfl
theorem e120_79 {ls : List (Option Value)} {h : am_H} {v : Int32} : am_ev 120 79 ls [.int v] h = some (some (.int v), h) := am_u_rtI am_my_120 (by decide +kernel) rfl
theorem e120_80 {ls : List (Option Value)} {st : List Value} {h : am_H} {a : Nat} : am_ev 120 80 (some (.ref a) :: ls) (st) h = am_ev 120 81 (some (.ref a) :: ls) (.ref a :: st) h := am_ev_step (q := (81, some (.ref a) :: ls, .ref a :: st, h)) _ (.aload_n 0) 1 am_my_120 (by decide +kernel) rfl
theorem e120_81 {ls : List (Option Value)} {st : List Value} {h : am_H} {o : Nat} (hk : am_kd h o = some (.inl 10)) : am_ev 120 81 ls (.ref o :: st) h = am_ev 120 84 ls (va_rf (h.2.2.1 o 4) :: st) h := am_u_gfR (idx := 34) (wn := 2150) (a := 0) am_my_120 (by decide +kernel) (by decide +kernel) (by decide +kernel) hk
theorem e120_84 {ls : List (Option Value)} {st : List Value} {h : am_H} {l0 l1 l2 : Option Value} {a : Int32} : am_ev 120 84 (l0 :: l1 :: l2 :: some (.int a) :: ls) (st) h = am_ev 120 85 (l0 :: l1 :: l2 :: some (.int a) :: ls) (.int a :: st) h := am_ev_step (q := (85, l0 :: l1 :: l2 :: some (.int a) :: ls, .int a :: st, h)) _ (.iload_n 3) 1 am_my_120 (by decide +kernel) rfl
theorem e120_85 {ls : List (Option Value)} {st : List Value} {h : am_H} {p0 : Int32} {o : Nat} (hw : am_w8 st ≤ 8) (hk : am_kd h o = some (.inl 4)) : am_ev 120 85 ls (.int p0 :: .ref o :: st) h = am_bd (am_den 76 [.ref o, .int p0] h) (fun v h1 => am_ev 120 88 ls (v.toList ++ st) h1) := am_u_cV (idx := 252) (wn := 4187) (as := [.int p0]) am_my_120 (by decide +kernel) (Or.inl (by decide +kernel)) am_my_76 (by decide +kernel) rfl ⟨Nat.le_of_ble_eq_true rfl, rfl⟩ (by decide +kernel) hw hk
theorem e120_88 {ls : List (Option Value)} {st : List Value} {h : am_H} {a : Int32} : am_ev 120 88 ls (.int a :: st) h = if a = 0 then am_ev 120 96 ls st h else am_ev 120 91 ls st h := am_u_if1 (c := .eq) (off := 8) am_my_120 (by decide +kernel) (by decide)
theorem e120_91 {ls : List (Option Value)} {st : List Value} {h : am_H} {l0 l1 l2 l3 l4 : Option Value} {a : Int32} : am_ev 120 91 (l0 :: l1 :: l2 :: l3 :: l4 :: some (.int a) :: ls) (st) h = am_ev 120 93 (l0 :: l1 :: l2 :: l3 :: l4 :: some (.int a) :: ls) (.int a :: st) h := am_ev_step (q := (93, l0 :: l1 :: l2 :: l3 :: l4 :: some (.int a) :: ls, .int a :: st, h)) _ (.iload 5) 2 am_my_120 (by decide +kernel) rfl
theorem e120_93 {ls : List (Option Value)} {st : List Value} {h : am_H} : am_ev 120 93 (ls) (st) h = am_ev 120 94 (ls) (.int (1) :: st) h := am_ev_step (q := (94, ls, .int (1) :: st, h)) _ (.iconst (1)) 1 am_my_120 (by decide +kernel) rfl
theorem e120_94 {ls : List (Option Value)} {st : List Value} {h : am_H} {a b : Int32} : am_ev 120 94 (ls) (.int b :: .int a :: st) h = am_ev 120 95 (ls) (.int (a + b) :: st) h := am_ev_step (q := (95, ls, .int (a + b) :: st, h)) _ (.iadd) 1 am_my_120 (by decide +kernel) rfl
theorem e120_95 {ls : List (Option Value)} {h : am_H} {v : Int32} : am_ev 120 95 ls [.int v] h = some (some (.int v), h) := am_u_rtI am_my_120 (by decide +kernel) rfl
theorem e120_96 {ls : List (Option Value)} {st : List Value} {h : am_H} {l0 l1 l2 l3 l4 : Option Value} {a : Int32} : am_ev 120 96 (l0 :: l1 :: l2 :: l3 :: l4 :: some (.int a) :: ls) (st) h = am_ev 120 99 (l0 :: l1 :: l2 :: l3 :: l4 :: some (.int (a + (1))) :: ls) (st) h := am_ev_step (q := (99, l0 :: l1 :: l2 :: l3 :: l4 :: some (.int (a + (1))) :: ls, st, h)) _ (.iinc 5 (1)) 3 am_my_120 (by decide +kernel) rfl
theorem e120_99 {ls : List (Option Value)} {st : List Value} {h : am_H} : am_ev 120 99 (ls) (st) h = am_ev 120 50 (ls) (st) h := am_ev_step (q := (50, ls, st, h)) _ (.goto (-49)) 3 am_my_120 (by decide +kernel) rfl
theorem e120_102 {ls : List (Option Value)} {st : List Value} {h : am_H} : am_ev 120 102 (ls) (st) h = am_ev 120 103 (ls) (.int (-1) :: st) h := am_ev_step (q := (103, ls, .int (-1) :: st, h)) _ (.iconst (-1)) 1 am_my_120 (by decide +kernel) rfl
theorem e120_103 {ls : List (Option Value)} {h : am_H} {v : Int32} : am_ev 120 103 ls [.int v] h = some (some (.int v), h) := am_u_rtI am_my_120 (by decide +kernel) rfl
theorem e284_0 {ls : List (Option Value)} {st : List Value} {h : am_H} {a : Nat} : am_ev 284 0 (some (.ref a) :: ls) (st) h = am_ev 284 1 (some (.ref a) :: ls) (.ref a :: st) h := am_ev_step (q := (1, some (.ref a) :: ls, .ref a :: st, h)) _ (.aload_n 0) 1 am_my_284 (by decide +kernel) rfl
theorem e284_1 {ls : List (Option Value)} {st : List Value} {h : am_H} : am_ev 284 1 (ls) (st) h = am_ev 284 2 (ls) (.int (0) :: st) h := am_ev_step (q := (2, ls, .int (0) :: st, h)) _ (.iconst (0)) 1 am_my_284 (by decide +kernel) rfl
theorem e284_2 {ls : List (Option Value)} {st : List Value} {h : am_H} {o : Nat} {v : Int32} (hk : am_kd h o = some (.inl 11)) : am_ev 284 2 ls (.int v :: .ref o :: st) h = am_ev 284 5 ls st (am_sI h o 0 v) := am_u_pfI (idx := 87) (wn := 5132) am_my_284 (by decide +kernel) (by decide +kernel) (by decide +kernel) (by decide +kernel) hk
theorem e284_5 {ls : List (Option Value)} {st : List Value} {h : am_H} {a : Nat} : am_ev 284 5 (some (.ref a) :: ls) (st) h = am_ev 284 6 (some (.ref a) :: ls) (.ref a :: st) h := am_ev_step (q := (6, some (.ref a) :: ls, .ref a :: st, h)) _ (.aload_n 0) 1 am_my_284 (by decide +kernel) rfl
theorem e284_6 {ls : List (Option Value)} {st : List Value} {h : am_H} {l0 : Option Value} {a : Int32} : am_ev 284 6 (l0 :: some (.int a) :: ls) (st) h = am_ev 284 7 (l0 :: some (.int a) :: ls) (.int a :: st) h := am_ev_step (q := (7, l0 :: some (.int a) :: ls, .int a :: st, h)) _ (.iload_n 1) 1 am_my_284 (by decide +kernel) rfl
theorem e284_7 {ls : List (Option Value)} {st : List Value} {h : am_H} {l0 l1 : Option Value} {a : Int32} : am_ev 284 7 (l0 :: l1 :: some (.int a) :: ls) (st) h = am_ev 284 8 (l0 :: l1 :: some (.int a) :: ls) (.int a :: st) h := am_ev_step (q := (8, l0 :: l1 :: some (.int a) :: ls, .int a :: st, h)) _ (.iload_n 2) 1 am_my_284 (by decide +kernel) rfl
theorem e284_8 {ls : List (Option Value)} {st : List Value} {h : am_H} {p0 : Int32} {p1 : Int32} {o : Nat} (hw : am_w8 st ≤ 8) (hk : am_kd h o = some (.inl 11)) : am_ev 284 8 ls (.int p1 :: .int p0 :: .ref o :: st) h = am_bd (am_den 209 [.ref o, .int p0, .int p1] h) (fun v h1 => am_ev 284 11 ls (v.toList ++ st) h1) := am_u_cV (idx := 373) (wn := 7022) (as := [.int p0, .int p1]) am_my_284 (by decide +kernel) (Or.inl (by decide +kernel)) am_my_209 (by decide +kernel) rfl ⟨Nat.le_of_ble_eq_true rfl, rfl⟩ (by decide +kernel) hw hk
theorem e284_11 {ls : List (Option Value)} {st : List Value} {h : am_H} {a : Int32} : am_ev 284 11 ls (.int a :: st) h = if a = 0 then am_ev 284 22 ls st h else am_ev 284 14 ls st h := am_u_if1 (c := .eq) (off := 11) am_my_284 (by decide +kernel) (by decide)
theorem e284_14 {ls : List (Option Value)} {st : List Value} {h : am_H} {a : Nat} : am_ev 284 14 (some (.ref a) :: ls) (st) h = am_ev 284 15 (some (.ref a) :: ls) (.ref a :: st) h := am_ev_step (q := (15, some (.ref a) :: ls, .ref a :: st, h)) _ (.aload_n 0) 1 am_my_284 (by decide +kernel) rfl
theorem e284_15 {ls : List (Option Value)} {st : List Value} {h : am_H} {l0 l1 l2 : Option Value} {a : Int32} : am_ev 284 15 (l0 :: l1 :: l2 :: some (.int a) :: ls) (st) h = am_ev 284 16 (l0 :: l1 :: l2 :: some (.int a) :: ls) (.int a :: st) h := am_ev_step (q := (16, l0 :: l1 :: l2 :: some (.int a) :: ls, .int a :: st, h)) _ (.iload_n 3) 1 am_my_284 (by decide +kernel) rfl
theorem e284_16 {ls : List (Option Value)} {st : List Value} {h : am_H} {p0 : Int32} {o : Nat} (hw : am_w8 st ≤ 8) (hk : am_kd h o = some (.inl 11)) : am_ev 284 16 ls (.int p0 :: .ref o :: st) h = am_bd (am_den 203 [.ref o, .int p0] h) (fun v h1 => am_ev 284 19 ls (v.toList ++ st) h1) := am_u_cV (idx := 342) (wn := 6238) (as := [.int p0]) am_my_284 (by decide +kernel) (Or.inl (by decide +kernel)) am_my_203 (by decide +kernel) rfl ⟨Nat.le_of_ble_eq_true rfl, rfl⟩ (by decide +kernel) hw hk
theorem e284_19 {ls : List (Option Value)} {st : List Value} {h : am_H} {a : Int32} : am_ev 284 19 ls (.int a :: st) h = if ¬ a = 0 then am_ev 284 24 ls st h else am_ev 284 22 ls st h := am_u_if1 (c := .ne) (off := 5) am_my_284 (by decide +kernel) (by decide)
theorem e284_22 {ls : List (Option Value)} {st : List Value} {h : am_H} : am_ev 284 22 (ls) (st) h = am_ev 284 23 (ls) (.int (-1) :: st) h := am_ev_step (q := (23, ls, .int (-1) :: st, h)) _ (.iconst (-1)) 1 am_my_284 (by decide +kernel) rfl
theorem e284_23 {ls : List (Option Value)} {h : am_H} {v : Int32} : am_ev 284 23 ls [.int v] h = some (some (.int v), h) := am_u_rtI am_my_284 (by decide +kernel) rfl
theorem e284_24 {ls : List (Option Value)} {st : List Value} {h : am_H} : am_ev 284 24 (ls) (st) h = am_ev 284 25 (ls) (.int (0) :: st) h := am_ev_step (q := (25, ls, .int (0) :: st, h)) _ (.iconst (0)) 1 am_my_284 (by decide +kernel) rfl
theorem e284_25 {ls : List (Option Value)} {st : List Value} {h : am_H} {l0 l1 l2 l3 : Option Value} {z : Option Value} {a : Int32} : am_ev 284 25 (l0 :: l1 :: l2 :: l3 :: z :: ls) (.int a :: st) h = am_ev 284 27 (l0 :: l1 :: l2 :: l3 :: some (.int a) :: ls) (st) h := am_ev_step (q := (27, l0 :: l1 :: l2 :: l3 :: some (.int a) :: ls, st, h)) _ (.istore 4) 2 am_my_284 (by decide +kernel) rfl
theorem e284_27 {ls : List (Option Value)} {st : List Value} {h : am_H} {a : Nat} : am_ev 284 27 (some (.ref a) :: ls) (st) h = am_ev 284 28 (some (.ref a) :: ls) (.ref a :: st) h := am_ev_step (q := (28, some (.ref a) :: ls, .ref a :: st, h)) _ (.aload_n 0) 1 am_my_284 (by decide +kernel) rfl
theorem e284_28 {ls : List (Option Value)} {st : List Value} {h : am_H} {o : Nat} (hk : am_kd h o = some (.inl 11)) : am_ev 284 28 ls (.ref o :: st) h = am_ev 284 31 ls (.int (h.1 o 31) :: st) h := am_u_gfI (idx := 303) (wn := 5163) am_my_284 (by decide +kernel) (by decide +kernel) (by decide +kernel) hk
theorem e284_31 {ls : List (Option Value)} {st : List Value} {h : am_H} {l0 l1 l2 : Option Value} {a : Int32} : am_ev 284 31 (l0 :: l1 :: l2 :: some (.int a) :: ls) (st) h = am_ev 284 32 (l0 :: l1 :: l2 :: some (.int a) :: ls) (.int a :: st) h := am_ev_step (q := (32, l0 :: l1 :: l2 :: some (.int a) :: ls, .int a :: st, h)) _ (.iload_n 3) 1 am_my_284 (by decide +kernel) rfl
theorem e284_32 {ls : List (Option Value)} {st : List Value} {h : am_H} {p0 : Int32} {p1 : Int32} (hw : am_w8 st ≤ 8) : am_ev 284 32 ls (.int p1 :: .int p0 :: st) h = am_bd (am_den 195 [.int p0, .int p1] h) (fun v h1 => am_ev 284 35 ls (v.toList ++ st) h1) := am_u_cS (idx := 243) (wn := 6207) (as := [.int p0, .int p1]) am_my_284 (by decide +kernel) (by decide +kernel) am_my_195 (by decide +kernel) rfl ⟨Nat.le_of_ble_eq_true rfl, rfl⟩ hw
theorem e284_35 {ls : List (Option Value)} {st : List Value} {h : am_H} {a : Int32} : am_ev 284 35 ls (.int a :: st) h = if ¬ a = 0 then am_ev 284 76 ls st h else am_ev 284 38 ls st h := am_u_if1 (c := .ne) (off := 41) am_my_284 (by decide +kernel) (by decide)
theorem e284_38 {ls : List (Option Value)} {st : List Value} {h : am_H} {l0 l1 l2 l3 : Option Value} {a : Int32} : am_ev 284 38 (l0 :: l1 :: l2 :: l3 :: some (.int a) :: ls) (st) h = am_ev 284 40 (l0 :: l1 :: l2 :: l3 :: some (.int a) :: ls) (.int a :: st) h := am_ev_step (q := (40, l0 :: l1 :: l2 :: l3 :: some (.int a) :: ls, .int a :: st, h)) _ (.iload 4) 2 am_my_284 (by decide +kernel) rfl
theorem e284_40 {ls : List (Option Value)} {st : List Value} {h : am_H} {a : Nat} : am_ev 284 40 (some (.ref a) :: ls) (st) h = am_ev 284 41 (some (.ref a) :: ls) (.ref a :: st) h := am_ev_step (q := (41, some (.ref a) :: ls, .ref a :: st, h)) _ (.aload_n 0) 1 am_my_284 (by decide +kernel) rfl
theorem e284_41 {ls : List (Option Value)} {st : List Value} {h : am_H}  {o : Nat} (hw : am_w8 st ≤ 8) (hk : am_kd h o = some (.inl 11)) : am_ev 284 41 ls (.ref o :: st) h = am_bd (am_den 206 [.ref o] h) (fun v h1 => am_ev 284 44 ls (v.toList ++ st) h1) := am_u_cV (idx := 351) (wn := 7010) (as := []) am_my_284 (by decide +kernel) (Or.inl (by decide +kernel)) am_my_206 (by decide +kernel) rfl ⟨Nat.le_of_ble_eq_true rfl, rfl⟩ (by decide +kernel) hw hk
theorem e284_44 {ls : List (Option Value)} {st : List Value} {h : am_H} {a b : Int32} : am_ev 284 44 ls (.int b :: .int a :: st) h = if a = b then am_ev 284 68 ls st h else am_ev 284 47 ls st h := am_u_if2 (c := .eq) (off := 24) am_my_284 (by decide +kernel) (by decide)
theorem e284_47 {ls : List (Option Value)} {st : List Value} {h : am_H} {a : Nat} : am_ev 284 47 (some (.ref a) :: ls) (st) h = am_ev 284 48 (some (.ref a) :: ls) (.ref a :: st) h := am_ev_step (q := (48, some (.ref a) :: ls, .ref a :: st, h)) _ (.aload_n 0) 1 am_my_284 (by decide +kernel) rfl
theorem e284_48 {ls : List (Option Value)} {st : List Value} {h : am_H} {a : Nat} : am_ev 284 48 (some (.ref a) :: ls) (st) h = am_ev 284 49 (some (.ref a) :: ls) (.ref a :: st) h := am_ev_step (q := (49, some (.ref a) :: ls, .ref a :: st, h)) _ (.aload_n 0) 1 am_my_284 (by decide +kernel) rfl
theorem e284_49 {ls : List (Option Value)} {st : List Value} {h : am_H} {l0 l1 l2 l3 : Option Value} {a : Int32} : am_ev 284 49 (l0 :: l1 :: l2 :: l3 :: some (.int a) :: ls) (st) h = am_ev 284 51 (l0 :: l1 :: l2 :: l3 :: some (.int a) :: ls) (.int a :: st) h := am_ev_step (q := (51, l0 :: l1 :: l2 :: l3 :: some (.int a) :: ls, .int a :: st, h)) _ (.iload 4) 2 am_my_284 (by decide +kernel) rfl
theorem e284_51 {ls : List (Option Value)} {st : List Value} {h : am_H} : am_ev 284 51 (ls) (st) h = am_ev 284 52 (ls) (.int (0) :: st) h := am_ev_step (q := (52, ls, .int (0) :: st, h)) _ (.iconst (0)) 1 am_my_284 (by decide +kernel) rfl
theorem e284_52 {ls : List (Option Value)} {st : List Value} {h : am_H} {p0 : Int32} {p1 : Int32} {o : Nat} (hw : am_w8 st ≤ 8) (hk : am_kd h o = some (.inl 11)) : am_ev 284 52 ls (.int p1 :: .int p0 :: .ref o :: st) h = am_bd (am_den 207 [.ref o, .int p0, .int p1] h) (fun v h1 => am_ev 284 55 ls (v.toList ++ st) h1) := am_u_cV (idx := 354) (wn := 7014) (as := [.int p0, .int p1]) am_my_284 (by decide +kernel) (Or.inl (by decide +kernel)) am_my_207 (by decide +kernel) rfl ⟨Nat.le_of_ble_eq_true rfl, rfl⟩ (by decide +kernel) hw hk
theorem e284_55 {ls : List (Option Value)} {st : List Value} {h : am_H} {a : Nat} : am_ev 284 55 (some (.ref a) :: ls) (st) h = am_ev 284 56 (some (.ref a) :: ls) (.ref a :: st) h := am_ev_step (q := (56, some (.ref a) :: ls, .ref a :: st, h)) _ (.aload_n 0) 1 am_my_284 (by decide +kernel) rfl
theorem e284_56 {ls : List (Option Value)} {st : List Value} {h : am_H} {l0 l1 l2 l3 : Option Value} {a : Int32} : am_ev 284 56 (l0 :: l1 :: l2 :: l3 :: some (.int a) :: ls) (st) h = am_ev 284 58 (l0 :: l1 :: l2 :: l3 :: some (.int a) :: ls) (.int a :: st) h := am_ev_step (q := (58, l0 :: l1 :: l2 :: l3 :: some (.int a) :: ls, .int a :: st, h)) _ (.iload 4) 2 am_my_284 (by decide +kernel) rfl
theorem e284_58 {ls : List (Option Value)} {st : List Value} {h : am_H} : am_ev 284 58 (ls) (st) h = am_ev 284 59 (ls) (.int (1) :: st) h := am_ev_step (q := (59, ls, .int (1) :: st, h)) _ (.iconst (1)) 1 am_my_284 (by decide +kernel) rfl
theorem e284_59 {ls : List (Option Value)} {st : List Value} {h : am_H} {p0 : Int32} {p1 : Int32} {o : Nat} (hw : am_w8 st ≤ 8) (hk : am_kd h o = some (.inl 11)) : am_ev 284 59 ls (.int p1 :: .int p0 :: .ref o :: st) h = am_bd (am_den 207 [.ref o, .int p0, .int p1] h) (fun v h1 => am_ev 284 62 ls (v.toList ++ st) h1) := am_u_cV (idx := 354) (wn := 7014) (as := [.int p0, .int p1]) am_my_284 (by decide +kernel) (Or.inl (by decide +kernel)) am_my_207 (by decide +kernel) rfl ⟨Nat.le_of_ble_eq_true rfl, rfl⟩ (by decide +kernel) hw hk
theorem e284_62 {ls : List (Option Value)} {st : List Value} {h : am_H} {p0 : Int32} {p1 : Int32} {o : Nat} (hw : am_w8 st ≤ 8) (hk : am_kd h o = some (.inl 11)) : am_ev 284 62 ls (.int p1 :: .int p0 :: .ref o :: st) h = am_bd (am_den 211 [.ref o, .int p0, .int p1] h) (fun v h1 => am_ev 284 65 ls (v.toList ++ st) h1) := am_u_cV (idx := 370) (wn := 7030) (as := [.int p0, .int p1]) am_my_284 (by decide +kernel) (Or.inl (by decide +kernel)) am_my_211 (by decide +kernel) rfl ⟨Nat.le_of_ble_eq_true rfl, rfl⟩ (by decide +kernel) hw hk
theorem e284_65 {ls : List (Option Value)} {st : List Value} {h : am_H} {a : Int32} : am_ev 284 65 ls (.int a :: st) h = if ¬ a = 0 then am_ev 284 70 ls st h else am_ev 284 68 ls st h := am_u_if1 (c := .ne) (off := 5) am_my_284 (by decide +kernel) (by decide)
theorem e284_68 {ls : List (Option Value)} {st : List Value} {h : am_H} : am_ev 284 68 (ls) (st) h = am_ev 284 69 (ls) (.int (-1) :: st) h := am_ev_step (q := (69, ls, .int (-1) :: st, h)) _ (.iconst (-1)) 1 am_my_284 (by decide +kernel) rfl
theorem e284_69 {ls : List (Option Value)} {h : am_H} {v : Int32} : am_ev 284 69 ls [.int v] h = some (some (.int v), h) := am_u_rtI am_my_284 (by decide +kernel) rfl
theorem e284_70 {ls : List (Option Value)} {st : List Value} {h : am_H} {l0 l1 l2 l3 : Option Value} {a : Int32} : am_ev 284 70 (l0 :: l1 :: l2 :: l3 :: some (.int a) :: ls) (st) h = am_ev 284 73 (l0 :: l1 :: l2 :: l3 :: some (.int (a + (1))) :: ls) (st) h := am_ev_step (q := (73, l0 :: l1 :: l2 :: l3 :: some (.int (a + (1))) :: ls, st, h)) _ (.iinc 4 (1)) 3 am_my_284 (by decide +kernel) rfl
theorem e284_73 {ls : List (Option Value)} {st : List Value} {h : am_H} : am_ev 284 73 (ls) (st) h = am_ev 284 27 (ls) (st) h := am_ev_step (q := (27, ls, st, h)) _ (.goto (-46)) 3 am_my_284 (by decide +kernel) rfl
theorem e284_76 {ls : List (Option Value)} {st : List Value} {h : am_H} {l0 l1 l2 l3 : Option Value} {a : Int32} : am_ev 284 76 (l0 :: l1 :: l2 :: l3 :: some (.int a) :: ls) (st) h = am_ev 284 78 (l0 :: l1 :: l2 :: l3 :: some (.int a) :: ls) (.int a :: st) h := am_ev_step (q := (78, l0 :: l1 :: l2 :: l3 :: some (.int a) :: ls, .int a :: st, h)) _ (.iload 4) 2 am_my_284 (by decide +kernel) rfl
theorem e284_78 {ls : List (Option Value)} {h : am_H} {v : Int32} : am_ev 284 78 ls [.int v] h = some (some (.int v), h) := am_u_rtI am_my_284 (by decide +kernel) rfl
def q_fd (A : q_All) (a d : Int32) : Prop := (0 ≤ a ∧ a < nI (A.2.1 0)) ∧ (0 ≤ d ∧ d < nI (A.2.1 1))
theorem q_fd_nat {A : q_All} {h : am_H} (H : q_Rel A h) {a d : Int32} (c : q_fd A a d) : ∃ i j : Nat, i < A.2.1 0 ∧ i < 2 ∧ a = nI i ∧ j < A.2.1 1 ∧ j < 2 ∧ d = nI j := by
  obtain ⟨ca, cb⟩ := c
  have c1 := (H.cnt 0 (by decide)).1
  have c2 := (H.cnt 1 (by decide)).1
  obtain ⟨i, hi, rfl⟩ := q_in2 c1 ca
  obtain ⟨j, hj, rfl⟩ := q_in2 c2 cb
  exact ⟨i, j, hi, by omega, rfl, hj, by omega, rfl⟩
theorem den_hasBoth {A : q_All} {h : am_H} (H : q_Rel A h) (a d : Int32) : (q_fd A a d → am_den 114 [.ref 0, .int a, .int d] h = some (some (.int 1), h)) ∧ (¬ q_fd A a d → am_den 114 [.ref 0, .int a, .int d] h = some (some (.int 0), h)) := by
  have ok := H.1
  obtain ⟨c1, c2, c3⟩ := H.cnt 0 (by decide)
  obtain ⟨e1, e2, e3⟩ := H.cnt 1 (by decide)
  have dh := den_has h ok 0 (by decide) (A.2.1 0) c1 c2 a
  have dh2 := den_has h ok 1 (by decide) (A.2.1 1) e1 e2 d
  rw [nI_0] at dh
  rw [show nI 1 = 1 from rfl] at dh2
  have y : ¬ (1 : Int32) = 0 := by decide
  have sh : am_den 114 [.ref 0, .int a, .int d] h = am_ev 114 0 [some (.ref 0), some (.int a), some (.int d)] [] h := rfl
  rw [sh]
  constructor
  · intro c
    rw [if_pos c.1] at dh
    rw [if_pos c.2] at dh2
    simp only [e114_0, e114_1, e114_4, e114_5, e114_6, e114_9, e114_12, e114_13, e114_16, e114_17, e114_18, e114_21, e114_24, e114_25, e114_28, e114_29, am_bd_some, Option.toList_some, Option.toList_none, List.cons_append, List.nil_append, am_w8_0, am_w8_1, am_w8_2, am_w8_3, am_w8_4, eq_self, or_true, true_or, am_kd_sI, am_kd_sL, am_kd_sR, am_tc_sI, am_tc_sL, am_tc_sR, am_len_sI, am_len_sL, am_len_sR, am_rfs, if_true, if_false, am_rdL_sI, am_rR_sL, am_rt_cq, am_kd_cq, am_tc_cq, am_len_cq, am_rd_sL, am_rd_sR, am_rdL_sR, okK_0 ok, okR_0_0 ok, okK_1 ok, dh, dh2, y]
  · intro c
    by_cases ca : 0 ≤ a ∧ a < nI (A.2.1 0)
    · rw [if_pos ca] at dh
      rw [if_neg (fun w => c ⟨ca, w⟩)] at dh2
      simp only [e114_0, e114_1, e114_4, e114_5, e114_6, e114_9, e114_12, e114_13, e114_16, e114_17, e114_18, e114_21, e114_24, e114_25, e114_28, e114_29, am_bd_some, Option.toList_some, Option.toList_none, List.cons_append, List.nil_append, am_w8_0, am_w8_1, am_w8_2, am_w8_3, am_w8_4, eq_self, or_true, true_or, am_kd_sI, am_kd_sL, am_kd_sR, am_tc_sI, am_tc_sL, am_tc_sR, am_len_sI, am_len_sL, am_len_sR, am_rfs, if_true, if_false, am_rdL_sI, am_rR_sL, am_rt_cq, am_kd_cq, am_tc_cq, am_len_cq, am_rd_sL, am_rd_sR, am_rdL_sR, okK_0 ok, okR_0_0 ok, okK_1 ok, dh, dh2, y]
    · rw [if_neg ca] at dh
      simp only [e114_0, e114_1, e114_4, e114_5, e114_6, e114_9, e114_12, e114_13, e114_16, e114_17, e114_18, e114_21, e114_24, e114_25, e114_28, e114_29, am_bd_some, Option.toList_some, Option.toList_none, List.cons_append, List.nil_append, am_w8_0, am_w8_1, am_w8_2, am_w8_3, am_w8_4, eq_self, or_true, true_or, am_kd_sI, am_kd_sL, am_kd_sR, am_tc_sI, am_tc_sL, am_tc_sR, am_len_sI, am_len_sL, am_len_sR, am_rfs, if_true, if_false, am_rdL_sI, am_rR_sL, am_rt_cq, am_kd_cq, am_tc_cq, am_len_cq, am_rd_sL, am_rd_sR, am_rdL_sR, okK_0 ok, okR_0_0 ok, okK_1 ok, dh]
/-- a drive that is told, in the class's cells -/
theorem q_Rel.cD {A : q_All} {h : am_H} (H : q_Rel A h) (j : Nat) (hj : j < A.2.1 1) : D_ok (A.2.2.2.1 j) ∧ q_cD h (11 + 16 * j) (A.2.2.2.1 j) := by
  have c2 := (H.cnt 1 (by decide)).1
  obtain ⟨d1, d2, d3, -⟩ := H.dr j hj
  exact ⟨d1, (q_do_now H.1 j (by omega)).1, d2, fun k hk => by rw [show 11 + 16 * j + 1 = 12 + 16 * j by omega]; exact d3 k hk⟩
theorem den_hasDrive {A : q_All} {h : am_H} (H : q_Rel A h) (d : Int32) : am_den 205 [.ref 211, .int d] h = some (some (.int (if 0 ≤ d ∧ d < nI (A.2.1 1) then 1 else 0)), am_sI h 211 39 d) := by
  have ok := H.1
  obtain ⟨c1, c2, c3⟩ := H.cnt 1 (by decide)
  have okd : am_okH (am_sI h 211 39 d) := ok
  have dis := den_is (am_sI h 211 39 d) okd 1 (by decide) (A.2.1 1) c1 c3 d
  rw [show nI 1 = 1 from rfl] at dis
  have b1 : (if 0 ≤ d ∧ d < nI (A.2.1 1) then (1 : Int32) else 0) = 0 ∨ (if 0 ≤ d ∧ d < nI (A.2.1 1) then (1 : Int32) else 0) = 1 := by split <;> simp
  show am_ev 205 0 [some (.ref 211), some (.int d)] [] h = _
  simp only [e205_0, e205_1, e205_2, e205_5, e205_6, e205_7, e205_8, e205_11, am_bd_some, Option.toList_some, Option.toList_none, List.cons_append, List.nil_append, am_w8_0, am_w8_1, am_w8_2, am_w8_3, am_w8_4, eq_self, or_true, true_or, am_kd_sI, am_kd_sL, am_kd_sR, am_tc_sI, am_tc_sL, am_tc_sR, am_len_sI, am_len_sL, am_len_sR, am_rfs, if_true, if_false, am_rdL_sI, am_rR_sL, am_rt_cq, am_kd_cq, am_tc_cq, am_len_cq, am_rd_sL, am_rd_sR, am_rdL_sR, okK_211 ok, dis, b1]
theorem den_lay1 {A : q_All} {h : am_H} (H : q_Rel A h) (i j : Nat) (hi : i < A.2.1 0) (hj : j < A.2.1 1) : ∃ h' : am_H, q_wk h h' ∧ q_mg h' (A.2.2.1 i) (G_0 (A.2.2.1 i)) ∧ q_mD h' j (A.2.2.2.1 j) ∧ am_den 209 [.ref 211, .int (nI i), .int (nI j)] h = some (some (.int 1), h') := by
  have ok := H.1
  obtain ⟨c1, c2, c3⟩ := H.cnt 0 (by decide)
  obtain ⟨e1, e2, e3⟩ := H.cnt 1 (by decide)
  have dd := den_hasDrive H (nI j)
  rw [if_pos ⟨nI_pos' (by omega), nI_lt hj (by omega)⟩] at dd
  obtain ⟨fk, cF, fm⟩ := H.fl i hi
  obtain ⟨d1, -, -, d4, d5⟩ := H.dr j hj
  have ok1 : am_okH (am_sI h 211 39 (nI j)) := ok
  obtain ⟨h1, f1, e24, g1, s1⟩ := den_hand1 (am_sI h 211 39 (nI j)) ok1 i (by omega) _ fk fm (A.2.1 0) c1 hi c3
  have y : ¬ (1 : Int32) = 0 := by decide
  have md : q_mD (am_sI h 211 39 (nI j)) j (A.2.2.2.1 j) := ⟨by omega, rfl, d4, fun k hk => ⟨(d5 k hk).1, (d5 k hk).2⟩⟩
  refine ⟨h1, (q_wk1 ok 39 (by decide) (nI j)).tr (f1.wk ok1), g1, f1.mD md, ?_⟩
  show am_ev 209 0 [some (.ref 211), some (.int (nI i)), some (.int (nI j))] [] h = _
  simp only [e209_0, e209_1, e209_2, e209_5, e209_8, e209_9, e209_10, e209_13, e209_16, e209_17, e209_20, e209_21, am_bd_some, Option.toList_some, Option.toList_none, List.cons_append, List.nil_append, am_w8_0, am_w8_1, am_w8_2, am_w8_3, am_w8_4, eq_self, or_true, true_or, am_kd_sI, am_kd_sL, am_kd_sR, am_tc_sI, am_tc_sL, am_tc_sR, am_len_sI, am_len_sL, am_len_sR, am_rfs, if_true, if_false, am_rdL_sI, am_rR_sL, am_rt_cq, am_kd_cq, am_tc_cq, am_len_cq, am_rd_sL, am_rd_sR, am_rdL_sR, okK_211 ok, dd, y, okK_211 ok1, s1]
theorem den_lay0 {A : q_All} {h : am_H} (H : q_Rel A h) (a d : Int32) (c : ¬ q_fd A a d) : ∃ h' : am_H, q_wk h h' ∧ am_den 209 [.ref 211, .int a, .int d] h = some (some (.int 0), h') := by
  have ok := H.1
  obtain ⟨c1, c2, c3⟩ := H.cnt 0 (by decide)
  have dd := den_hasDrive H d
  have ok1 : am_okH (am_sI h 211 39 d) := ok
  have y : ¬ (1 : Int32) = 0 := by decide
  refine ⟨am_sI h 211 39 d, q_wk1 ok 39 (by decide) d, ?_⟩
  show am_ev 209 0 [some (.ref 211), some (.int a), some (.int d)] [] h = _
  by_cases cd : 0 ≤ d ∧ d < nI (A.2.1 1)
  · rw [if_pos cd] at dd
    have s0 := den_hand0 (am_sI h 211 39 d) ok1 (A.2.1 0) c1 c3 a (fun w => c ⟨w, cd⟩)
    simp only [e209_0, e209_1, e209_2, e209_5, e209_8, e209_9, e209_10, e209_13, e209_16, e209_17, e209_20, e209_21, am_bd_some, Option.toList_some, Option.toList_none, List.cons_append, List.nil_append, am_w8_0, am_w8_1, am_w8_2, am_w8_3, am_w8_4, eq_self, or_true, true_or, am_kd_sI, am_kd_sL, am_kd_sR, am_tc_sI, am_tc_sL, am_tc_sR, am_len_sI, am_len_sL, am_len_sR, am_rfs, if_true, if_false, am_rdL_sI, am_rR_sL, am_rt_cq, am_kd_cq, am_tc_cq, am_len_cq, am_rd_sL, am_rd_sR, am_rdL_sR, okK_211 ok, dd, y, okK_211 ok1, s0]
  · rw [if_neg cd] at dd
    simp only [e209_0, e209_1, e209_2, e209_5, e209_8, e209_9, e209_10, e209_13, e209_16, e209_17, e209_20, e209_21, am_bd_some, Option.toList_some, Option.toList_none, List.cons_append, List.nil_append, am_w8_0, am_w8_1, am_w8_2, am_w8_3, am_w8_4, eq_self, or_true, true_or, am_kd_sI, am_kd_sL, am_kd_sR, am_tc_sI, am_tc_sL, am_tc_sR, am_len_sI, am_len_sL, am_len_sR, am_rfs, if_true, if_false, am_rdL_sI, am_rR_sL, am_rt_cq, am_kd_cq, am_tc_cq, am_len_cq, am_rd_sL, am_rd_sR, am_rdL_sR, okK_211 ok, dd]
noncomputable def q_tillA (A : q_All) (a d : Int32) : Int32 := @ite _ (q_fd A a d) (Classical.propDecidable _) (nI (G_fol (A.2.2.1 a.toNatClampNeg) (A.2.2.2.1 d.toNatClampNeg).2 (A.2.2.2.1 d.toNatClampNeg).1 0 (G_0 (A.2.2.1 a.toNatClampNeg))).1) (-1)
theorem den_ctill {A : q_All} {h : am_H} (H : q_Rel A h) (a d : Int32) : ∃ h' : am_H, q_wk h h' ∧ am_den 113 [.ref 0, .int a, .int d] h = some (some (.int (q_tillA A a d)), h') := by
  have ok := H.1
  obtain ⟨b1, b0⟩ := den_hasBoth H a d
  show ∃ h' : am_H, q_wk h h' ∧ am_ev 113 0 [some (.ref 0), some (.int a), some (.int d)] [] h = _
  unfold q_tillA
  by_cases c : q_fd A a d
  · have db := b1 c
    rw [if_pos c]
    obtain ⟨i, j, hi, hi2, rfl, hj, hj2, rfl⟩ := q_fd_nat H c
    obtain ⟨fk, cF, -⟩ := H.fl i hi
    obtain ⟨dk, cD⟩ := H.cD j hj
    have wf := fk.wf
    have d40 := dk.1
    have z : (nI i).toNatClampNeg = i := nI_clamp (by omega)
    have x : am_ix (nI i) 2 = true := am_ix_nI (by omega) (by decide)
    have zj : (nI j).toNatClampNeg = j := nI_clamp (by omega)
    have xj : am_ix (nI j) 2 = true := am_ix_nI (by omega) (by decide)
    have r := q_fo_ref ok i hi2
    have y : ¬ (1 : Int32) = 0 := by decide
    have q178 : q_flk 178 := Or.inl rfl
    obtain ⟨h1, f1, g1, s1⟩ := den_begin h ok 178 (8 + 16 * i) q178 (by omega) _ wf cF
    have ok1 := f1.ok q178 ok
    have rj := (q_do_now ok1 j hj2).2
    have i0 := G_0_in fk
    obtain ⟨h2, f2, g2, s2⟩ := den_follows 178 (8 + 16 * i) (11 + 16 * j) _ wf _ dk (by omega) 40 (by decide) (G_0 _) h1 g1 i0 (f1.cD cD (by omega))
    rw [show min 40 (A.2.2.2.1 j).1 = (A.2.2.2.1 j).1 by omega, show nI 40 = 40 from rfl] at s2
    refine ⟨h2, (f1.tr f2.fb).wk q178 ok, ?_⟩
    rw [z, zj]
    simp only [e113_0, e113_1, e113_2, e113_3, e113_6, e113_9, e113_10, e113_11, e113_12, e113_15, e113_16, e113_19, e113_22, e113_23f, e113_23d, e113_23b, e113_23l, e113_23t, e113_24, e113_27, e113_28, e113_31, e113_32, e113_35, e113_38, e113_39f, e113_39d, e113_39b, e113_39l, e113_39t, e113_40, e113_42, e113_45, am_bd_some, Option.toList_some, Option.toList_none, List.cons_append, List.nil_append, am_w8_0, am_w8_1, am_w8_2, am_w8_3, am_w8_4, eq_self, or_true, true_or, am_kd_sI, am_kd_sL, am_kd_sR, am_tc_sI, am_tc_sL, am_tc_sR, am_len_sI, am_len_sL, am_len_sR, am_rfs, if_true, if_false, am_rdL_sI, am_rR_sL, am_rt_cq, am_kd_cq, am_tc_cq, am_len_cq, am_rd_sL, am_rd_sR, am_rdL_sR, okK_0 ok, okR_0_0 ok, okK_1 ok, okR_1_5 ok, okT_4 ok, okL_4 ok, okR_0_4 ok, okK_178 ok, db, y, not_false_eq_true, x, z, r, s1, okK_0 ok1, okR_0_0 ok1, okK_1 ok1, okR_1_6 ok1, okT_5 ok1, okL_5 ok1, okR_0_4 ok1, okK_178 ok1, xj, zj, rj, s2]
  · have db := b0 c
    rw [if_neg c]
    refine ⟨h, q_wk.rf ok, ?_⟩
    simp only [e113_0, e113_1, e113_2, e113_3, e113_6, e113_9, e113_10, e113_11, e113_12, e113_15, e113_16, e113_19, e113_22, e113_23f, e113_23d, e113_23b, e113_23l, e113_23t, e113_24, e113_27, e113_28, e113_31, e113_32, e113_35, e113_38, e113_39f, e113_39d, e113_39b, e113_39l, e113_39t, e113_40, e113_42, e113_45, am_bd_some, Option.toList_some, Option.toList_none, List.cons_append, List.nil_append, am_w8_0, am_w8_1, am_w8_2, am_w8_3, am_w8_4, eq_self, or_true, true_or, am_kd_sI, am_kd_sL, am_kd_sR, am_tc_sI, am_tc_sL, am_tc_sR, am_len_sI, am_len_sL, am_len_sR, am_rfs, if_true, if_false, am_rdL_sI, am_rR_sL, am_rt_cq, am_kd_cq, am_tc_cq, am_len_cq, am_rd_sL, am_rd_sR, am_rdL_sR, okK_0 ok, db, not_true]
theorem den_mtill {A : q_All} {h : am_H} (H : q_Rel A h) (a d : Int32) : ∃ h' : am_H, q_wk h h' ∧ am_den 208 [.ref 211, .int a, .int d] h = some (some (.int (q_tillA A a d)), h') := by
  have ok := H.1
  have h0 := H.2.1
  show ∃ h' : am_H, q_wk h h' ∧ am_ev 208 0 [some (.ref 211), some (.int a), some (.int d)] [] h = _
  unfold q_tillA
  by_cases c : q_fd A a d
  · rw [if_pos c]
    obtain ⟨i, j, hi, hi2, rfl, hj, hj2, rfl⟩ := q_fd_nat H c
    have fk := (H.fl i hi).1
    have dk := (H.cD j hj).1
    have wf := fk.wf
    have z : (nI i).toNatClampNeg = i := nI_clamp (by omega)
    have zj : (nI j).toNatClampNeg = j := nI_clamp (by omega)
    have y : ¬ (1 : Int32) = 0 := by decide
    obtain ⟨h1, f1, g1, md, s1⟩ := den_lay1 H i j hi hj
    have ok1 := g1.1.1
    have dw := den_whistles h1 ok1 j _ md
    obtain ⟨h2, f2, g2, s2⟩ := den_play _ wf j _ dk (A.2.2.2.1 j).1 (Nat.le_refl _) (G_0 _) h1 g1 (G_0_in fk) (G_0_pi fk) md
    refine ⟨h2, f1.tr (f2.wk ok1), ?_⟩
    rw [z, zj]
    simp only [e208_0, e208_1, e208_2, e208_5, e208_6, e208_7, e208_8, e208_11, e208_14, e208_15, e208_16, e208_19, e208_22, e208_25, e208_26, am_bd_some, Option.toList_some, Option.toList_none, List.cons_append, List.nil_append, am_w8_0, am_w8_1, am_w8_2, am_w8_3, am_w8_4, eq_self, or_true, true_or, am_kd_sI, am_kd_sL, am_kd_sR, am_tc_sI, am_tc_sL, am_tc_sR, am_len_sI, am_len_sL, am_len_sR, am_rfs, if_true, if_false, am_rdL_sI, am_rR_sL, am_rt_cq, am_kd_cq, am_tc_cq, am_len_cq, am_rd_sL, am_rd_sR, am_rdL_sR, okK_211 ok, am_sI_id h0, s1, y, okK_211 ok1, dw, s2]
  · rw [if_neg c]
    obtain ⟨h1, f1, s1⟩ := den_lay0 H a d c
    refine ⟨h1, f1, ?_⟩
    simp only [e208_0, e208_1, e208_2, e208_5, e208_6, e208_7, e208_8, e208_11, e208_14, e208_15, e208_16, e208_19, e208_22, e208_25, e208_26, am_bd_some, Option.toList_some, Option.toList_none, List.cons_append, List.nil_append, am_w8_0, am_w8_1, am_w8_2, am_w8_3, am_w8_4, eq_self, or_true, true_or, am_kd_sI, am_kd_sL, am_kd_sR, am_tc_sI, am_tc_sL, am_tc_sR, am_len_sI, am_len_sL, am_len_sR, am_rfs, if_true, if_false, am_rdL_sI, am_rR_sL, am_rt_cq, am_kd_cq, am_tc_cq, am_len_cq, am_rd_sL, am_rd_sR, am_rdL_sR, okK_211 ok, am_sI_id h0, s1]
theorem ly_6 : ly_p6 := fun a d => pr_wk (fun A => q_tillA A a d) (fun A h H => den_ctill H a d) (fun A h H => den_mtill H a d)
/-! thrice -/
def G_thr (f : q_Fl) (d : q_Dr) : Nat → Nat → q_G → Nat
  | 0, t, _ => t
  | r + 1, t, g => if (G_fol f d.2 d.1 0 g).1 < d.1 then t else G_thr f d r (t + 1) (G_fol f d.2 d.1 0 g).2
theorem q_thr_c (o p : Nat) (ho : o + 2 < 178 ∨ 183 < o) (hp : p + 1 < 178) (f : q_Fl) (wf : F_wf f) (d : q_Dr) (dk : D_ok d) (a b : Int32) : ∀ (r t : Nat) (g : q_G) (h : am_H), t + r = 3 → am_okH h → q_cg h 178 o f g → G_in f g → q_cD h p d → ∃ h' : am_H, q_ff 178 h h' ∧ am_ev 123 40 [some (.ref 0), some (.int a), some (.int b), some (.ref p), some (.int (nI t))] [] h = some (some (.int (nI (G_thr f d r t g))), h') := by
  have d40 := dk.1
  intro r
  induction r with
  | zero =>
    intro t g h ht ok cg gi cd
    obtain rfl : t = 3 := by omega
    have h1 : (3 : Int32) ≤ nI 3 := by decide
    have y : nI 3 = 3 := rfl
    refine ⟨h, q_ff.rf _ h, ?_⟩
    rw [e123_40]
    simp only [e123_0, e123_1, e123_2, e123_3, e123_6, e123_9, e123_10, e123_11, e123_12, e123_15, e123_18, e123_19f, e123_19d, e123_19b, e123_19l, e123_19t, e123_20, e123_21, e123_22, e123_25, e123_26, e123_29, e123_32, e123_33f, e123_33d, e123_33b, e123_33l, e123_33t, e123_34, e123_37, e123_38, e123_42, e123_43, e123_46, e123_47, e123_50, e123_51, e123_52, e123_55, e123_58, e123_59, e123_62, e123_65, e123_67, e123_68, e123_71, e123_74, e123_75, am_bd_some, Option.toList_some, Option.toList_none, List.cons_append, List.nil_append, am_w8_0, am_w8_1, am_w8_2, am_w8_3, am_w8_4, eq_self, or_true, true_or, am_kd_sI, am_kd_sL, am_kd_sR, am_tc_sI, am_tc_sL, am_tc_sR, am_len_sI, am_len_sL, am_len_sR, am_rfs, if_true, if_false, am_rdL_sI, am_rR_sL, am_rt_cq, am_kd_cq, am_tc_cq, am_len_cq, am_rd_sL, am_rd_sR, am_rdL_sR, h1, G_thr]
    rfl
  | succ r ih =>
    intro t g h ht ok cg gi cd
    have h1 : ¬ (3 : Int32) ≤ nI t := fun w => nI_ge (b := 3) (a := t) (by omega) (by decide) w
    obtain ⟨h', f1, g1, s1⟩ := den_follows 178 o p f wf d dk (by omega) d.1 (by omega) g h cg gi cd
    rw [Nat.min_self] at g1 s1
    have ok' : am_okH h' := ok.of (congrArg Prod.snd f1.1)
    have cd' := f1.fb.cD cd (Or.inl hp)
    have le := (G_fol_le f d.2 d.1 0 g).2
    have cmp : nI d.1 ≤ nI (G_fol f d.2 d.1 0 g).1 ↔ d.1 ≤ (G_fol f d.2 d.1 0 g).1 := nI_leI (by omega) (by omega)
    by_cases c : (G_fol f d.2 d.1 0 g).1 < d.1
    · refine ⟨h', f1, ?_⟩
      have c' : ¬ nI d.1 ≤ nI (G_fol f d.2 d.1 0 g).1 := fun w => by have := cmp.mp w; omega
      rw [e123_40]
      simp only [e123_0, e123_1, e123_2, e123_3, e123_6, e123_9, e123_10, e123_11, e123_12, e123_15, e123_18, e123_19f, e123_19d, e123_19b, e123_19l, e123_19t, e123_20, e123_21, e123_22, e123_25, e123_26, e123_29, e123_32, e123_33f, e123_33d, e123_33b, e123_33l, e123_33t, e123_34, e123_37, e123_38, e123_42, e123_43, e123_46, e123_47, e123_50, e123_51, e123_52, e123_55, e123_58, e123_59, e123_62, e123_65, e123_67, e123_68, e123_71, e123_74, e123_75, am_bd_some, Option.toList_some, Option.toList_none, List.cons_append, List.nil_append, am_w8_0, am_w8_1, am_w8_2, am_w8_3, am_w8_4, eq_self, or_true, true_or, am_kd_sI, am_kd_sL, am_kd_sR, am_tc_sI, am_tc_sL, am_tc_sR, am_len_sI, am_len_sL, am_len_sR, am_rfs, if_true, if_false, am_rdL_sI, am_rR_sL, am_rt_cq, am_kd_cq, am_tc_cq, am_len_cq, am_rd_sL, am_rd_sR, am_rdL_sR, h1, okK_0 ok, okR_0_4 ok, okK_178 ok, cd.1.1, cd.2.1, s1, cd'.1.1, cd'.2.1, c', G_thr, if_pos c]
    · have c' : nI d.1 ≤ nI (G_fol f d.2 d.1 0 g).1 := cmp.mpr (by omega)
      obtain ⟨h'', f2, s2⟩ := ih (t + 1) _ h' (by omega) ok' g1 (G_fol_in wf d.2 _ _ _ gi) cd'
      refine ⟨h'', f1.tr f2, ?_⟩
      rw [e123_40]
      simp only [e123_0, e123_1, e123_2, e123_3, e123_6, e123_9, e123_10, e123_11, e123_12, e123_15, e123_18, e123_19f, e123_19d, e123_19b, e123_19l, e123_19t, e123_20, e123_21, e123_22, e123_25, e123_26, e123_29, e123_32, e123_33f, e123_33d, e123_33b, e123_33l, e123_33t, e123_34, e123_37, e123_38, e123_42, e123_43, e123_46, e123_47, e123_50, e123_51, e123_52, e123_55, e123_58, e123_59, e123_62, e123_65, e123_67, e123_68, e123_71, e123_74, e123_75, am_bd_some, Option.toList_some, Option.toList_none, List.cons_append, List.nil_append, am_w8_0, am_w8_1, am_w8_2, am_w8_3, am_w8_4, eq_self, or_true, true_or, am_kd_sI, am_kd_sL, am_kd_sR, am_tc_sI, am_tc_sL, am_tc_sR, am_len_sI, am_len_sL, am_len_sR, am_rfs, if_true, if_false, am_rdL_sI, am_rR_sL, am_rt_cq, am_kd_cq, am_tc_cq, am_len_cq, am_rd_sL, am_rd_sR, am_rdL_sR, h1, okK_0 ok, okR_0_4 ok, okK_178 ok, cd.1.1, cd.2.1, s1, cd'.1.1, cd'.2.1, c', nI_1, G_thr, if_neg c]
      exact s2
theorem q_thr_m (f : q_Fl) (wf : F_wf f) (i0 : Nat) (d : q_Dr) (dk : D_ok d) (a b : Int32) : ∀ (r t : Nat) (g : q_G) (h : am_H), t + r = 3 → q_mg h f g → G_in f g → G_pi f g → q_mD h i0 d → ∃ h' : am_H, q_mw h h' ∧ am_ev 286 18 [some (.ref 211), some (.int a), some (.int b), some (.int (nI t))] [] h = some (some (.int (nI (G_thr f d r t g))), h') := by
  have d40 := dk.1
  intro r
  induction r with
  | zero =>
    intro t g h ht mg gi gp md
    obtain rfl : t = 3 := by omega
    have h1 : (3 : Int32) ≤ nI 3 := by decide
    refine ⟨h, q_mw.rf h, ?_⟩
    rw [e286_18]
    simp only [e286_0, e286_1, e286_2, e286_5, e286_6, e286_7, e286_8, e286_11, e286_14, e286_15, e286_16, e286_17, e286_19, e286_20, e286_23, e286_24, e286_25, e286_28, e286_31, e286_32, e286_35, e286_38, e286_41, e286_44, e286_45, am_bd_some, Option.toList_some, Option.toList_none, List.cons_append, List.nil_append, am_w8_0, am_w8_1, am_w8_2, am_w8_3, am_w8_4, eq_self, or_true, true_or, am_kd_sI, am_kd_sL, am_kd_sR, am_tc_sI, am_tc_sL, am_tc_sR, am_len_sI, am_len_sL, am_len_sR, am_rfs, if_true, if_false, am_rdL_sI, am_rR_sL, am_rt_cq, am_kd_cq, am_tc_cq, am_len_cq, am_rd_sL, am_rd_sR, am_rdL_sR, h1, G_thr]
  | succ r ih =>
    intro t g h ht mg gi gp md
    have ok := mg.1.1
    have h1 : ¬ (3 : Int32) ≤ nI t := fun w => nI_ge (b := 3) (a := t) (by omega) (by decide) w
    have dw := den_whistles h ok i0 d md
    obtain ⟨h', f1, g1, s1⟩ := den_play f wf i0 d dk d.1 (Nat.le_refl _) g h mg gi gp md
    have ok' := g1.1.1
    have md' := f1.hw.mD md
    have dw' := den_whistles h' ok' i0 d md'
    have le := (G_fol_le f d.2 d.1 0 g).2
    have cmp : nI (G_fol f d.2 d.1 0 g).1 = nI d.1 ↔ (G_fol f d.2 d.1 0 g).1 = d.1 := nI_eq (by omega) (by omega)
    by_cases c : (G_fol f d.2 d.1 0 g).1 < d.1
    · refine ⟨h', f1, ?_⟩
      have c' : ¬ nI (G_fol f d.2 d.1 0 g).1 = nI d.1 := fun w => by have := cmp.mp w; omega
      rw [e286_18]
      simp only [e286_0, e286_1, e286_2, e286_5, e286_6, e286_7, e286_8, e286_11, e286_14, e286_15, e286_16, e286_17, e286_19, e286_20, e286_23, e286_24, e286_25, e286_28, e286_31, e286_32, e286_35, e286_38, e286_41, e286_44, e286_45, am_bd_some, Option.toList_some, Option.toList_none, List.cons_append, List.nil_append, am_w8_0, am_w8_1, am_w8_2, am_w8_3, am_w8_4, eq_self, or_true, true_or, am_kd_sI, am_kd_sL, am_kd_sR, am_tc_sI, am_tc_sL, am_tc_sR, am_len_sI, am_len_sL, am_len_sR, am_rfs, if_true, if_false, am_rdL_sI, am_rR_sL, am_rt_cq, am_kd_cq, am_tc_cq, am_len_cq, am_rd_sL, am_rd_sR, am_rdL_sR, h1, okK_211 ok, dw, s1, okK_211 ok', dw', c', not_false_eq_true, G_thr, if_pos c]
    · have c' : nI (G_fol f d.2 d.1 0 g).1 = nI d.1 := cmp.mpr (by omega)
      obtain ⟨h'', f2, s2⟩ := ih (t + 1) _ h' (by omega) g1 (G_fol_in wf d.2 _ _ _ gi) (G_fol_pi wf d.2 _ _ _ gi gp) md'
      refine ⟨h'', f1.tr f2, ?_⟩
      rw [e286_18]
      simp only [e286_0, e286_1, e286_2, e286_5, e286_6, e286_7, e286_8, e286_11, e286_14, e286_15, e286_16, e286_17, e286_19, e286_20, e286_23, e286_24, e286_25, e286_28, e286_31, e286_32, e286_35, e286_38, e286_41, e286_44, e286_45, am_bd_some, Option.toList_some, Option.toList_none, List.cons_append, List.nil_append, am_w8_0, am_w8_1, am_w8_2, am_w8_3, am_w8_4, eq_self, or_true, true_or, am_kd_sI, am_kd_sL, am_kd_sR, am_tc_sI, am_tc_sL, am_tc_sR, am_len_sI, am_len_sL, am_len_sR, am_rfs, if_true, if_false, am_rdL_sI, am_rR_sL, am_rt_cq, am_kd_cq, am_tc_cq, am_len_cq, am_rd_sL, am_rd_sR, am_rdL_sR, h1, okK_211 ok, dw, s1, okK_211 ok', dw', eq_true c', not_true, nI_1, G_thr, if_neg c]
      exact s2
noncomputable def q_thrA (A : q_All) (a d : Int32) : Int32 := @ite _ (q_fd A a d) (Classical.propDecidable _) (nI (G_thr (A.2.2.1 a.toNatClampNeg) (A.2.2.2.1 d.toNatClampNeg) 3 0 (G_0 (A.2.2.1 a.toNatClampNeg)))) (-1)
theorem den_cthrice {A : q_All} {h : am_H} (H : q_Rel A h) (a d : Int32) : ∃ h' : am_H, q_wk h h' ∧ am_den 123 [.ref 0, .int a, .int d] h = some (some (.int (q_thrA A a d)), h') := by
  have ok := H.1
  obtain ⟨b1, b0⟩ := den_hasBoth H a d
  show ∃ h' : am_H, q_wk h h' ∧ am_ev 123 0 [some (.ref 0), some (.int a), some (.int d), none, none] [] h = _
  unfold q_thrA
  by_cases c : q_fd A a d
  · have db := b1 c
    rw [if_pos c]
    obtain ⟨i, j, hi, hi2, rfl, hj, hj2, rfl⟩ := q_fd_nat H c
    obtain ⟨fk, cF, -⟩ := H.fl i hi
    obtain ⟨dk, cD⟩ := H.cD j hj
    have wf := fk.wf
    have z : (nI i).toNatClampNeg = i := nI_clamp (by omega)
    have x : am_ix (nI i) 2 = true := am_ix_nI (by omega) (by decide)
    have zj : (nI j).toNatClampNeg = j := nI_clamp (by omega)
    have xj : am_ix (nI j) 2 = true := am_ix_nI (by omega) (by decide)
    have r := q_fo_ref ok i hi2
    have rj := (q_do_now ok j hj2).2
    have y : ¬ (1 : Int32) = 0 := by decide
    have q178 : q_flk 178 := Or.inl rfl
    obtain ⟨h1, f1, g1, s1⟩ := den_begin h ok 178 (8 + 16 * i) q178 (by omega) _ wf cF
    have ok1 := f1.ok q178 ok
    obtain ⟨h2, f2, s2⟩ := q_thr_c (8 + 16 * i) (11 + 16 * j) (by omega) (by omega) _ wf _ dk (nI i) (nI j) 3 0 (G_0 _) h1 (by omega) ok1 g1 (G_0_in fk) (f1.cD cD (by omega))
    rw [nI_0] at s2
    refine ⟨h2, (f1.tr f2.fb).wk q178 ok, ?_⟩
    rw [z, zj]
    simp only [e123_0, e123_1, e123_2, e123_3, e123_6, e123_9, e123_10, e123_11, e123_12, e123_15, e123_18, e123_19f, e123_19d, e123_19b, e123_19l, e123_19t, e123_20, e123_21, e123_22, e123_25, e123_26, e123_29, e123_32, e123_33f, e123_33d, e123_33b, e123_33l, e123_33t, e123_34, e123_37, e123_38, e123_42, e123_43, e123_46, e123_47, e123_50, e123_51, e123_52, e123_55, e123_58, e123_59, e123_62, e123_65, e123_67, e123_68, e123_71, e123_74, e123_75, am_bd_some, Option.toList_some, Option.toList_none, List.cons_append, List.nil_append, am_w8_0, am_w8_1, am_w8_2, am_w8_3, am_w8_4, eq_self, or_true, true_or, am_kd_sI, am_kd_sL, am_kd_sR, am_tc_sI, am_tc_sL, am_tc_sR, am_len_sI, am_len_sL, am_len_sR, am_rfs, if_true, if_false, am_rdL_sI, am_rR_sL, am_rt_cq, am_kd_cq, am_tc_cq, am_len_cq, am_rd_sL, am_rd_sR, am_rdL_sR, okK_0 ok, okR_0_0 ok, okK_1 ok, okR_1_5 ok, okR_1_6 ok, okT_4 ok, okL_4 ok, okT_5 ok, okL_5 ok, okR_0_4 ok, okK_178 ok, db, y, not_false_eq_true, x, z, r, xj, zj, rj, s1]
    exact s2
  · have db := b0 c
    rw [if_neg c]
    refine ⟨h, q_wk.rf ok, ?_⟩
    simp only [e123_0, e123_1, e123_2, e123_3, e123_6, e123_9, e123_10, e123_11, e123_12, e123_15, e123_18, e123_19f, e123_19d, e123_19b, e123_19l, e123_19t, e123_20, e123_21, e123_22, e123_25, e123_26, e123_29, e123_32, e123_33f, e123_33d, e123_33b, e123_33l, e123_33t, e123_34, e123_37, e123_38, e123_42, e123_43, e123_46, e123_47, e123_50, e123_51, e123_52, e123_55, e123_58, e123_59, e123_62, e123_65, e123_67, e123_68, e123_71, e123_74, e123_75, am_bd_some, Option.toList_some, Option.toList_none, List.cons_append, List.nil_append, am_w8_0, am_w8_1, am_w8_2, am_w8_3, am_w8_4, eq_self, or_true, true_or, am_kd_sI, am_kd_sL, am_kd_sR, am_tc_sI, am_tc_sL, am_tc_sR, am_len_sI, am_len_sL, am_len_sR, am_rfs, if_true, if_false, am_rdL_sI, am_rR_sL, am_rt_cq, am_kd_cq, am_tc_cq, am_len_cq, am_rd_sL, am_rd_sR, am_rdL_sR, okK_0 ok, db, not_true]
theorem den_mthrice {A : q_All} {h : am_H} (H : q_Rel A h) (a d : Int32) : ∃ h' : am_H, q_wk h h' ∧ am_den 286 [.ref 211, .int a, .int d] h = some (some (.int (q_thrA A a d)), h') := by
  have ok := H.1
  have h0 := H.2.1
  show ∃ h' : am_H, q_wk h h' ∧ am_ev 286 0 [some (.ref 211), some (.int a), some (.int d), none] [] h = _
  unfold q_thrA
  by_cases c : q_fd A a d
  · rw [if_pos c]
    obtain ⟨i, j, hi, hi2, rfl, hj, hj2, rfl⟩ := q_fd_nat H c
    have fk := (H.fl i hi).1
    have dk := (H.cD j hj).1
    have wf := fk.wf
    have z : (nI i).toNatClampNeg = i := nI_clamp (by omega)
    have zj : (nI j).toNatClampNeg = j := nI_clamp (by omega)
    have y : ¬ (1 : Int32) = 0 := by decide
    obtain ⟨h1, f1, g1, md, s1⟩ := den_lay1 H i j hi hj
    have ok1 := g1.1.1
    obtain ⟨h2, f2, s2⟩ := q_thr_m _ wf j _ dk (nI i) (nI j) 3 0 (G_0 _) h1 (by omega) g1 (G_0_in fk) (G_0_pi fk) md
    rw [nI_0] at s2
    refine ⟨h2, f1.tr (f2.wk ok1), ?_⟩
    rw [z, zj]
    simp only [e286_0, e286_1, e286_2, e286_5, e286_6, e286_7, e286_8, e286_11, e286_14, e286_15, e286_16, e286_17, e286_19, e286_20, e286_23, e286_24, e286_25, e286_28, e286_31, e286_32, e286_35, e286_38, e286_41, e286_44, e286_45, am_bd_some, Option.toList_some, Option.toList_none, List.cons_append, List.nil_append, am_w8_0, am_w8_1, am_w8_2, am_w8_3, am_w8_4, eq_self, or_true, true_or, am_kd_sI, am_kd_sL, am_kd_sR, am_tc_sI, am_tc_sL, am_tc_sR, am_len_sI, am_len_sL, am_len_sR, am_rfs, if_true, if_false, am_rdL_sI, am_rR_sL, am_rt_cq, am_kd_cq, am_tc_cq, am_len_cq, am_rd_sL, am_rd_sR, am_rdL_sR, okK_211 ok, am_sI_id h0, s1, y, not_false_eq_true]
    exact s2
  · rw [if_neg c]
    obtain ⟨h1, f1, s1⟩ := den_lay0 H a d c
    refine ⟨h1, f1, ?_⟩
    simp only [e286_0, e286_1, e286_2, e286_5, e286_6, e286_7, e286_8, e286_11, e286_14, e286_15, e286_16, e286_17, e286_19, e286_20, e286_23, e286_24, e286_25, e286_28, e286_31, e286_32, e286_35, e286_38, e286_41, e286_44, e286_45, am_bd_some, Option.toList_some, Option.toList_none, List.cons_append, List.nil_append, am_w8_0, am_w8_1, am_w8_2, am_w8_3, am_w8_4, eq_self, or_true, true_or, am_kd_sI, am_kd_sL, am_kd_sR, am_tc_sI, am_tc_sL, am_tc_sR, am_len_sI, am_len_sL, am_len_sR, am_rfs, if_true, if_false, am_rdL_sI, am_rR_sL, am_rt_cq, am_kd_cq, am_tc_cq, am_len_cq, am_rd_sL, am_rd_sR, am_rdL_sR, okK_211 ok, am_sI_id h0, s1, not_true]
theorem ly_29 : ly_p29 := fun a d => pr_wk (fun A => q_thrA A a d) (fun A h H => den_cthrice H a d) (fun A h H => den_mthrice H a d)
