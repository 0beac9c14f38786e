/-! part 9V: a fell's fault as a whole: the class -/
theorem e51_0 {ls : List (Option Value)} {st : List Value} {h : am_H} : am_ev 51 0 (ls) (st) h = am_ev 51 1 (ls) (.int (0) :: st) h := am_ev_step (q := (1, ls, .int (0) :: st, h)) _ (.iconst (0)) 1 am_my_51 (by decide +kernel) rfl
theorem e51_1 {ls : List (Option Value)} {st : List Value} {h : am_H} {l0 : Option Value} {z : Option Value} {a : Int32} : am_ev 51 1 (l0 :: z :: ls) (.int a :: st) h = am_ev 51 2 (l0 :: some (.int a) :: ls) (st) h := am_ev_step (q := (2, l0 :: some (.int a) :: ls, st, h)) _ (.istore_n 1) 1 am_my_51 (by decide +kernel) rfl
theorem e51_2 {ls : List (Option Value)} {st : List Value} {h : am_H} {l0 : Option Value} {a : Int32} : am_ev 51 2 (l0 :: some (.int a) :: ls) (st) h = am_ev 51 3 (l0 :: some (.int a) :: ls) (.int a :: st) h := am_ev_step (q := (3, l0 :: some (.int a) :: ls, .int a :: st, h)) _ (.iload_n 1) 1 am_my_51 (by decide +kernel) rfl
theorem e51_3 {ls : List (Option Value)} {st : List Value} {h : am_H} : am_ev 51 3 (ls) (st) h = am_ev 51 5 (ls) (.int (64) :: st) h := am_ev_step (q := (5, ls, .int (64) :: st, h)) _ (.bipush (64)) 2 am_my_51 (by decide +kernel) rfl
theorem e51_5 {ls : List (Option Value)} {st : List Value} {h : am_H} {a b : Int32} : am_ev 51 5 ls (.int b :: .int a :: st) h = if b ≤ a then am_ev 51 37 ls st h else am_ev 51 8 ls st h := am_u_if2 (c := .ge) (off := 32) am_my_51 (by decide +kernel) (by decide)
theorem e51_8 {ls : List (Option Value)} {st : List Value} {h : am_H} {a : Nat} : am_ev 51 8 (some (.ref a) :: ls) (st) h = am_ev 51 9 (some (.ref a) :: ls) (.ref a :: st) h := am_ev_step (q := (9, some (.ref a) :: ls, .ref a :: st, h)) _ (.aload_n 0) 1 am_my_51 (by decide +kernel) rfl
theorem e51_9 {ls : List (Option Value)} {st : List Value} {h : am_H} {o : Nat} (hk : am_kd h o = some (.inl 3)) : am_ev 51 9 ls (.ref o :: st) h = am_ev 51 12 ls (.long (h.2.1 o 9) :: st) h := am_u_gfL (idx := 44) (wn := 1069) am_my_51 (by decide +kernel) (by decide +kernel) (by decide +kernel) hk
theorem e51_12 {ls : List (Option Value)} {st : List Value} {h : am_H} {l0 : Option Value} {a : Int32} : am_ev 51 12 (l0 :: some (.int a) :: ls) (st) h = am_ev 51 13 (l0 :: some (.int a) :: ls) (.int a :: st) h := am_ev_step (q := (13, l0 :: some (.int a) :: ls, .int a :: st, h)) _ (.iload_n 1) 1 am_my_51 (by decide +kernel) rfl
theorem e51_13 {ls : List (Option Value)} {st : List Value} {h : am_H} {a : Int64} {b : Int32} : am_ev 51 13 (ls) (.int b :: .long a :: st) h = am_ev 51 14 (ls) (.long ((a.toUInt64 >>> (b.toInt64.toUInt64 &&& Int64.toUInt64 63)).toInt64) :: st) h := am_ev_step (q := (14, ls, .long ((a.toUInt64 >>> (b.toInt64.toUInt64 &&& Int64.toUInt64 63)).toInt64) :: st, h)) _ (.lushr) 1 am_my_51 (by decide +kernel) rfl
theorem e51_14 {ls : List (Option Value)} {st : List Value} {h : am_H} : am_ev 51 14 (ls) (st) h = am_ev 51 15 (ls) (.long 1 :: st) h := am_ev_step (q := (15, ls, .long 1 :: st, h)) _ (.lconst 1) 1 am_my_51 (by decide +kernel) rfl
theorem e51_15 {ls : List (Option Value)} {st : List Value} {h : am_H} {a b : Int64} : am_ev 51 15 (ls) (.long b :: .long a :: st) h = am_ev 51 16 (ls) (.long (a &&& b) :: st) h := am_ev_step (q := (16, ls, .long (a &&& b) :: st, h)) _ (.land) 1 am_my_51 (by decide +kernel) rfl
theorem e51_16 {ls : List (Option Value)} {st : List Value} {h : am_H} : am_ev 51 16 (ls) (st) h = am_ev 51 17 (ls) (.long 0 :: st) h := am_ev_step (q := (17, ls, .long 0 :: st, h)) _ (.lconst 0) 1 am_my_51 (by decide +kernel) rfl
theorem e51_17 {ls : List (Option Value)} {st : List Value} {h : am_H} {a b : Int64} : am_ev 51 17 (ls) (.long b :: .long a :: st) h = am_ev 51 18 (ls) (.int (lg_cmp a b) :: st) h := am_ev_step (q := (18, ls, .int (lg_cmp a b) :: st, h)) _ (.lcmp) 1 am_my_51 (by decide +kernel) rfl
theorem e51_18 {ls : List (Option Value)} {st : List Value} {h : am_H} {a : Int32} : am_ev 51 18 ls (.int a :: st) h = if a = 0 then am_ev 51 31 ls st h else am_ev 51 21 ls st h := am_u_if1 (c := .eq) (off := 13) am_my_51 (by decide +kernel) (by decide)
theorem e51_21 {ls : List (Option Value)} {st : List Value} {h : am_H} {a : Nat} : am_ev 51 21 (some (.ref a) :: ls) (st) h = am_ev 51 22 (some (.ref a) :: ls) (.ref a :: st) h := am_ev_step (q := (22, some (.ref a) :: ls, .ref a :: st, h)) _ (.aload_n 0) 1 am_my_51 (by decide +kernel) rfl
theorem e51_22 {ls : List (Option Value)} {st : List Value} {h : am_H} {l0 : Option Value} {a : Int32} : am_ev 51 22 (l0 :: some (.int a) :: ls) (st) h = am_ev 51 23 (l0 :: some (.int a) :: ls) (.int a :: st) h := am_ev_step (q := (23, l0 :: some (.int a) :: ls, .int a :: st, h)) _ (.iload_n 1) 1 am_my_51 (by decide +kernel) rfl
theorem e51_23 {ls : List (Option Value)} {st : List Value} {h : am_H} {p0 : Int32} {o : Nat} (hw : am_w8 st ≤ 8) (hk : am_kd h o = some (.inl 3)) : am_ev 51 23 ls (.int p0 :: .ref o :: st) h = am_bd (am_den 52 [.ref o, .int p0] h) (fun v h1 => am_ev 51 26 ls (v.toList ++ st) h1) := am_u_cV (idx := 72) (wn := 3120) (as := [.int p0]) am_my_51 (by decide +kernel) (Or.inl (by decide +kernel)) am_my_52 (by decide +kernel) rfl ⟨Nat.le_of_ble_eq_true rfl, rfl⟩ (by decide +kernel) hw hk
theorem e51_26 {ls : List (Option Value)} {st : List Value} {h : am_H} {a : Int32} : am_ev 51 26 ls (.int a :: st) h = if ¬ a = 0 then am_ev 51 31 ls st h else am_ev 51 29 ls st h := am_u_if1 (c := .ne) (off := 5) am_my_51 (by decide +kernel) (by decide)
theorem e51_29 {ls : List (Option Value)} {st : List Value} {h : am_H} : am_ev 51 29 (ls) (st) h = am_ev 51 30 (ls) (.int (4) :: st) h := am_ev_step (q := (30, ls, .int (4) :: st, h)) _ (.iconst (4)) 1 am_my_51 (by decide +kernel) rfl
theorem e51_30 {ls : List (Option Value)} {h : am_H} {v : Int32} : am_ev 51 30 ls [.int v] h = some (some (.int v), h) := am_u_rtI am_my_51 (by decide +kernel) rfl
theorem e51_31 {ls : List (Option Value)} {st : List Value} {h : am_H} {l0 : Option Value} {a : Int32} : am_ev 51 31 (l0 :: some (.int a) :: ls) (st) h = am_ev 51 34 (l0 :: some (.int (a + (1))) :: ls) (st) h := am_ev_step (q := (34, l0 :: some (.int (a + (1))) :: ls, st, h)) _ (.iinc 1 (1)) 3 am_my_51 (by decide +kernel) rfl
theorem e51_34 {ls : List (Option Value)} {st : List Value} {h : am_H} : am_ev 51 34 (ls) (st) h = am_ev 51 2 (ls) (st) h := am_ev_step (q := (2, ls, st, h)) _ (.goto (-32)) 3 am_my_51 (by decide +kernel) rfl
theorem e51_37 {ls : List (Option Value)} {st : List Value} {h : am_H} {a : Nat} : am_ev 51 37 (some (.ref a) :: ls) (st) h = am_ev 51 38 (some (.ref a) :: ls) (.ref a :: st) h := am_ev_step (q := (38, some (.ref a) :: ls, .ref a :: st, h)) _ (.aload_n 0) 1 am_my_51 (by decide +kernel) rfl
theorem e51_38 {ls : List (Option Value)} {st : List Value} {h : am_H} {o : Nat} (hk : am_kd h o = some (.inl 3)) : am_ev 51 38 ls (.ref o :: st) h = am_ev 51 41 ls (.int (h.1 o 2) :: st) h := am_u_gfI (idx := 28) (wn := 1057) am_my_51 (by decide +kernel) (by decide +kernel) (by decide +kernel) hk
theorem e51_41 {ls : List (Option Value)} {st : List Value} {h : am_H} {a : Nat} : am_ev 51 41 (some (.ref a) :: ls) (st) h = am_ev 51 42 (some (.ref a) :: ls) (.ref a :: st) h := am_ev_step (q := (42, some (.ref a) :: ls, .ref a :: st, h)) _ (.aload_n 0) 1 am_my_51 (by decide +kernel) rfl
theorem e51_42 {ls : List (Option Value)} {st : List Value} {h : am_H} {o : Nat} (hk : am_kd h o = some (.inl 3)) : am_ev 51 42 ls (.ref o :: st) h = am_ev 51 45 ls (.int (h.1 o 3) :: st) h := am_u_gfI (idx := 31) (wn := 1061) am_my_51 (by decide +kernel) (by decide +kernel) (by decide +kernel) hk
theorem e51_45 {ls : List (Option Value)} {st : List Value} {h : am_H} {a b : Int32} : am_ev 51 45 ls (.int b :: .int a :: st) h = if a = b then am_ev 51 74 ls st h else am_ev 51 48 ls st h := am_u_if2 (c := .eq) (off := 29) am_my_51 (by decide +kernel) (by decide)
theorem e51_48 {ls : List (Option Value)} {st : List Value} {h : am_H} {a : Nat} : am_ev 51 48 (some (.ref a) :: ls) (st) h = am_ev 51 49 (some (.ref a) :: ls) (.ref a :: st) h := am_ev_step (q := (49, some (.ref a) :: ls, .ref a :: st, h)) _ (.aload_n 0) 1 am_my_51 (by decide +kernel) rfl
theorem e51_49 {ls : List (Option Value)} {st : List Value} {h : am_H} {a : Nat} : am_ev 51 49 (some (.ref a) :: ls) (st) h = am_ev 51 50 (some (.ref a) :: ls) (.ref a :: st) h := am_ev_step (q := (50, some (.ref a) :: ls, .ref a :: st, h)) _ (.aload_n 0) 1 am_my_51 (by decide +kernel) rfl
theorem e51_50 {ls : List (Option Value)} {st : List Value} {h : am_H} {o : Nat} (hk : am_kd h o = some (.inl 3)) : am_ev 51 50 ls (.ref o :: st) h = am_ev 51 53 ls (.int (h.1 o 2) :: st) h := am_u_gfI (idx := 28) (wn := 1057) am_my_51 (by decide +kernel) (by decide +kernel) (by decide +kernel) hk
theorem e51_53 {ls : List (Option Value)} {st : List Value} {h : am_H} {p0 : Int32} {o : Nat} (hw : am_w8 st ≤ 8) (hk : am_kd h o = some (.inl 3)) : am_ev 51 53 ls (.int p0 :: .ref o :: st) h = am_bd (am_den 53 [.ref o, .int p0] h) (fun v h1 => am_ev 51 56 ls (v.toList ++ st) h1) := am_u_cV (idx := 76) (wn := 3124) (as := [.int p0]) am_my_51 (by decide +kernel) (Or.inl (by decide +kernel)) am_my_53 (by decide +kernel) rfl ⟨Nat.le_of_ble_eq_true rfl, rfl⟩ (by decide +kernel) hw hk
theorem e51_56 {ls : List (Option Value)} {st : List Value} {h : am_H} {a : Int32} : am_ev 51 56 ls (.int a :: st) h = if ¬ a = 0 then am_ev 51 74 ls st h else am_ev 51 59 ls st h := am_u_if1 (c := .ne) (off := 18) am_my_51 (by decide +kernel) (by decide)
theorem e51_59 {ls : List (Option Value)} {st : List Value} {h : am_H} {a : Nat} : am_ev 51 59 (some (.ref a) :: ls) (st) h = am_ev 51 60 (some (.ref a) :: ls) (.ref a :: st) h := am_ev_step (q := (60, some (.ref a) :: ls, .ref a :: st, h)) _ (.aload_n 0) 1 am_my_51 (by decide +kernel) rfl
theorem e51_60 {ls : List (Option Value)} {st : List Value} {h : am_H} {a : Nat} : am_ev 51 60 (some (.ref a) :: ls) (st) h = am_ev 51 61 (some (.ref a) :: ls) (.ref a :: st) h := am_ev_step (q := (61, some (.ref a) :: ls, .ref a :: st, h)) _ (.aload_n 0) 1 am_my_51 (by decide +kernel) rfl
theorem e51_61 {ls : List (Option Value)} {st : List Value} {h : am_H} {o : Nat} (hk : am_kd h o = some (.inl 3)) : am_ev 51 61 ls (.ref o :: st) h = am_ev 51 64 ls (.int (h.1 o 3) :: st) h := am_u_gfI (idx := 31) (wn := 1061) am_my_51 (by decide +kernel) (by decide +kernel) (by decide +kernel) hk
theorem e51_64 {ls : List (Option Value)} {st : List Value} {h : am_H} {p0 : Int32} {o : Nat} (hw : am_w8 st ≤ 8) (hk : am_kd h o = some (.inl 3)) : am_ev 51 64 ls (.int p0 :: .ref o :: st) h = am_bd (am_den 53 [.ref o, .int p0] h) (fun v h1 => am_ev 51 67 ls (v.toList ++ st) h1) := am_u_cV (idx := 76) (wn := 3124) (as := [.int p0]) am_my_51 (by decide +kernel) (Or.inl (by decide +kernel)) am_my_53 (by decide +kernel) rfl ⟨Nat.le_of_ble_eq_true rfl, rfl⟩ (by decide +kernel) hw hk
theorem e51_67 {ls : List (Option Value)} {st : List Value} {h : am_H} {a : Int32} : am_ev 51 67 ls (.int a :: st) h = if ¬ a = 0 then am_ev 51 74 ls st h else am_ev 51 70 ls st h := am_u_if1 (c := .ne) (off := 7) am_my_51 (by decide +kernel) (by decide)
theorem e51_70 {ls : List (Option Value)} {st : List Value} {h : am_H} : am_ev 51 70 (ls) (st) h = am_ev 51 71 (ls) (.int (1) :: st) h := am_ev_step (q := (71, ls, .int (1) :: st, h)) _ (.iconst (1)) 1 am_my_51 (by decide +kernel) rfl
theorem e51_71 {ls : List (Option Value)} {st : List Value} {h : am_H} : am_ev 51 71 (ls) (st) h = am_ev 51 75 (ls) (st) h := am_ev_step (q := (75, ls, st, h)) _ (.goto (4)) 3 am_my_51 (by decide +kernel) rfl
theorem e51_74 {ls : List (Option Value)} {st : List Value} {h : am_H} : am_ev 51 74 (ls) (st) h = am_ev 51 75 (ls) (.int (0) :: st) h := am_ev_step (q := (75, ls, .int (0) :: st, h)) _ (.iconst (0)) 1 am_my_51 (by decide +kernel) rfl
theorem e51_75 {ls : List (Option Value)} {st : List Value} {h : am_H} {l0 : Option Value} {z : Option Value} {a : Int32} : am_ev 51 75 (l0 :: z :: ls) (.int a :: st) h = am_ev 51 76 (l0 :: some (.int a) :: ls) (st) h := am_ev_step (q := (76, l0 :: some (.int a) :: ls, st, h)) _ (.istore_n 1) 1 am_my_51 (by decide +kernel) rfl
theorem e51_76 {ls : List (Option Value)} {st : List Value} {h : am_H} : am_ev 51 76 (ls) (st) h = am_ev 51 77 (ls) (.int (0) :: st) h := am_ev_step (q := (77, ls, .int (0) :: st, h)) _ (.iconst (0)) 1 am_my_51 (by decide +kernel) rfl
theorem e51_77 {ls : List (Option Value)} {st : List Value} {h : am_H} {l0 l1 : Option Value} {z : Option Value} {a : Int32} : am_ev 51 77 (l0 :: l1 :: z :: ls) (.int a :: st) h = am_ev 51 78 (l0 :: l1 :: some (.int a) :: ls) (st) h := am_ev_step (q := (78, l0 :: l1 :: some (.int a) :: ls, st, h)) _ (.istore_n 2) 1 am_my_51 (by decide +kernel) rfl
theorem e51_78 {ls : List (Option Value)} {st : List Value} {h : am_H} {l0 l1 : Option Value} {a : Int32} : am_ev 51 78 (l0 :: l1 :: some (.int a) :: ls) (st) h = am_ev 51 79 (l0 :: l1 :: some (.int a) :: ls) (.int a :: st) h := am_ev_step (q := (79, l0 :: l1 :: some (.int a) :: ls, .int a :: st, h)) _ (.iload_n 2) 1 am_my_51 (by decide +kernel) rfl
theorem e51_79 {ls : List (Option Value)} {st : List Value} {h : am_H} {a : Nat} : am_ev 51 79 (some (.ref a) :: ls) (st) h = am_ev 51 80 (some (.ref a) :: ls) (.ref a :: st) h := am_ev_step (q := (80, some (.ref a) :: ls, .ref a :: st, h)) _ (.aload_n 0) 1 am_my_51 (by decide +kernel) rfl
theorem e51_80 {ls : List (Option Value)} {st : List Value} {h : am_H} {o : Nat} (hk : am_kd h o = some (.inl 3)) : am_ev 51 80 ls (.ref o :: st) h = am_ev 51 83 ls (.int (h.1 o 5) :: st) h := am_u_gfI (idx := 37) (wn := 1064) am_my_51 (by decide +kernel) (by decide +kernel) (by decide +kernel) hk
theorem e51_83 {ls : List (Option Value)} {st : List Value} {h : am_H} {a b : Int32} : am_ev 51 83 ls (.int b :: .int a :: st) h = if b ≤ a then am_ev 51 140 ls st h else am_ev 51 86 ls st h := am_u_if2 (c := .ge) (off := 57) am_my_51 (by decide +kernel) (by decide)
theorem e51_86 {ls : List (Option Value)} {st : List Value} {h : am_H} {a : Nat} : am_ev 51 86 (some (.ref a) :: ls) (st) h = am_ev 51 87 (some (.ref a) :: ls) (.ref a :: st) h := am_ev_step (q := (87, some (.ref a) :: ls, .ref a :: st, h)) _ (.aload_n 0) 1 am_my_51 (by decide +kernel) rfl
theorem e51_87 {ls : List (Option Value)} {st : List Value} {h : am_H} {o : Nat} (hk : am_kd h o = some (.inl 3)) : am_ev 51 87 ls (.ref o :: st) h = am_ev 51 90 ls (va_rf (h.2.2.1 o 8) :: st) h := am_u_gfR (idx := 15) (wn := 1072) (a := 0) am_my_51 (by decide +kernel) (by decide +kernel) (by decide +kernel) hk
theorem e51_90 {ls : List (Option Value)} {st : List Value} {h : am_H} {l0 l1 : Option Value} {a : Int32} : am_ev 51 90 (l0 :: l1 :: some (.int a) :: ls) (st) h = am_ev 51 91 (l0 :: l1 :: some (.int a) :: ls) (.int a :: st) h := am_ev_step (q := (91, l0 :: l1 :: some (.int a) :: ls, .int a :: st, h)) _ (.iload_n 2) 1 am_my_51 (by decide +kernel) rfl
theorem e51_91 {ls : List (Option Value)} {st : List Value} {h : am_H} {i : Int32} {a : Nat} (ht : am_tc h a = some 0) : am_ev 51 91 ls (.int i :: .ref a :: st) h = if am_ix i (am_len h a) = true then am_ev 51 92 ls (.int (h.1 a i.toNatClampNeg) :: st) h else none := am_u_rI am_my_51 (by decide +kernel) ht
theorem e51_92 {ls : List (Option Value)} {st : List Value} {h : am_H} {l0 l1 l2 : Option Value} {z : Option Value} {a : Int32} : am_ev 51 92 (l0 :: l1 :: l2 :: z :: ls) (.int a :: st) h = am_ev 51 93 (l0 :: l1 :: l2 :: some (.int a) :: ls) (st) h := am_ev_step (q := (93, l0 :: l1 :: l2 :: some (.int a) :: ls, st, h)) _ (.istore_n 3) 1 am_my_51 (by decide +kernel) rfl
theorem e51_93 {ls : List (Option Value)} {st : List Value} {h : am_H} {l0 : Option Value} {a : Int32} : am_ev 51 93 (l0 :: some (.int a) :: ls) (st) h = am_ev 51 94 (l0 :: some (.int a) :: ls) (.int a :: st) h := am_ev_step (q := (94, l0 :: some (.int a) :: ls, .int a :: st, h)) _ (.iload_n 1) 1 am_my_51 (by decide +kernel) rfl
theorem e51_94 {ls : List (Option Value)} {st : List Value} {h : am_H} {l0 l1 l2 : Option Value} {a : Int32} : am_ev 51 94 (l0 :: l1 :: l2 :: some (.int a) :: ls) (st) h = am_ev 51 95 (l0 :: l1 :: l2 :: some (.int a) :: ls) (.int a :: st) h := am_ev_step (q := (95, l0 :: l1 :: l2 :: some (.int a) :: ls, .int a :: st, h)) _ (.iload_n 3) 1 am_my_51 (by decide +kernel) rfl
theorem e51_95 {ls : List (Option Value)} {st : List Value} {h : am_H} {a : Nat} : am_ev 51 95 (some (.ref a) :: ls) (st) h = am_ev 51 96 (some (.ref a) :: ls) (.ref a :: st) h := am_ev_step (q := (96, some (.ref a) :: ls, .ref a :: st, h)) _ (.aload_n 0) 1 am_my_51 (by decide +kernel) rfl
theorem e51_96 {ls : List (Option Value)} {st : List Value} {h : am_H} {o : Nat} (hk : am_kd h o = some (.inl 3)) : am_ev 51 96 ls (.ref o :: st) h = am_ev 51 99 ls (.int (h.1 o 2) :: st) h := am_u_gfI (idx := 28) (wn := 1057) am_my_51 (by decide +kernel) (by decide +kernel) (by decide +kernel) hk
theorem e51_99 {ls : List (Option Value)} {st : List Value} {h : am_H} {a b : Int32} : am_ev 51 99 ls (.int b :: .int a :: st) h = if a = b then am_ev 51 131 ls st h else am_ev 51 102 ls st h := am_u_if2 (c := .eq) (off := 32) am_my_51 (by decide +kernel) (by decide)
theorem e51_102 {ls : List (Option Value)} {st : List Value} {h : am_H} {l0 l1 l2 : Option Value} {a : Int32} : am_ev 51 102 (l0 :: l1 :: l2 :: some (.int a) :: ls) (st) h = am_ev 51 103 (l0 :: l1 :: l2 :: some (.int a) :: ls) (.int a :: st) h := am_ev_step (q := (103, l0 :: l1 :: l2 :: some (.int a) :: ls, .int a :: st, h)) _ (.iload_n 3) 1 am_my_51 (by decide +kernel) rfl
theorem e51_103 {ls : List (Option Value)} {st : List Value} {h : am_H} {a : Nat} : am_ev 51 103 (some (.ref a) :: ls) (st) h = am_ev 51 104 (some (.ref a) :: ls) (.ref a :: st) h := am_ev_step (q := (104, some (.ref a) :: ls, .ref a :: st, h)) _ (.aload_n 0) 1 am_my_51 (by decide +kernel) rfl
theorem e51_104 {ls : List (Option Value)} {st : List Value} {h : am_H} {o : Nat} (hk : am_kd h o = some (.inl 3)) : am_ev 51 104 ls (.ref o :: st) h = am_ev 51 107 ls (.int (h.1 o 3) :: st) h := am_u_gfI (idx := 31) (wn := 1061) am_my_51 (by decide +kernel) (by decide +kernel) (by decide +kernel) hk
theorem e51_107 {ls : List (Option Value)} {st : List Value} {h : am_H} {a b : Int32} : am_ev 51 107 ls (.int b :: .int a :: st) h = if a = b then am_ev 51 131 ls st h else am_ev 51 110 ls st h := am_u_if2 (c := .eq) (off := 24) am_my_51 (by decide +kernel) (by decide)
theorem e51_110 {ls : List (Option Value)} {st : List Value} {h : am_H} {a : Nat} : am_ev 51 110 (some (.ref a) :: ls) (st) h = am_ev 51 111 (some (.ref a) :: ls) (.ref a :: st) h := am_ev_step (q := (111, some (.ref a) :: ls, .ref a :: st, h)) _ (.aload_n 0) 1 am_my_51 (by decide +kernel) rfl
theorem e51_111 {ls : List (Option Value)} {st : List Value} {h : am_H} {l0 l1 l2 : Option Value} {a : Int32} : am_ev 51 111 (l0 :: l1 :: l2 :: some (.int a) :: ls) (st) h = am_ev 51 112 (l0 :: l1 :: l2 :: some (.int a) :: ls) (.int a :: st) h := am_ev_step (q := (112, l0 :: l1 :: l2 :: some (.int a) :: ls, .int a :: st, h)) _ (.iload_n 3) 1 am_my_51 (by decide +kernel) rfl
theorem e51_112 {ls : List (Option Value)} {st : List Value} {h : am_H} {p0 : Int32} {o : Nat} (hw : am_w8 st ≤ 8) (hk : am_kd h o = some (.inl 3)) : am_ev 51 112 ls (.int p0 :: .ref o :: st) h = am_bd (am_den 53 [.ref o, .int p0] h) (fun v h1 => am_ev 51 115 ls (v.toList ++ st) h1) := am_u_cV (idx := 76) (wn := 3124) (as := [.int p0]) am_my_51 (by decide +kernel) (Or.inl (by decide +kernel)) am_my_53 (by decide +kernel) rfl ⟨Nat.le_of_ble_eq_true rfl, rfl⟩ (by decide +kernel) hw hk
theorem e51_115 {ls : List (Option Value)} {st : List Value} {h : am_H} {a : Int32} : am_ev 51 115 ls (.int a :: st) h = if ¬ a = 0 then am_ev 51 131 ls st h else am_ev 51 118 ls st h := am_u_if1 (c := .ne) (off := 16) am_my_51 (by decide +kernel) (by decide)
theorem e51_118 {ls : List (Option Value)} {st : List Value} {h : am_H} {a : Nat} : am_ev 51 118 (some (.ref a) :: ls) (st) h = am_ev 51 119 (some (.ref a) :: ls) (.ref a :: st) h := am_ev_step (q := (119, some (.ref a) :: ls, .ref a :: st, h)) _ (.aload_n 0) 1 am_my_51 (by decide +kernel) rfl
theorem e51_119 {ls : List (Option Value)} {st : List Value} {h : am_H} {l0 l1 l2 : Option Value} {a : Int32} : am_ev 51 119 (l0 :: l1 :: l2 :: some (.int a) :: ls) (st) h = am_ev 51 120 (l0 :: l1 :: l2 :: some (.int a) :: ls) (.int a :: st) h := am_ev_step (q := (120, l0 :: l1 :: l2 :: some (.int a) :: ls, .int a :: st, h)) _ (.iload_n 3) 1 am_my_51 (by decide +kernel) rfl
theorem e51_120 {ls : List (Option Value)} {st : List Value} {h : am_H} {p0 : Int32} {o : Nat} (hw : am_w8 st ≤ 8) (hk : am_kd h o = some (.inl 3)) : am_ev 51 120 ls (.int p0 :: .ref o :: st) h = am_bd (am_den 54 [.ref o, .int p0] h) (fun v h1 => am_ev 51 123 ls (v.toList ++ st) h1) := am_u_cV (idx := 79) (wn := 3128) (as := [.int p0]) am_my_51 (by decide +kernel) (Or.inl (by decide +kernel)) am_my_54 (by decide +kernel) rfl ⟨Nat.le_of_ble_eq_true rfl, rfl⟩ (by decide +kernel) hw hk
theorem e51_123 {ls : List (Option Value)} {st : List Value} {h : am_H} {l0 l1 : Option Value} {a : Int32} : am_ev 51 123 (l0 :: l1 :: some (.int a) :: ls) (st) h = am_ev 51 124 (l0 :: l1 :: some (.int a) :: ls) (.int a :: st) h := am_ev_step (q := (124, l0 :: l1 :: some (.int a) :: ls, .int a :: st, h)) _ (.iload_n 2) 1 am_my_51 (by decide +kernel) rfl
theorem e51_124 {ls : List (Option Value)} {st : List Value} {h : am_H} {a b : Int32} : am_ev 51 124 ls (.int b :: .int a :: st) h = if ¬ a = b then am_ev 51 131 ls st h else am_ev 51 127 ls st h := am_u_if2 (c := .ne) (off := 7) am_my_51 (by decide +kernel) (by decide)
theorem e51_127 {ls : List (Option Value)} {st : List Value} {h : am_H} : am_ev 51 127 (ls) (st) h = am_ev 51 128 (ls) (.int (1) :: st) h := am_ev_step (q := (128, ls, .int (1) :: st, h)) _ (.iconst (1)) 1 am_my_51 (by decide +kernel) rfl
theorem e51_128 {ls : List (Option Value)} {st : List Value} {h : am_H} : am_ev 51 128 (ls) (st) h = am_ev 51 132 (ls) (st) h := am_ev_step (q := (132, ls, st, h)) _ (.goto (4)) 3 am_my_51 (by decide +kernel) rfl
theorem e51_131 {ls : List (Option Value)} {st : List Value} {h : am_H} : am_ev 51 131 (ls) (st) h = am_ev 51 132 (ls) (.int (0) :: st) h := am_ev_step (q := (132, ls, .int (0) :: st, h)) _ (.iconst (0)) 1 am_my_51 (by decide +kernel) rfl
theorem e51_132 {ls : List (Option Value)} {st : List Value} {h : am_H} {a b : Int32} : am_ev 51 132 (ls) (.int b :: .int a :: st) h = am_ev 51 133 (ls) (.int (a &&& b) :: st) h := am_ev_step (q := (133, ls, .int (a &&& b) :: st, h)) _ (.iand) 1 am_my_51 (by decide +kernel) rfl
theorem e51_133 {ls : List (Option Value)} {st : List Value} {h : am_H} {l0 : Option Value} {z : Option Value} {a : Int32} : am_ev 51 133 (l0 :: z :: ls) (.int a :: st) h = am_ev 51 134 (l0 :: some (.int a) :: ls) (st) h := am_ev_step (q := (134, l0 :: some (.int a) :: ls, st, h)) _ (.istore_n 1) 1 am_my_51 (by decide +kernel) rfl
theorem e51_134 {ls : List (Option Value)} {st : List Value} {h : am_H} {l0 l1 : Option Value} {a : Int32} : am_ev 51 134 (l0 :: l1 :: some (.int a) :: ls) (st) h = am_ev 51 137 (l0 :: l1 :: some (.int (a + (1))) :: ls) (st) h := am_ev_step (q := (137, l0 :: l1 :: some (.int (a + (1))) :: ls, st, h)) _ (.iinc 2 (1)) 3 am_my_51 (by decide +kernel) rfl
theorem e51_137 {ls : List (Option Value)} {st : List Value} {h : am_H} : am_ev 51 137 (ls) (st) h = am_ev 51 78 (ls) (st) h := am_ev_step (q := (78, ls, st, h)) _ (.goto (-59)) 3 am_my_51 (by decide +kernel) rfl
theorem e51_140 {ls : List (Option Value)} {st : List Value} {h : am_H} {l0 : Option Value} {a : Int32} : am_ev 51 140 (l0 :: some (.int a) :: ls) (st) h = am_ev 51 141 (l0 :: some (.int a) :: ls) (.int a :: st) h := am_ev_step (q := (141, l0 :: some (.int a) :: ls, .int a :: st, h)) _ (.iload_n 1) 1 am_my_51 (by decide +kernel) rfl
theorem e51_141 {ls : List (Option Value)} {st : List Value} {h : am_H} {a : Int32} : am_ev 51 141 ls (.int a :: st) h = if a = 0 then am_ev 51 148 ls st h else am_ev 51 144 ls st h := am_u_if1 (c := .eq) (off := 7) am_my_51 (by decide +kernel) (by decide)
theorem e51_144 {ls : List (Option Value)} {st : List Value} {h : am_H} : am_ev 51 144 (ls) (st) h = am_ev 51 145 (ls) (.int (0) :: st) h := am_ev_step (q := (145, ls, .int (0) :: st, h)) _ (.iconst (0)) 1 am_my_51 (by decide +kernel) rfl
theorem e51_145 {ls : List (Option Value)} {st : List Value} {h : am_H} : am_ev 51 145 (ls) (st) h = am_ev 51 149 (ls) (st) h := am_ev_step (q := (149, ls, st, h)) _ (.goto (4)) 3 am_my_51 (by decide +kernel) rfl
theorem e51_148 {ls : List (Option Value)} {st : List Value} {h : am_H} : am_ev 51 148 (ls) (st) h = am_ev 51 149 (ls) (.int (5) :: st) h := am_ev_step (q := (149, ls, .int (5) :: st, h)) _ (.iconst (5)) 1 am_my_51 (by decide +kernel) rfl
theorem e51_149 {ls : List (Option Value)} {h : am_H} {v : Int32} : am_ev 51 149 ls [.int v] h = some (some (.int v), h) := am_u_rtI am_my_51 (by decide +kernel) rfl
theorem den_inside2 (h : am_H) (o : Nat) (f : q_Fl) (cf : q_cf h o f) (w8 : F_w f ≤ 8) (h8 : F_h f ≤ 8) (c : Nat) (hc : c < 64) : am_den 52 [.ref o, .int (nI c)] h = some (some (.int (q_bi (F_insB (F_w f) (F_h f) c))), h) := by
  obtain ⟨fo, c0, c1, -⟩ := cf
  obtain ⟨d1, d2⟩ := q_d8 hc
  have n8 : ¬ (8 : Int32) = 0 := by decide
  have p0 : ¬ nI c < 0 := nI_pos (by omega)
  have k1 : nI (F_w f) ≤ nI (c % 8) ↔ F_w f ≤ c % 8 := nI_leI (by omega) (by omega)
  have k2 : nI (F_h f) ≤ nI (c / 8) ↔ F_h f ≤ c / 8 := nI_leI (by omega) (by omega)
  show am_ev 52 0 [some (.ref o), some (.int (nI c))] [] h = _
  simp only [e52_0, e52_1, e52_4, e52_5, e52_7, e52_8, e52_9, e52_12, e52_15, e52_16, e52_18, e52_19, e52_20, e52_23, e52_26, e52_27, e52_30, e52_31, am_bd_some, Option.toList_some, Option.toList_none, List.cons_append, List.nil_append, am_w8_0, am_w8_1, am_w8_2, am_w8_3, am_w8_4, eq_self, or_true, true_or, am_kd_sI, am_kd_sL, am_kd_sR, am_tc_sI, am_tc_sL, am_tc_sR, am_len_sI, am_len_sL, am_len_sR, am_rfs, if_true, if_false, am_rdL_sI, am_rR_sL, am_rt_cq, am_kd_cq, am_tc_cq, am_len_cq, am_rd_sL, am_rd_sR, am_rdL_sR, p0, n8, d1, d2, fo.1, c0, c1, k1, k2, F_insB]
  by_cases a : F_w f ≤ c % 8
  · have a' : ¬ c % 8 < F_w f := by omega
    simp [a, a', q_bi]
  · have a' : c % 8 < F_w f := by omega
    by_cases b : F_h f ≤ c / 8
    · have b' : ¬ c / 8 < F_h f := by omega
      simp [a, a', b, b', q_bi]
    · have b' : c / 8 < F_h f := by omega
      simp [a, a', b, b', q_bi]
theorem q_bat2 (h : am_H) (o : Nat) (f : q_Fl) (cF : q_cF h o f) (n6 : F_n f ≤ 6) (cl : ∀ b, b < F_n f → F_cell f b < 64) (c : Nat) (hc : c < 64) : ∀ r b, b + r = F_n f → am_ev 54 2 [some (.ref o), some (.int (nI c)), some (.int (nI b))] [] h = some (some (.int (q_ov (q_first (fun b => decide (F_cell f b = c)) r b))), h) := by
  obtain ⟨⟨fo, c0, c1, c2, c4, c5, c6, c7⟩, c3, cc⟩ := cF
  intro r
  induction r with
  | zero =>
    intro b hb
    have h1 : nI (F_n f) ≤ nI b := nI_le (by omega) (by omega)
    rw [e54_2]
    simp only [e54_0, e54_1, e54_3, e54_4, e54_7, e54_10, e54_11, e54_14, e54_15, e54_16, e54_17, e54_20, e54_21, e54_22, e54_25, e54_28, e54_29, am_bd_some, Option.toList_some, Option.toList_none, List.cons_append, List.nil_append, am_w8_0, am_w8_1, am_w8_2, am_w8_3, am_w8_4, eq_self, or_true, true_or, am_kd_sI, am_kd_sL, am_kd_sR, am_tc_sI, am_tc_sL, am_tc_sR, am_len_sI, am_len_sL, am_len_sR, am_rfs, if_true, if_false, am_rdL_sI, am_rR_sL, am_rt_cq, am_kd_cq, am_tc_cq, am_len_cq, am_rd_sL, am_rd_sR, am_rdL_sR, fo.1, c5, h1, q_first, q_ov]
  | succ r ih =>
    intro b hb
    have h1 : ¬ nI (F_n f) ≤ nI b := nI_ge (by omega) (by omega)
    have x : am_ix (nI b) 6 = true := am_ix_nI (by omega) (by decide)
    have z : (nI b).toNatClampNeg = b := nI_clamp (by omega)
    have v := cc b (by omega)
    have cb := cl b (by omega)
    have eq : nI (F_cell f b) = nI c ↔ F_cell f b = c := nI_eq (by omega) (by omega)
    rw [e54_2]
    unfold q_first
    by_cases w : F_cell f b = c
    · have w' := eq_true (eq.mpr w)
      rw [if_pos (decide_eq_true w)]
      simp only [e54_0, e54_1, e54_3, e54_4, e54_7, e54_10, e54_11, e54_14, e54_15, e54_16, e54_17, e54_20, e54_21, e54_22, e54_25, e54_28, e54_29, am_bd_some, Option.toList_some, Option.toList_none, List.cons_append, List.nil_append, am_w8_0, am_w8_1, am_w8_2, am_w8_3, am_w8_4, eq_self, or_true, true_or, am_kd_sI, am_kd_sL, am_kd_sR, am_tc_sI, am_tc_sL, am_tc_sR, am_len_sI, am_len_sL, am_len_sR, am_rfs, if_true, if_false, am_rdL_sI, am_rR_sL, am_rt_cq, am_kd_cq, am_tc_cq, am_len_cq, am_rd_sL, am_rd_sR, am_rdL_sR, fo.1, fo.2.2.1, q_tc fo.2.2.2.2, q_ln fo.2.2.2.2, c5, h1, x, z, v, w', not_true]
      rfl
    · have w' := eq_false (fun u => w (eq.mp u))
      rw [if_neg (fun u => w (of_decide_eq_true u)), ← ih (b + 1) (by omega)]
      simp only [e54_0, e54_1, e54_3, e54_4, e54_7, e54_10, e54_11, e54_14, e54_15, e54_16, e54_17, e54_20, e54_21, e54_22, e54_25, e54_28, e54_29, am_bd_some, Option.toList_some, Option.toList_none, List.cons_append, List.nil_append, am_w8_0, am_w8_1, am_w8_2, am_w8_3, am_w8_4, eq_self, or_true, true_or, am_kd_sI, am_kd_sL, am_kd_sR, am_tc_sI, am_tc_sL, am_tc_sR, am_len_sI, am_len_sL, am_len_sR, am_rfs, if_true, if_false, am_rdL_sI, am_rR_sL, am_rt_cq, am_kd_cq, am_tc_cq, am_len_cq, am_rd_sL, am_rd_sR, am_rdL_sR, fo.1, fo.2.2.1, q_tc fo.2.2.2.2, q_ln fo.2.2.2.2, c5, h1, x, z, v, w', not_false_eq_true, nI_1]
theorem den_beastAt2 (h : am_H) (o : Nat) (f : q_Fl) (cF : q_cF h o f) (n6 : F_n f ≤ 6) (cl : ∀ b, b < F_n f → F_cell f b < 64) (c : Nat) (hc : c < 64) : am_den 54 [.ref o, .int (nI c)] h = some (some (.int (q_ov (q_first (fun b => decide (F_cell f b = c)) (F_n f) 0))), h) := by
  rw [← q_bat2 h o f cF n6 cl c hc (F_n f) 0 (Nat.zero_add _)]
  show am_ev 54 0 [some (.ref o), some (.int (nI c)), none] [] h = _
  simp only [e54_0, e54_1, e54_3, e54_4, e54_7, e54_10, e54_11, e54_14, e54_15, e54_16, e54_17, e54_20, e54_21, e54_22, e54_25, e54_28, e54_29, am_bd_some, Option.toList_some, Option.toList_none, List.cons_append, List.nil_append, am_w8_0, am_w8_1, am_w8_2, am_w8_3, am_w8_4, eq_self, or_true, true_or, am_kd_sI, am_kd_sL, am_kd_sR, am_tc_sI, am_tc_sL, am_tc_sR, am_len_sI, am_len_sL, am_len_sR, am_rfs, if_true, if_false, am_rdL_sI, am_rR_sL, am_rt_cq, am_kd_cq, am_tc_cq, am_len_cq, am_rd_sL, am_rd_sR, am_rdL_sR]
  rfl
def f_al (P : Nat → Bool) : Nat → Nat → Bool
  | 0, _ => true
  | r + 1, i => P i && f_al P r (i + 1)
theorem f_al_iff (P : Nat → Bool) : ∀ r i, f_al P r i = true ↔ ∀ k, i ≤ k → k < i + r → P k = true := by
  intro r
  induction r with
  | zero => exact fun i => ⟨fun _ k h1 h2 => absurd h2 (by omega), fun _ => rfl⟩
  | succ r ih =>
    intro i
    show (P i && f_al P r (i + 1)) = true ↔ _
    rw [Bool.and_eq_true, ih]
    constructor
    · intro ⟨h1, h2⟩ k a b
      by_cases e : k = i
      · rw [e]; exact h1
      · exact h2 k (by omega) (by omega)
    · exact fun q => ⟨q i (Nat.le_refl _) (by omega), fun k a b => q k (by omega) (by omega)⟩
theorem q_first_is (P : Nat → Bool) : ∀ r i d, q_first P r i = some d ↔ (i ≤ d ∧ d < i + r ∧ P d = true ∧ ∀ o, i ≤ o → o < d → P o = false) := by
  intro r
  induction r with
  | zero => exact fun i d => ⟨fun q => (by cases q), fun q => absurd q.2.1 (by omega)⟩
  | succ r ih =>
    intro i d
    unfold q_first
    cases c : P i with
    | true =>
      rw [if_pos rfl]
      constructor
      · intro q
        obtain rfl := Option.some.inj q
        exact ⟨Nat.le_refl _, by omega, c, fun o a b => absurd b (by omega)⟩
      · intro ⟨a1, a2, a3, a4⟩
        by_cases e : d = i
        · rw [e]
        · have := a4 i (Nat.le_refl _) (by omega)
          rw [c] at this
          cases this
    | false =>
      rw [if_neg (by decide), ih]
      constructor
      · intro ⟨a1, a2, a3, a4⟩
        refine ⟨by omega, by omega, a3, fun o a b => ?_⟩
        by_cases e : o = i
        · rw [e]; exact c
        · exact a4 o (by omega) b
      · intro ⟨a1, a2, a3, a4⟩
        refine ⟨?_, by omega, a3, fun o a b => a4 o (by omega) b⟩
        by_cases e : d = i
        · rw [e, c] at a3; cases a3
        · omega
/-- a beast stands alone, in no wall, not with the dog, not in the pen -/
def f_one (f : q_Fl) (b : Nat) : Bool := if F_cell f b = F_pen f then false else if F_cell f b = F_dog f then false else if F_wall f (F_cell f b) = true then false else decide (q_first (fun k => decide (F_cell f k = F_cell f b)) (F_n f) 0 = some b)
def f_pd (f : q_Fl) : Bool := if F_pen f = F_dog f then false else if F_wall f (F_pen f) = true then false else !F_wall f (F_dog f)
def f_good (f : q_Fl) : Bool := f_pd f && f_al (f_one f) (F_n f) 0
theorem f_good_iff (f : q_Fl) : f_good f = true ↔ (F_pen f ≠ F_dog f ∧ F_wall f (F_pen f) = false ∧ F_wall f (F_dog f) = false) ∧ ∀ b, b < F_n f → F_cell f b ≠ F_pen f ∧ F_cell f b ≠ F_dog f ∧ F_wall f (F_cell f b) = false ∧ ∀ o, o < b → F_cell f o ≠ F_cell f b := by
  unfold f_good
  rw [Bool.and_eq_true, f_al_iff]
  have h1 : f_pd f = true ↔ (F_pen f ≠ F_dog f ∧ F_wall f (F_pen f) = false ∧ F_wall f (F_dog f) = false) := by
    unfold f_pd
    by_cases c : F_pen f = F_dog f
    · rw [if_pos c]; exact ⟨fun q => (by cases q), fun q => absurd c q.1⟩
    · rw [if_neg c]
      cases F_wall f (F_pen f) <;> cases F_wall f (F_dog f) <;> simp [c]
  have h2 : ∀ b, b < F_n f → (f_one f b = true ↔ F_cell f b ≠ F_pen f ∧ F_cell f b ≠ F_dog f ∧ F_wall f (F_cell f b) = false ∧ ∀ o, o < b → F_cell f o ≠ F_cell f b) := by
    intro b hb
    unfold f_one
    by_cases c1 : F_cell f b = F_pen f
    · rw [if_pos c1]; exact ⟨fun q => (by cases q), fun q => absurd c1 q.1⟩
    rw [if_neg c1]
    by_cases c2 : F_cell f b = F_dog f
    · rw [if_pos c2]; exact ⟨fun q => (by cases q), fun q => absurd c2 q.2.1⟩
    rw [if_neg c2]
    cases c3 : F_wall f (F_cell f b) with
    | true => rw [if_pos rfl]; exact ⟨fun q => (by cases q), fun q => (by have := q.2.2.1; cases this)⟩
    | false =>
      rw [if_neg (by decide), decide_eq_true_eq, q_first_is]
      constructor
      · intro q
        exact ⟨c1, c2, rfl, fun o ho => of_decide_eq_false (q.2.2.2 o (Nat.zero_le _) ho)⟩
      · intro q
        exact ⟨Nat.zero_le _, by omega, decide_eq_true rfl, fun o _ ho => decide_eq_false (q.2.2.2 o ho)⟩
  rw [h1]
  constructor
  · exact fun ⟨a, q⟩ => ⟨a, fun b hb => (h2 b hb).mp (q b (Nat.zero_le _) (by omega))⟩
  · exact fun ⟨a, q⟩ => ⟨a, fun b _ hb => (h2 b (by omega)).mpr (q b (by omega))⟩
def f_flaw (d : f_D) : Nat := if F_w d.1 < d.2.1 ∨ F_h d.1 < d.2.2 then 4 else if f_good d.1 = true then 0 else 5
/-- bounds of what is told -/
def f_bd (d : f_D) : Prop := (2 ≤ F_w d.1 ∧ F_w d.1 ≤ 8) ∧ (2 ≤ F_h d.1 ∧ F_h d.1 ≤ 8) ∧ F_pen d.1 < 64 ∧ F_dog d.1 < 64 ∧ ∀ b, b < F_n d.1 → F_cell d.1 b < 64
theorem f_any {w : Int64} {d : f_D} (H : f_bits w d.2.1 d.2.2) : q_any (fun c => q_bit w c && !F_insB (F_w d.1) (F_h d.1) c) 64 0 = true ↔ (F_w d.1 < d.2.1 ∨ F_h d.1 < d.2.2) := by
  obtain ⟨a1, a2, a3⟩ := H
  have ins : ∀ c, F_insB (F_w d.1) (F_h d.1) c = false ↔ ¬ (c % 8 < F_w d.1 ∧ c / 8 < F_h d.1) := fun c => by
    unfold F_insB
    by_cases p : c % 8 < F_w d.1 <;> by_cases q : c / 8 < F_h d.1 <;> simp [p, q]
  rw [q_any_iff]
  constructor
  · intro ⟨c, _, hc, q⟩
    rw [Bool.and_eq_true, Bool.not_eq_true'] at q
    have b := a1 c (by omega) q.1
    have n := (ins c).mp q.2
    omega
  · intro q
    rcases q with q | q
    · obtain ⟨c, c1, c2, c3⟩ := a2 (by omega)
      refine ⟨c, Nat.zero_le _, by omega, ?_⟩
      rw [Bool.and_eq_true, Bool.not_eq_true']
      exact ⟨c2, (ins c).mpr (by omega)⟩
    · obtain ⟨c, c1, c2, c3⟩ := a3 (by omega)
      refine ⟨c, Nat.zero_le _, by omega, ?_⟩
      rw [Bool.and_eq_true, Bool.not_eq_true']
      exact ⟨c2, (ins c).mpr (by omega)⟩
theorem q_bi_and (a b : Bool) : q_bi a &&& q_bi b = q_bi (a && b) := by cases a <;> cases b <;> decide
theorem f_l1 (h : am_H) (ok : am_okH h) (f : q_Fl) (cf : q_cf h 160 f) (w8 : F_w f ≤ 8) (h8 : F_h f ≤ 8) : ∀ r c, c + r = 64 → am_ev 51 2 [some (.ref 160), some (.int (nI c)), none, none] [] h = if q_any (fun c => q_bit (h.2.1 160 9) c && !F_insB (F_w f) (F_h f) c) r c = true then some (some (.int 4), h) else am_ev 51 37 [some (.ref 160), some (.int (nI 64)), none, none] [] h := by
  intro r
  induction r with
  | zero =>
    intro c hc
    obtain rfl : c = 64 := by omega
    have h1 : (64 : Int32) ≤ nI 64 := by decide
    rw [e51_2, if_neg (by unfold q_any; decide)]
    simp only [e51_0, e51_1, e51_3, e51_5, e51_8, e51_9, e51_12, e51_13, e51_14, e51_15, e51_16, e51_17, e51_18, e51_21, e51_22, e51_23, e51_26, e51_29, e51_30, e51_31, e51_34, e51_38, e51_41, e51_42, e51_45, e51_48, e51_49, e51_50, e51_53, e51_56, e51_59, e51_60, e51_61, e51_64, e51_67, e51_70, e51_71, e51_74, e51_75, e51_76, e51_77, e51_78, e51_79, e51_80, e51_83, e51_86, e51_87, e51_90, e51_91, e51_92, e51_93, e51_94, e51_95, e51_96, e51_99, e51_102, e51_103, e51_104, e51_107, e51_110, e51_111, e51_112, e51_115, e51_118, e51_119, e51_120, e51_123, e51_124, e51_127, e51_128, e51_131, e51_132, e51_133, e51_134, e51_137, e51_140, e51_141, e51_144, e51_145, e51_148, e51_149, am_bd_some, Option.toList_some, Option.toList_none, List.cons_append, List.nil_append, am_w8_0, am_w8_1, am_w8_2, am_w8_3, am_w8_4, eq_self, or_true, true_or, am_kd_sI, am_kd_sL, am_kd_sR, am_tc_sI, am_tc_sL, am_tc_sR, am_len_sI, am_len_sL, am_len_sR, am_rfs, if_true, if_false, am_rdL_sI, am_rR_sL, am_rt_cq, am_kd_cq, am_tc_cq, am_len_cq, am_rd_sL, am_rd_sR, am_rdL_sR, h1]
  | succ r ih =>
    intro c hc
    have h1 : ¬ (64 : Int32) ≤ nI c := nI_ge (b := 64) (by omega) (by decide)
    have wb := q_wb (h.2.1 160 9) c (by omega)
    have di := den_inside2 h 160 f cf w8 h8 c (by omega)
    rw [e51_2]
    unfold q_any
    cases b : q_bit (h.2.1 160 9) c with
    | false =>
      have wb' := eq_true (wb.mpr b)
      rw [Bool.false_and, Bool.false_or, ← ih (c + 1) (by omega)]
      simp only [e51_0, e51_1, e51_3, e51_5, e51_8, e51_9, e51_12, e51_13, e51_14, e51_15, e51_16, e51_17, e51_18, e51_21, e51_22, e51_23, e51_26, e51_29, e51_30, e51_31, e51_34, e51_38, e51_41, e51_42, e51_45, e51_48, e51_49, e51_50, e51_53, e51_56, e51_59, e51_60, e51_61, e51_64, e51_67, e51_70, e51_71, e51_74, e51_75, e51_76, e51_77, e51_78, e51_79, e51_80, e51_83, e51_86, e51_87, e51_90, e51_91, e51_92, e51_93, e51_94, e51_95, e51_96, e51_99, e51_102, e51_103, e51_104, e51_107, e51_110, e51_111, e51_112, e51_115, e51_118, e51_119, e51_120, e51_123, e51_124, e51_127, e51_128, e51_131, e51_132, e51_133, e51_134, e51_137, e51_140, e51_141, e51_144, e51_145, e51_148, e51_149, am_bd_some, Option.toList_some, Option.toList_none, List.cons_append, List.nil_append, am_w8_0, am_w8_1, am_w8_2, am_w8_3, am_w8_4, eq_self, or_true, true_or, am_kd_sI, am_kd_sL, am_kd_sR, am_tc_sI, am_tc_sL, am_tc_sR, am_len_sI, am_len_sL, am_len_sR, am_rfs, if_true, if_false, am_rdL_sI, am_rR_sL, am_rt_cq, am_kd_cq, am_tc_cq, am_len_cq, am_rd_sL, am_rd_sR, am_rdL_sR, h1, okK_160 ok, wb', nI_1]
    | true =>
      have wb' := eq_false (fun w => by rw [wb.mp w] at b; cases b)
      cases e : F_insB (F_w f) (F_h f) c with
      | true =>
        have y : ¬ (1 : Int32) = 0 := by decide
        have b1 : q_bi true = 1 := rfl
        rw [e, b1] at di
        rw [Bool.not_true, Bool.and_false, Bool.false_or, ← ih (c + 1) (by omega)]
        simp only [e51_0, e51_1, e51_3, e51_5, e51_8, e51_9, e51_12, e51_13, e51_14, e51_15, e51_16, e51_17, e51_18, e51_21, e51_22, e51_23, e51_26, e51_29, e51_30, e51_31, e51_34, e51_38, e51_41, e51_42, e51_45, e51_48, e51_49, e51_50, e51_53, e51_56, e51_59, e51_60, e51_61, e51_64, e51_67, e51_70, e51_71, e51_74, e51_75, e51_76, e51_77, e51_78, e51_79, e51_80, e51_83, e51_86, e51_87, e51_90, e51_91, e51_92, e51_93, e51_94, e51_95, e51_96, e51_99, e51_102, e51_103, e51_104, e51_107, e51_110, e51_111, e51_112, e51_115, e51_118, e51_119, e51_120, e51_123, e51_124, e51_127, e51_128, e51_131, e51_132, e51_133, e51_134, e51_137, e51_140, e51_141, e51_144, e51_145, e51_148, e51_149, am_bd_some, Option.toList_some, Option.toList_none, List.cons_append, List.nil_append, am_w8_0, am_w8_1, am_w8_2, am_w8_3, am_w8_4, eq_self, or_true, true_or, am_kd_sI, am_kd_sL, am_kd_sR, am_tc_sI, am_tc_sL, am_tc_sR, am_len_sI, am_len_sL, am_len_sR, am_rfs, if_true, if_false, am_rdL_sI, am_rR_sL, am_rt_cq, am_kd_cq, am_tc_cq, am_len_cq, am_rd_sL, am_rd_sR, am_rdL_sR, h1, okK_160 ok, wb', di, y, not_false_eq_true, nI_1]
      | false =>
        have b0 : q_bi false = 0 := rfl
        rw [e, b0] at di
        rw [Bool.not_false, Bool.and_true, Bool.true_or, if_pos rfl]
        simp only [e51_0, e51_1, e51_3, e51_5, e51_8, e51_9, e51_12, e51_13, e51_14, e51_15, e51_16, e51_17, e51_18, e51_21, e51_22, e51_23, e51_26, e51_29, e51_30, e51_31, e51_34, e51_38, e51_41, e51_42, e51_45, e51_48, e51_49, e51_50, e51_53, e51_56, e51_59, e51_60, e51_61, e51_64, e51_67, e51_70, e51_71, e51_74, e51_75, e51_76, e51_77, e51_78, e51_79, e51_80, e51_83, e51_86, e51_87, e51_90, e51_91, e51_92, e51_93, e51_94, e51_95, e51_96, e51_99, e51_102, e51_103, e51_104, e51_107, e51_110, e51_111, e51_112, e51_115, e51_118, e51_119, e51_120, e51_123, e51_124, e51_127, e51_128, e51_131, e51_132, e51_133, e51_134, e51_137, e51_140, e51_141, e51_144, e51_145, e51_148, e51_149, am_bd_some, Option.toList_some, Option.toList_none, List.cons_append, List.nil_append, am_w8_0, am_w8_1, am_w8_2, am_w8_3, am_w8_4, eq_self, or_true, true_or, am_kd_sI, am_kd_sL, am_kd_sR, am_tc_sI, am_tc_sL, am_tc_sR, am_len_sI, am_len_sL, am_len_sR, am_rfs, if_true, if_false, am_rdL_sI, am_rR_sL, am_rt_cq, am_kd_cq, am_tc_cq, am_len_cq, am_rd_sL, am_rd_sR, am_rdL_sR, h1, okK_160 ok, wb', di, not_true]
theorem f_l2 (h : am_H) (ok : am_okH h) (f : q_Fl) (cF : q_cF h 160 f) (n6 : F_n f ≤ 6) (p64 : F_pen f < 64) (d64 : F_dog f < 64) (cl : ∀ b, b < F_n f → F_cell f b < 64) : ∀ r b (acc : Bool) (z : Option Value), b + r = F_n f → am_ev 51 78 [some (.ref 160), some (.int (q_bi acc)), some (.int (nI b)), z] [] h = some (some (.int (if (acc && f_al (f_one f) r b) = true then 0 else 5)), h) := by
  have cf := cF.1
  have e2 : h.1 160 2 = nI (F_pen f) := by rw [cf.2.2.2.1]; exact if_pos p64
  have e3 := cF.2.1
  have e5 := cf.2.2.2.2.2.1
  intro r
  induction r with
  | zero =>
    intro b acc z hb
    have h1 : nI (F_n f) ≤ nI b := nI_le (by omega) (by omega)
    rw [e51_78]
    cases acc with
    | true =>
      have y : ¬ q_bi true = 0 := by decide
      rw [if_pos (by unfold f_al; rfl)]
      simp only [e51_0, e51_1, e51_2, e51_3, e51_5, e51_8, e51_9, e51_12, e51_13, e51_14, e51_15, e51_16, e51_17, e51_18, e51_21, e51_22, e51_23, e51_26, e51_29, e51_30, e51_31, e51_34, e51_37, e51_38, e51_41, e51_42, e51_45, e51_48, e51_49, e51_50, e51_53, e51_56, e51_59, e51_60, e51_61, e51_64, e51_67, e51_70, e51_71, e51_74, e51_75, e51_76, e51_77, e51_79, e51_80, e51_83, e51_86, e51_87, e51_90, e51_91, e51_92, e51_93, e51_94, e51_95, e51_96, e51_99, e51_102, e51_103, e51_104, e51_107, e51_110, e51_111, e51_112, e51_115, e51_118, e51_119, e51_120, e51_123, e51_124, e51_127, e51_128, e51_131, e51_132, e51_133, e51_134, e51_137, e51_140, e51_141, e51_144, e51_145, e51_148, e51_149, am_bd_some, Option.toList_some, Option.toList_none, List.cons_append, List.nil_append, am_w8_0, am_w8_1, am_w8_2, am_w8_3, am_w8_4, eq_self, or_true, true_or, am_kd_sI, am_kd_sL, am_kd_sR, am_tc_sI, am_tc_sL, am_tc_sR, am_len_sI, am_len_sL, am_len_sR, am_rfs, if_true, if_false, am_rdL_sI, am_rR_sL, am_rt_cq, am_kd_cq, am_tc_cq, am_len_cq, am_rd_sL, am_rd_sR, am_rdL_sR, okK_160 ok, e5, h1, y]
    | false =>
      have y : (q_bi false = 0) = True := eq_true rfl
      rw [if_neg (by rw [Bool.false_and]; decide)]
      simp only [e51_0, e51_1, e51_2, e51_3, e51_5, e51_8, e51_9, e51_12, e51_13, e51_14, e51_15, e51_16, e51_17, e51_18, e51_21, e51_22, e51_23, e51_26, e51_29, e51_30, e51_31, e51_34, e51_37, e51_38, e51_41, e51_42, e51_45, e51_48, e51_49, e51_50, e51_53, e51_56, e51_59, e51_60, e51_61, e51_64, e51_67, e51_70, e51_71, e51_74, e51_75, e51_76, e51_77, e51_79, e51_80, e51_83, e51_86, e51_87, e51_90, e51_91, e51_92, e51_93, e51_94, e51_95, e51_96, e51_99, e51_102, e51_103, e51_104, e51_107, e51_110, e51_111, e51_112, e51_115, e51_118, e51_119, e51_120, e51_123, e51_124, e51_127, e51_128, e51_131, e51_132, e51_133, e51_134, e51_137, e51_140, e51_141, e51_144, e51_145, e51_148, e51_149, am_bd_some, Option.toList_some, Option.toList_none, List.cons_append, List.nil_append, am_w8_0, am_w8_1, am_w8_2, am_w8_3, am_w8_4, eq_self, or_true, true_or, am_kd_sI, am_kd_sL, am_kd_sR, am_tc_sI, am_tc_sL, am_tc_sR, am_len_sI, am_len_sL, am_len_sR, am_rfs, if_true, if_false, am_rdL_sI, am_rR_sL, am_rt_cq, am_kd_cq, am_tc_cq, am_len_cq, am_rd_sL, am_rd_sR, am_rdL_sR, okK_160 ok, e5, h1, y]
  | succ r ih =>
    intro b acc z hb
    have h1 : ¬ nI (F_n f) ≤ nI b := nI_ge (by omega) (by omega)
    have x : am_ix (nI b) 6 = true := am_ix_nI (by omega) (by decide)
    have zz : (nI b).toNatClampNeg = b := nI_clamp (by omega)
    have vc := cF.2.2 b (by omega)
    have c64 := cl b (by omega)
    have q1 : nI (F_cell f b) = nI (F_pen f) ↔ F_cell f b = F_pen f := nI_eq (by omega) (by omega)
    have q2 : nI (F_cell f b) = nI (F_dog f) ↔ F_cell f b = F_dog f := nI_eq (by omega) (by omega)
    have dw := den_isWall h 160 f cf (F_cell f b) c64
    have db := den_beastAt2 h 160 f cF n6 cl (F_cell f b) c64
    have q3 : q_ov (q_first (fun k => decide (F_cell f k = F_cell f b)) (F_n f) 0) = nI b ↔ q_first (fun k => decide (F_cell f k = F_cell f b)) (F_n f) 0 = some b := by
      cases hq : q_first (fun k => decide (F_cell f k = F_cell f b)) (F_n f) 0 with
      | none => exact ⟨fun w => absurd w.symm (q_m1_n b (by omega)), fun w => (by cases w)⟩
      | some k =>
        have := (q_first_lt _ _ _ _ hq).2.1
        show nI k = nI b ↔ some k = some b
        rw [nI_eq (by omega) (by omega)]
        exact ⟨fun w => by rw [w], fun w => Option.some.inj w⟩
    have v162 : h.1 162 b = nI (F_cell f b) := vc
    have s1 : am_ev 51 78 [some (.ref 160), some (.int (q_bi acc)), some (.int (nI b)), z] [] h = am_ev 51 132 [some (.ref 160), some (.int (q_bi acc)), some (.int (nI b)), some (.int (nI (F_cell f b)))] [.int (q_bi (f_one f b)), .int (q_bi acc)] h := by
      unfold f_one
      by_cases c1 : F_cell f b = F_pen f
      · have c1' := eq_true (q1.mpr c1)
        rw [if_pos c1]
        simp only [e51_0, e51_1, e51_2, e51_3, e51_5, e51_8, e51_9, e51_12, e51_13, e51_14, e51_15, e51_16, e51_17, e51_18, e51_21, e51_22, e51_23, e51_26, e51_29, e51_30, e51_31, e51_34, e51_37, e51_38, e51_41, e51_42, e51_45, e51_48, e51_49, e51_50, e51_53, e51_56, e51_59, e51_60, e51_61, e51_64, e51_67, e51_70, e51_71, e51_74, e51_75, e51_76, e51_77, e51_78, e51_79, e51_80, e51_83, e51_86, e51_87, e51_90, e51_91, e51_92, e51_93, e51_94, e51_95, e51_96, e51_99, e51_102, e51_103, e51_104, e51_107, e51_110, e51_111, e51_112, e51_115, e51_118, e51_119, e51_120, e51_123, e51_124, e51_127, e51_128, e51_131, e51_133, e51_134, e51_137, e51_140, e51_141, e51_144, e51_145, e51_148, e51_149, am_bd_some, Option.toList_some, Option.toList_none, List.cons_append, List.nil_append, am_w8_0, am_w8_1, am_w8_2, am_w8_3, am_w8_4, eq_self, or_true, true_or, am_kd_sI, am_kd_sL, am_kd_sR, am_tc_sI, am_tc_sL, am_tc_sR, am_len_sI, am_len_sL, am_len_sR, am_rfs, if_true, if_false, am_rdL_sI, am_rR_sL, am_rt_cq, am_kd_cq, am_tc_cq, am_len_cq, am_rd_sL, am_rd_sR, am_rdL_sR, okK_160 ok, e5, h1, okR_160_8 ok, okT_162 ok, okL_162 ok, x, zz, v162, e2, c1']
        rfl
      have c1' := eq_false (fun w => c1 (q1.mp w))
      rw [if_neg c1]
      by_cases c2 : F_cell f b = F_dog f
      · have c2' := eq_true (q2.mpr c2)
        rw [if_pos c2]
        simp only [e51_0, e51_1, e51_2, e51_3, e51_5, e51_8, e51_9, e51_12, e51_13, e51_14, e51_15, e51_16, e51_17, e51_18, e51_21, e51_22, e51_23, e51_26, e51_29, e51_30, e51_31, e51_34, e51_37, e51_38, e51_41, e51_42, e51_45, e51_48, e51_49, e51_50, e51_53, e51_56, e51_59, e51_60, e51_61, e51_64, e51_67, e51_70, e51_71, e51_74, e51_75, e51_76, e51_77, e51_78, e51_79, e51_80, e51_83, e51_86, e51_87, e51_90, e51_91, e51_92, e51_93, e51_94, e51_95, e51_96, e51_99, e51_102, e51_103, e51_104, e51_107, e51_110, e51_111, e51_112, e51_115, e51_118, e51_119, e51_120, e51_123, e51_124, e51_127, e51_128, e51_131, e51_133, e51_134, e51_137, e51_140, e51_141, e51_144, e51_145, e51_148, e51_149, am_bd_some, Option.toList_some, Option.toList_none, List.cons_append, List.nil_append, am_w8_0, am_w8_1, am_w8_2, am_w8_3, am_w8_4, eq_self, or_true, true_or, am_kd_sI, am_kd_sL, am_kd_sR, am_tc_sI, am_tc_sL, am_tc_sR, am_len_sI, am_len_sL, am_len_sR, am_rfs, if_true, if_false, am_rdL_sI, am_rR_sL, am_rt_cq, am_kd_cq, am_tc_cq, am_len_cq, am_rd_sL, am_rd_sR, am_rdL_sR, okK_160 ok, e5, h1, okR_160_8 ok, okT_162 ok, okL_162 ok, x, zz, v162, e2, c1', e3, c2']
        rfl
      have c2' := eq_false (fun w => c2 (q2.mp w))
      rw [if_neg c2]
      cases c3 : F_wall f (F_cell f b) with
      | true =>
        have b1 : q_bi true = 1 := rfl
        have y : ¬ (1 : Int32) = 0 := by decide
        rw [c3, b1] at dw
        rw [if_pos rfl]
        simp only [e51_0, e51_1, e51_2, e51_3, e51_5, e51_8, e51_9, e51_12, e51_13, e51_14, e51_15, e51_16, e51_17, e51_18, e51_21, e51_22, e51_23, e51_26, e51_29, e51_30, e51_31, e51_34, e51_37, e51_38, e51_41, e51_42, e51_45, e51_48, e51_49, e51_50, e51_53, e51_56, e51_59, e51_60, e51_61, e51_64, e51_67, e51_70, e51_71, e51_74, e51_75, e51_76, e51_77, e51_78, e51_79, e51_80, e51_83, e51_86, e51_87, e51_90, e51_91, e51_92, e51_93, e51_94, e51_95, e51_96, e51_99, e51_102, e51_103, e51_104, e51_107, e51_110, e51_111, e51_112, e51_115, e51_118, e51_119, e51_120, e51_123, e51_124, e51_127, e51_128, e51_131, e51_133, e51_134, e51_137, e51_140, e51_141, e51_144, e51_145, e51_148, e51_149, am_bd_some, Option.toList_some, Option.toList_none, List.cons_append, List.nil_append, am_w8_0, am_w8_1, am_w8_2, am_w8_3, am_w8_4, eq_self, or_true, true_or, am_kd_sI, am_kd_sL, am_kd_sR, am_tc_sI, am_tc_sL, am_tc_sR, am_len_sI, am_len_sL, am_len_sR, am_rfs, if_true, if_false, am_rdL_sI, am_rR_sL, am_rt_cq, am_kd_cq, am_tc_cq, am_len_cq, am_rd_sL, am_rd_sR, am_rdL_sR, okK_160 ok, e5, h1, okR_160_8 ok, okT_162 ok, okL_162 ok, x, zz, v162, e2, c1', e3, c2', dw, y, not_false_eq_true]
        rfl
      | false =>
        have b0 : q_bi false = 0 := rfl
        rw [c3, b0] at dw
        rw [if_neg (by decide), c_bi]
        by_cases c4 : q_first (fun k => decide (F_cell f k = F_cell f b)) (F_n f) 0 = some b
        · have c4' := eq_true (q3.mpr c4)
          rw [if_pos c4]
          simp only [e51_0, e51_1, e51_2, e51_3, e51_5, e51_8, e51_9, e51_12, e51_13, e51_14, e51_15, e51_16, e51_17, e51_18, e51_21, e51_22, e51_23, e51_26, e51_29, e51_30, e51_31, e51_34, e51_37, e51_38, e51_41, e51_42, e51_45, e51_48, e51_49, e51_50, e51_53, e51_56, e51_59, e51_60, e51_61, e51_64, e51_67, e51_70, e51_71, e51_74, e51_75, e51_76, e51_77, e51_78, e51_79, e51_80, e51_83, e51_86, e51_87, e51_90, e51_91, e51_92, e51_93, e51_94, e51_95, e51_96, e51_99, e51_102, e51_103, e51_104, e51_107, e51_110, e51_111, e51_112, e51_115, e51_118, e51_119, e51_120, e51_123, e51_124, e51_127, e51_128, e51_131, e51_133, e51_134, e51_137, e51_140, e51_141, e51_144, e51_145, e51_148, e51_149, am_bd_some, Option.toList_some, Option.toList_none, List.cons_append, List.nil_append, am_w8_0, am_w8_1, am_w8_2, am_w8_3, am_w8_4, eq_self, or_true, true_or, am_kd_sI, am_kd_sL, am_kd_sR, am_tc_sI, am_tc_sL, am_tc_sR, am_len_sI, am_len_sL, am_len_sR, am_rfs, if_true, if_false, am_rdL_sI, am_rR_sL, am_rt_cq, am_kd_cq, am_tc_cq, am_len_cq, am_rd_sL, am_rd_sR, am_rdL_sR, okK_160 ok, e5, h1, okR_160_8 ok, okT_162 ok, okL_162 ok, x, zz, v162, e2, c1', e3, c2', dw, not_true, db, c4']
        · have c4' := eq_false (fun w => c4 (q3.mp w))
          rw [if_neg c4]
          simp only [e51_0, e51_1, e51_2, e51_3, e51_5, e51_8, e51_9, e51_12, e51_13, e51_14, e51_15, e51_16, e51_17, e51_18, e51_21, e51_22, e51_23, e51_26, e51_29, e51_30, e51_31, e51_34, e51_37, e51_38, e51_41, e51_42, e51_45, e51_48, e51_49, e51_50, e51_53, e51_56, e51_59, e51_60, e51_61, e51_64, e51_67, e51_70, e51_71, e51_74, e51_75, e51_76, e51_77, e51_78, e51_79, e51_80, e51_83, e51_86, e51_87, e51_90, e51_91, e51_92, e51_93, e51_94, e51_95, e51_96, e51_99, e51_102, e51_103, e51_104, e51_107, e51_110, e51_111, e51_112, e51_115, e51_118, e51_119, e51_120, e51_123, e51_124, e51_127, e51_128, e51_131, e51_133, e51_134, e51_137, e51_140, e51_141, e51_144, e51_145, e51_148, e51_149, am_bd_some, Option.toList_some, Option.toList_none, List.cons_append, List.nil_append, am_w8_0, am_w8_1, am_w8_2, am_w8_3, am_w8_4, eq_self, or_true, true_or, am_kd_sI, am_kd_sL, am_kd_sR, am_tc_sI, am_tc_sL, am_tc_sR, am_len_sI, am_len_sL, am_len_sR, am_rfs, if_true, if_false, am_rdL_sI, am_rR_sL, am_rt_cq, am_kd_cq, am_tc_cq, am_len_cq, am_rd_sL, am_rd_sR, am_rdL_sR, okK_160 ok, e5, h1, okR_160_8 ok, okT_162 ok, okL_162 ok, x, zz, v162, e2, c1', e3, c2', dw, not_true, not_false_eq_true, db, c4']
    have s2 : am_ev 51 132 [some (.ref 160), some (.int (q_bi acc)), some (.int (nI b)), some (.int (nI (F_cell f b)))] [.int (q_bi (f_one f b)), .int (q_bi acc)] h = am_ev 51 78 [some (.ref 160), some (.int (q_bi (acc && f_one f b))), some (.int (nI (b + 1))), some (.int (nI (F_cell f b)))] [] h := by
      simp only [e51_0, e51_1, e51_2, e51_3, e51_5, e51_8, e51_9, e51_12, e51_13, e51_14, e51_15, e51_16, e51_17, e51_18, e51_21, e51_22, e51_23, e51_26, e51_29, e51_30, e51_31, e51_34, e51_37, e51_38, e51_41, e51_42, e51_45, e51_48, e51_49, e51_50, e51_53, e51_56, e51_59, e51_60, e51_61, e51_64, e51_67, e51_70, e51_71, e51_74, e51_75, e51_76, e51_77, e51_79, e51_80, e51_83, e51_86, e51_87, e51_90, e51_91, e51_92, e51_93, e51_94, e51_95, e51_96, e51_99, e51_102, e51_103, e51_104, e51_107, e51_110, e51_111, e51_112, e51_115, e51_118, e51_119, e51_120, e51_123, e51_124, e51_127, e51_128, e51_131, e51_132, e51_133, e51_134, e51_137, e51_140, e51_141, e51_144, e51_145, e51_148, e51_149, am_bd_some, Option.toList_some, Option.toList_none, List.cons_append, List.nil_append, am_w8_0, am_w8_1, am_w8_2, am_w8_3, am_w8_4, eq_self, or_true, true_or, am_kd_sI, am_kd_sL, am_kd_sR, am_tc_sI, am_tc_sL, am_tc_sR, am_len_sI, am_len_sL, am_len_sR, am_rfs, if_true, if_false, am_rdL_sI, am_rR_sL, am_rt_cq, am_kd_cq, am_tc_cq, am_len_cq, am_rd_sL, am_rd_sR, am_rdL_sR, q_bi_and, nI_1]
    rw [s1, s2, ih (b + 1) (acc && f_one f b) _ (by omega)]
    show _ = some (some (Value.int (if (acc && (f_one f b && f_al (f_one f) r (b + 1))) = true then 0 else 5)), h)
    rw [Bool.and_assoc]
theorem den_flaw (h : am_H) (ok : am_okH h) (d : f_D) (H : f_dr h d) (B : f_bd d) : am_den 51 [.ref 160] h = some (some (.int (nI (f_flaw d))), h) := by
  obtain ⟨⟨e0, e1, e2, e3, e4, e5, e6, e7, e8⟩, n6, bt⟩ := H
  obtain ⟨⟨w2, w8⟩, ⟨h2, h8⟩, p64, d64, cl⟩ := B
  have cf : q_cf h 160 d.1 := ⟨⟨okK_160 ok, okR_160_7 ok, okR_160_8 ok, okK_161 ok, okK_162 ok⟩, e0, e1, by rw [e2]; exact (if_pos p64).symm, e4, e5, e6, e7⟩
  have cF : q_cF h 160 d.1 := ⟨cf, e3, e8⟩
  have l1 := f_l1 h ok d.1 cf w8 h8 64 0 (by decide)
  have q1 : nI (F_pen d.1) = nI (F_dog d.1) ↔ F_pen d.1 = F_dog d.1 := nI_eq (by omega) (by omega)
  have dp := den_isWall h 160 d.1 cf (F_pen d.1) p64
  have dd := den_isWall h 160 d.1 cf (F_dog d.1) d64
  have s0 : am_ev 51 0 [some (.ref 160), none, none, none] [] h = am_ev 51 2 [some (.ref 160), some (.int (nI 0)), none, none] [] h := by
    simp only [e51_0, e51_1, e51_3, e51_5, e51_8, e51_9, e51_12, e51_13, e51_14, e51_15, e51_16, e51_17, e51_18, e51_21, e51_22, e51_23, e51_26, e51_29, e51_30, e51_31, e51_34, e51_37, e51_38, e51_41, e51_42, e51_45, e51_48, e51_49, e51_50, e51_53, e51_56, e51_59, e51_60, e51_61, e51_64, e51_67, e51_70, e51_71, e51_74, e51_75, e51_76, e51_77, e51_78, e51_79, e51_80, e51_83, e51_86, e51_87, e51_90, e51_91, e51_92, e51_93, e51_94, e51_95, e51_96, e51_99, e51_102, e51_103, e51_104, e51_107, e51_110, e51_111, e51_112, e51_115, e51_118, e51_119, e51_120, e51_123, e51_124, e51_127, e51_128, e51_131, e51_132, e51_133, e51_134, e51_137, e51_140, e51_141, e51_144, e51_145, e51_148, e51_149, am_bd_some, Option.toList_some, Option.toList_none, List.cons_append, List.nil_append, am_w8_0, am_w8_1, am_w8_2, am_w8_3, am_w8_4, eq_self, or_true, true_or, am_kd_sI, am_kd_sL, am_kd_sR, am_tc_sI, am_tc_sL, am_tc_sR, am_len_sI, am_len_sL, am_len_sR, am_rfs, if_true, if_false, am_rdL_sI, am_rR_sL, am_rt_cq, am_kd_cq, am_tc_cq, am_len_cq, am_rd_sL, am_rd_sR, am_rdL_sR]
    rfl
  have s1 : am_ev 51 37 [some (.ref 160), some (.int (nI 64)), none, none] [] h = am_ev 51 78 [some (.ref 160), some (.int (q_bi (f_pd d.1))), some (.int (nI 0)), none] [] h := by
    unfold f_pd
    by_cases c1 : F_pen d.1 = F_dog d.1
    · have c1' := eq_true (q1.mpr c1)
      rw [if_pos c1]
      simp only [e51_0, e51_1, e51_2, e51_3, e51_5, e51_8, e51_9, e51_12, e51_13, e51_14, e51_15, e51_16, e51_17, e51_18, e51_21, e51_22, e51_23, e51_26, e51_29, e51_30, e51_31, e51_34, e51_37, e51_38, e51_41, e51_42, e51_45, e51_48, e51_49, e51_50, e51_53, e51_56, e51_59, e51_60, e51_61, e51_64, e51_67, e51_70, e51_71, e51_74, e51_75, e51_76, e51_77, e51_79, e51_80, e51_83, e51_86, e51_87, e51_90, e51_91, e51_92, e51_93, e51_94, e51_95, e51_96, e51_99, e51_102, e51_103, e51_104, e51_107, e51_110, e51_111, e51_112, e51_115, e51_118, e51_119, e51_120, e51_123, e51_124, e51_127, e51_128, e51_131, e51_132, e51_133, e51_134, e51_137, e51_140, e51_141, e51_144, e51_145, e51_148, e51_149, am_bd_some, Option.toList_some, Option.toList_none, List.cons_append, List.nil_append, am_w8_0, am_w8_1, am_w8_2, am_w8_3, am_w8_4, eq_self, or_true, true_or, am_kd_sI, am_kd_sL, am_kd_sR, am_tc_sI, am_tc_sL, am_tc_sR, am_len_sI, am_len_sL, am_len_sR, am_rfs, if_true, if_false, am_rdL_sI, am_rR_sL, am_rt_cq, am_kd_cq, am_tc_cq, am_len_cq, am_rd_sL, am_rd_sR, am_rdL_sR, okK_160 ok, e2, e3, c1']
      rfl
    have c1' := eq_false (fun w => c1 (q1.mp w))
    rw [if_neg c1]
    have y : ¬ (1 : Int32) = 0 := by decide
    have b1 : q_bi true = 1 := rfl
    have b0 : q_bi false = 0 := rfl
    cases c2 : F_wall d.1 (F_pen d.1) with
    | true =>
      rw [c2, b1] at dp
      rw [if_pos rfl]
      simp only [e51_0, e51_1, e51_2, e51_3, e51_5, e51_8, e51_9, e51_12, e51_13, e51_14, e51_15, e51_16, e51_17, e51_18, e51_21, e51_22, e51_23, e51_26, e51_29, e51_30, e51_31, e51_34, e51_37, e51_38, e51_41, e51_42, e51_45, e51_48, e51_49, e51_50, e51_53, e51_56, e51_59, e51_60, e51_61, e51_64, e51_67, e51_70, e51_71, e51_74, e51_75, e51_76, e51_77, e51_79, e51_80, e51_83, e51_86, e51_87, e51_90, e51_91, e51_92, e51_93, e51_94, e51_95, e51_96, e51_99, e51_102, e51_103, e51_104, e51_107, e51_110, e51_111, e51_112, e51_115, e51_118, e51_119, e51_120, e51_123, e51_124, e51_127, e51_128, e51_131, e51_132, e51_133, e51_134, e51_137, e51_140, e51_141, e51_144, e51_145, e51_148, e51_149, am_bd_some, Option.toList_some, Option.toList_none, List.cons_append, List.nil_append, am_w8_0, am_w8_1, am_w8_2, am_w8_3, am_w8_4, eq_self, or_true, true_or, am_kd_sI, am_kd_sL, am_kd_sR, am_tc_sI, am_tc_sL, am_tc_sR, am_len_sI, am_len_sL, am_len_sR, am_rfs, if_true, if_false, am_rdL_sI, am_rR_sL, am_rt_cq, am_kd_cq, am_tc_cq, am_len_cq, am_rd_sL, am_rd_sR, am_rdL_sR, okK_160 ok, e2, e3, c1', dp, y, not_false_eq_true]
      rfl
    | false =>
      rw [c2, b0] at dp
      rw [if_neg (by decide)]
      cases c3 : F_wall d.1 (F_dog d.1) with
      | true =>
        rw [c3, b1] at dd
        simp only [e51_0, e51_1, e51_2, e51_3, e51_5, e51_8, e51_9, e51_12, e51_13, e51_14, e51_15, e51_16, e51_17, e51_18, e51_21, e51_22, e51_23, e51_26, e51_29, e51_30, e51_31, e51_34, e51_37, e51_38, e51_41, e51_42, e51_45, e51_48, e51_49, e51_50, e51_53, e51_56, e51_59, e51_60, e51_61, e51_64, e51_67, e51_70, e51_71, e51_74, e51_75, e51_76, e51_77, e51_79, e51_80, e51_83, e51_86, e51_87, e51_90, e51_91, e51_92, e51_93, e51_94, e51_95, e51_96, e51_99, e51_102, e51_103, e51_104, e51_107, e51_110, e51_111, e51_112, e51_115, e51_118, e51_119, e51_120, e51_123, e51_124, e51_127, e51_128, e51_131, e51_132, e51_133, e51_134, e51_137, e51_140, e51_141, e51_144, e51_145, e51_148, e51_149, am_bd_some, Option.toList_some, Option.toList_none, List.cons_append, List.nil_append, am_w8_0, am_w8_1, am_w8_2, am_w8_3, am_w8_4, eq_self, or_true, true_or, am_kd_sI, am_kd_sL, am_kd_sR, am_tc_sI, am_tc_sL, am_tc_sR, am_len_sI, am_len_sL, am_len_sR, am_rfs, if_true, if_false, am_rdL_sI, am_rR_sL, am_rt_cq, am_kd_cq, am_tc_cq, am_len_cq, am_rd_sL, am_rd_sR, am_rdL_sR, okK_160 ok, e2, e3, c1', dp, dd, y, not_true, not_false_eq_true]
        rfl
      | false =>
        rw [c3, b0] at dd
        simp only [e51_0, e51_1, e51_2, e51_3, e51_5, e51_8, e51_9, e51_12, e51_13, e51_14, e51_15, e51_16, e51_17, e51_18, e51_21, e51_22, e51_23, e51_26, e51_29, e51_30, e51_31, e51_34, e51_37, e51_38, e51_41, e51_42, e51_45, e51_48, e51_49, e51_50, e51_53, e51_56, e51_59, e51_60, e51_61, e51_64, e51_67, e51_70, e51_71, e51_74, e51_75, e51_76, e51_77, e51_79, e51_80, e51_83, e51_86, e51_87, e51_90, e51_91, e51_92, e51_93, e51_94, e51_95, e51_96, e51_99, e51_102, e51_103, e51_104, e51_107, e51_110, e51_111, e51_112, e51_115, e51_118, e51_119, e51_120, e51_123, e51_124, e51_127, e51_128, e51_131, e51_132, e51_133, e51_134, e51_137, e51_140, e51_141, e51_144, e51_145, e51_148, e51_149, am_bd_some, Option.toList_some, Option.toList_none, List.cons_append, List.nil_append, am_w8_0, am_w8_1, am_w8_2, am_w8_3, am_w8_4, eq_self, or_true, true_or, am_kd_sI, am_kd_sL, am_kd_sR, am_tc_sI, am_tc_sL, am_tc_sR, am_len_sI, am_len_sL, am_len_sR, am_rfs, if_true, if_false, am_rdL_sI, am_rR_sL, am_rt_cq, am_kd_cq, am_tc_cq, am_len_cq, am_rd_sL, am_rd_sR, am_rdL_sR, okK_160 ok, e2, e3, c1', dp, dd, not_true]
        rfl
  have l2 := f_l2 h ok d.1 cF n6 p64 d64 cl (F_n d.1) 0 (f_pd d.1) none (Nat.zero_add _)
  have fa := f_any (d := d) bt
  show am_ev 51 0 [some (.ref 160), none, none, none] [] h = _
  rw [s0, l1]
  unfold f_flaw
  by_cases c : F_w d.1 < d.2.1 ∨ F_h d.1 < d.2.2
  · rw [if_pos (fa.mpr c), if_pos c]
    rfl
  · rw [if_neg (fun w => c (fa.mp w)), if_neg c, s1, l2]
    show some (some (Value.int (if f_good d.1 = true then 0 else 5)), h) = _
    cases f_good d.1 <;> rfl
