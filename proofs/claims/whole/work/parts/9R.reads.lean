/-! part 9R: the class reads line behind line -/
theorem e18_0 {ls : List (Option Value)} {st : List Value} {h : am_H} {a : Nat} : am_ev 18 0 (some (.ref a) :: ls) (st) h = am_ev 18 1 (some (.ref a) :: ls) (.ref a :: st) h := am_ev_step (q := (1, some (.ref a) :: ls, .ref a :: st, h)) _ (.aload_n 0) 1 am_my_18 (by decide +kernel) rfl
theorem e18_1 {ls : List (Option Value)} {st : List Value} {h : am_H} {l0 : Option Value} {a : Nat} : am_ev 18 1 (l0 :: some (.ref a) :: ls) (st) h = am_ev 18 2 (l0 :: some (.ref a) :: ls) (.ref a :: st) h := am_ev_step (q := (2, l0 :: some (.ref a) :: ls, .ref a :: st, h)) _ (.aload_n 1) 1 am_my_18 (by decide +kernel) rfl
theorem e18_2 {ls : List (Option Value)} {st : List Value} {h : am_H} {o a : Nat} (hk : am_kd h o = some (.inl 7)) : am_ev 18 2 ls (.ref a :: .ref o :: st) h = am_ev 18 5 ls st (am_sR h o 7 (some a)) := am_u_pfR (idx := 43) (wn := 2005) am_my_18 (by decide +kernel) (by decide +kernel) (by decide +kernel) (by decide +kernel) hk
theorem e18_5 {ls : List (Option Value)} {st : List Value} {h : am_H} {a : Nat} : am_ev 18 5 (some (.ref a) :: ls) (st) h = am_ev 18 6 (some (.ref a) :: ls) (.ref a :: st) h := am_ev_step (q := (6, some (.ref a) :: ls, .ref a :: st, h)) _ (.aload_n 0) 1 am_my_18 (by decide +kernel) rfl
theorem e18_6 {ls : List (Option Value)} {st : List Value} {h : am_H} {l0 l1 : Option Value} {a : Int32} : am_ev 18 6 (l0 :: l1 :: some (.int a) :: ls) (st) h = am_ev 18 7 (l0 :: l1 :: some (.int a) :: ls) (.int a :: st) h := am_ev_step (q := (7, l0 :: l1 :: some (.int a) :: ls, .int a :: st, h)) _ (.iload_n 2) 1 am_my_18 (by decide +kernel) rfl
theorem e18_7 {ls : List (Option Value)} {st : List Value} {h : am_H} {l0 : Option Value} {a : Nat} : am_ev 18 7 (l0 :: some (.ref a) :: ls) (st) h = am_ev 18 8 (l0 :: some (.ref a) :: ls) (.ref a :: st) h := am_ev_step (q := (8, l0 :: some (.ref a) :: ls, .ref a :: st, h)) _ (.aload_n 1) 1 am_my_18 (by decide +kernel) rfl
theorem e18_8 {ls : List (Option Value)} {st : List Value} {h : am_H} {a : Nat} {tc : Nat} (ht : am_tc h a = some tc) (h8 : tc ≤ 8) : am_ev 18 8 ls (.ref a :: st) h = am_ev 18 9 ls (.int (Int32.ofNat (am_len h a)) :: st) h := am_u_al am_my_18 (by decide +kernel) ht h8
theorem e18_9 {ls : List (Option Value)} {st : List Value} {h : am_H} {a b : Int32} (hw : am_w8 st ≤ 8) : am_ev 18 9 ls (.int b :: .int a :: st) h = am_ev 18 12 ls (.int (if b < a then b else a) :: st) h := am_u_m2 (idx := 47) (kind := 6) (wn := (0, 2208)) am_my_18 (by decide +kernel) (by decide +kernel) (by decide) (by decide +kernel) hw
theorem e18_12 {ls : List (Option Value)} {st : List Value} {h : am_H} {o : Nat} {v : Int32} (hk : am_kd h o = some (.inl 7)) : am_ev 18 12 ls (.int v :: .ref o :: st) h = am_ev 18 15 ls st (am_sI h o 8 v) := am_u_pfI (idx := 53) (wn := 2006) am_my_18 (by decide +kernel) (by decide +kernel) (by decide +kernel) (by decide +kernel) hk
theorem e18_15 {ls : List (Option Value)} {st : List Value} {h : am_H} {a : Nat} : am_ev 18 15 (some (.ref a) :: ls) (st) h = am_ev 18 16 (some (.ref a) :: ls) (.ref a :: st) h := am_ev_step (q := (16, some (.ref a) :: ls, .ref a :: st, h)) _ (.aload_n 0) 1 am_my_18 (by decide +kernel) rfl
theorem e18_16 {ls : List (Option Value)} {st : List Value} {h : am_H} : am_ev 18 16 (ls) (st) h = am_ev 18 17 (ls) (.int (0) :: st) h := am_ev_step (q := (17, ls, .int (0) :: st, h)) _ (.iconst (0)) 1 am_my_18 (by decide +kernel) rfl
theorem e18_17 {ls : List (Option Value)} {st : List Value} {h : am_H} {o : Nat} {v : Int32} (hk : am_kd h o = some (.inl 7)) : am_ev 18 17 ls (.int v :: .ref o :: st) h = am_ev 18 20 ls st (am_sI h o 9 v) := am_u_pfI (idx := 57) (wn := 2007) am_my_18 (by decide +kernel) (by decide +kernel) (by decide +kernel) (by decide +kernel) hk
theorem e18_20 {ls : List (Option Value)} {st : List Value} {h : am_H} {a : Nat} : am_ev 18 20 (some (.ref a) :: ls) (st) h = am_ev 18 21 (some (.ref a) :: ls) (.ref a :: st) h := am_ev_step (q := (21, some (.ref a) :: ls, .ref a :: st, h)) _ (.aload_n 0) 1 am_my_18 (by decide +kernel) rfl
theorem e18_21 {ls : List (Option Value)} {st : List Value} {h : am_H} : am_ev 18 21 (ls) (st) h = am_ev 18 22 (ls) (.int (0) :: st) h := am_ev_step (q := (22, ls, .int (0) :: st, h)) _ (.iconst (0)) 1 am_my_18 (by decide +kernel) rfl
theorem e18_22 {ls : List (Option Value)} {st : List Value} {h : am_H} {o : Nat} {v : Int32} (hk : am_kd h o = some (.inl 7)) : am_ev 18 22 ls (.int v :: .ref o :: st) h = am_ev 18 25 ls st (am_sI h o 4 v) := am_u_pfI (idx := 60) (wn := 2000) am_my_18 (by decide +kernel) (by decide +kernel) (by decide +kernel) (by decide +kernel) hk
theorem e18_25 {ls : List (Option Value)} {st : List Value} {h : am_H} {a : Nat} : am_ev 18 25 (some (.ref a) :: ls) (st) h = am_ev 18 26 (some (.ref a) :: ls) (.ref a :: st) h := am_ev_step (q := (26, some (.ref a) :: ls, .ref a :: st, h)) _ (.aload_n 0) 1 am_my_18 (by decide +kernel) rfl
theorem e18_26 {ls : List (Option Value)} {st : List Value} {h : am_H} : am_ev 18 26 (ls) (st) h = am_ev 18 27 (ls) (.int (-1) :: st) h := am_ev_step (q := (27, ls, .int (-1) :: st, h)) _ (.iconst (-1)) 1 am_my_18 (by decide +kernel) rfl
theorem e18_27 {ls : List (Option Value)} {st : List Value} {h : am_H} {o : Nat} {v : Int32} (hk : am_kd h o = some (.inl 7)) : am_ev 18 27 ls (.int v :: .ref o :: st) h = am_ev 18 30 ls st (am_sI h o 5 v) := am_u_pfI (idx := 63) (wn := 2002) am_my_18 (by decide +kernel) (by decide +kernel) (by decide +kernel) (by decide +kernel) hk
theorem e18_30 {ls : List (Option Value)} {st : List Value} {h : am_H} {a : Nat} : am_ev 18 30 (some (.ref a) :: ls) (st) h = am_ev 18 31 (some (.ref a) :: ls) (.ref a :: st) h := am_ev_step (q := (31, some (.ref a) :: ls, .ref a :: st, h)) _ (.aload_n 0) 1 am_my_18 (by decide +kernel) rfl
theorem e18_31 {ls : List (Option Value)} {st : List Value} {h : am_H}  {o : Nat} (hw : am_w8 st ≤ 8) (hk : am_kd h o = some (.inl 7)) : am_ev 18 31 ls (.ref o :: st) h = am_bd (am_den 19 [.ref o] h) (fun v h1 => am_ev 18 34 ls (v.toList ++ st) h1) := am_u_cV (idx := 66) (wn := 2211) (as := []) am_my_18 (by decide +kernel) (Or.inl (by decide +kernel)) am_my_19 (by decide +kernel) rfl ⟨Nat.le_of_ble_eq_true rfl, rfl⟩ (by decide +kernel) hw hk
theorem e18_34 {ls : List (Option Value)} {st : List Value} {h : am_H} : am_ev 18 34 (ls) (st) h = am_ev 18 35 (ls) (.int (0) :: st) h := am_ev_step (q := (35, ls, .int (0) :: st, h)) _ (.iconst (0)) 1 am_my_18 (by decide +kernel) rfl
theorem e18_35 {ls : List (Option Value)} {st : List Value} {h : am_H} {l0 l1 l2 l3 : Option Value} {z : Option Value} {a : Int32} : am_ev 18 35 (l0 :: l1 :: l2 :: l3 :: z :: ls) (.int a :: st) h = am_ev 18 37 (l0 :: l1 :: l2 :: l3 :: some (.int a) :: ls) (st) h := am_ev_step (q := (37, l0 :: l1 :: l2 :: l3 :: some (.int a) :: ls, st, h)) _ (.istore 4) 2 am_my_18 (by decide +kernel) rfl
theorem e18_37 {ls : List (Option Value)} {st : List Value} {h : am_H} {l0 l1 l2 l3 : Option Value} {a : Int32} : am_ev 18 37 (l0 :: l1 :: l2 :: l3 :: some (.int a) :: ls) (st) h = am_ev 18 39 (l0 :: l1 :: l2 :: l3 :: some (.int a) :: ls) (.int a :: st) h := am_ev_step (q := (39, l0 :: l1 :: l2 :: l3 :: some (.int a) :: ls, .int a :: st, h)) _ (.iload 4) 2 am_my_18 (by decide +kernel) rfl
theorem e18_39 {ls : List (Option Value)} {st : List Value} {h : am_H} {a : Nat} : am_ev 18 39 (some (.ref a) :: ls) (st) h = am_ev 18 40 (some (.ref a) :: ls) (.ref a :: st) h := am_ev_step (q := (40, some (.ref a) :: ls, .ref a :: st, h)) _ (.aload_n 0) 1 am_my_18 (by decide +kernel) rfl
theorem e18_40 {ls : List (Option Value)} {st : List Value} {h : am_H} {o : Nat} (hk : am_kd h o = some (.inl 7)) : am_ev 18 40 ls (.ref o :: st) h = am_ev 18 43 ls (.int (h.1 o 8) :: st) h := am_u_gfI (idx := 53) (wn := 2006) am_my_18 (by decide +kernel) (by decide +kernel) (by decide +kernel) hk
theorem e18_43 {ls : List (Option Value)} {st : List Value} {h : am_H} {a b : Int32} : am_ev 18 43 ls (.int b :: .int a :: st) h = if b < a then am_ev 18 79 ls st h else am_ev 18 46 ls st h := am_u_if2 (c := .gt) (off := 36) am_my_18 (by decide +kernel) (by decide)
theorem e18_46 {ls : List (Option Value)} {st : List Value} {h : am_H} {a : Nat} : am_ev 18 46 (some (.ref a) :: ls) (st) h = am_ev 18 47 (some (.ref a) :: ls) (.ref a :: st) h := am_ev_step (q := (47, some (.ref a) :: ls, .ref a :: st, h)) _ (.aload_n 0) 1 am_my_18 (by decide +kernel) rfl
theorem e18_47 {ls : List (Option Value)} {st : List Value} {h : am_H} {o : Nat} (hk : am_kd h o = some (.inl 7)) : am_ev 18 47 ls (.ref o :: st) h = am_ev 18 50 ls (.int (h.1 o 4) :: st) h := am_u_gfI (idx := 60) (wn := 2000) am_my_18 (by decide +kernel) (by decide +kernel) (by decide +kernel) hk
theorem e18_50 {ls : List (Option Value)} {st : List Value} {h : am_H} : am_ev 18 50 (ls) (st) h = am_ev 18 51 (ls) (.int (1) :: st) h := am_ev_step (q := (51, ls, .int (1) :: st, h)) _ (.iconst (1)) 1 am_my_18 (by decide +kernel) rfl
theorem e18_51 {ls : List (Option Value)} {st : List Value} {h : am_H} {a b : Int32} : am_ev 18 51 ls (.int b :: .int a :: st) h = if a = b then am_ev 18 79 ls st h else am_ev 18 54 ls st h := am_u_if2 (c := .eq) (off := 28) am_my_18 (by decide +kernel) (by decide)
theorem e18_54 {ls : List (Option Value)} {st : List Value} {h : am_H} {a : Nat} : am_ev 18 54 (some (.ref a) :: ls) (st) h = am_ev 18 55 (some (.ref a) :: ls) (.ref a :: st) h := am_ev_step (q := (55, some (.ref a) :: ls, .ref a :: st, h)) _ (.aload_n 0) 1 am_my_18 (by decide +kernel) rfl
theorem e18_55 {ls : List (Option Value)} {st : List Value} {h : am_H}  {o : Nat} (hw : am_w8 st ≤ 8) (hk : am_kd h o = some (.inl 7)) : am_ev 18 55 ls (.ref o :: st) h = am_bd (am_den 21 [.ref o] h) (fun v h1 => am_ev 18 58 ls (v.toList ++ st) h1) := am_u_cV (idx := 69) (wn := 2220) (as := []) am_my_18 (by decide +kernel) (Or.inl (by decide +kernel)) am_my_21 (by decide +kernel) rfl ⟨Nat.le_of_ble_eq_true rfl, rfl⟩ (by decide +kernel) hw hk
theorem e18_58 {ls : List (Option Value)} {st : List Value} {h : am_H} {a : Nat} : am_ev 18 58 (some (.ref a) :: ls) (st) h = am_ev 18 59 (some (.ref a) :: ls) (.ref a :: st) h := am_ev_step (q := (59, some (.ref a) :: ls, .ref a :: st, h)) _ (.aload_n 0) 1 am_my_18 (by decide +kernel) rfl
theorem e18_59 {ls : List (Option Value)} {st : List Value} {h : am_H} {o : Nat} (hk : am_kd h o = some (.inl 7)) : am_ev 18 59 ls (.ref o :: st) h = am_ev 18 62 ls (.int (h.1 o 10) :: st) h := am_u_gfI (idx := 72) (wn := 2008) am_my_18 (by decide +kernel) (by decide +kernel) (by decide +kernel) hk
theorem e18_62 {ls : List (Option Value)} {st : List Value} {h : am_H} {a : Int32} : am_ev 18 62 ls (.int a :: st) h = if ¬ a = 0 then am_ev 18 68 ls st h else am_ev 18 65 ls st h := am_u_if1 (c := .ne) (off := 6) am_my_18 (by decide +kernel) (by decide)
theorem e18_65 {ls : List (Option Value)} {st : List Value} {h : am_H} : am_ev 18 65 (ls) (st) h = am_ev 18 79 (ls) (st) h := am_ev_step (q := (79, ls, st, h)) _ (.goto (14)) 3 am_my_18 (by decide +kernel) rfl
theorem e18_68 {ls : List (Option Value)} {st : List Value} {h : am_H} {a : Nat} : am_ev 18 68 (some (.ref a) :: ls) (st) h = am_ev 18 69 (some (.ref a) :: ls) (.ref a :: st) h := am_ev_step (q := (69, some (.ref a) :: ls, .ref a :: st, h)) _ (.aload_n 0) 1 am_my_18 (by decide +kernel) rfl
theorem e18_69 {ls : List (Option Value)} {st : List Value} {h : am_H} {l0 l1 l2 : Option Value} {a : Int32} : am_ev 18 69 (l0 :: l1 :: l2 :: some (.int a) :: ls) (st) h = am_ev 18 70 (l0 :: l1 :: l2 :: some (.int a) :: ls) (.int a :: st) h := am_ev_step (q := (70, l0 :: l1 :: l2 :: some (.int a) :: ls, .int a :: st, h)) _ (.iload_n 3) 1 am_my_18 (by decide +kernel) rfl
theorem e18_70 {ls : List (Option Value)} {st : List Value} {h : am_H} {p0 : Int32} {o : Nat} (hw : am_w8 st ≤ 8) (hk : am_kd h o = some (.inl 7)) : am_ev 18 70 ls (.int p0 :: .ref o :: st) h = am_bd (am_den 26 [.ref o, .int p0] h) (fun v h1 => am_ev 18 73 ls (v.toList ++ st) h1) := am_u_cV (idx := 75) (wn := 2238) (as := [.int p0]) am_my_18 (by decide +kernel) (Or.inl (by decide +kernel)) am_my_26 (by decide +kernel) rfl ⟨Nat.le_of_ble_eq_true rfl, rfl⟩ (by decide +kernel) hw hk
theorem e18_73 {ls : List (Option Value)} {st : List Value} {h : am_H} {l0 l1 l2 l3 : Option Value} {a : Int32} : am_ev 18 73 (l0 :: l1 :: l2 :: l3 :: some (.int a) :: ls) (st) h = am_ev 18 76 (l0 :: l1 :: l2 :: l3 :: some (.int (a + (1))) :: ls) (st) h := am_ev_step (q := (76, l0 :: l1 :: l2 :: l3 :: some (.int (a + (1))) :: ls, st, h)) _ (.iinc 4 (1)) 3 am_my_18 (by decide +kernel) rfl
theorem e18_76 {ls : List (Option Value)} {st : List Value} {h : am_H} : am_ev 18 76 (ls) (st) h = am_ev 18 37 (ls) (st) h := am_ev_step (q := (37, ls, st, h)) _ (.goto (-39)) 3 am_my_18 (by decide +kernel) rfl
theorem e18_79 {ls : List (Option Value)} {st : List Value} {h : am_H} {a : Nat} : am_ev 18 79 (some (.ref a) :: ls) (st) h = am_ev 18 80 (some (.ref a) :: ls) (.ref a :: st) h := am_ev_step (q := (80, some (.ref a) :: ls, .ref a :: st, h)) _ (.aload_n 0) 1 am_my_18 (by decide +kernel) rfl
theorem e18_80 {ls : List (Option Value)} {st : List Value} {h : am_H} {o : Nat} (hk : am_kd h o = some (.inl 7)) : am_ev 18 80 ls (.ref o :: st) h = am_ev 18 83 ls (.int (h.1 o 4) :: st) h := am_u_gfI (idx := 60) (wn := 2000) am_my_18 (by decide +kernel) (by decide +kernel) (by decide +kernel) hk
theorem e18_83 {ls : List (Option Value)} {st : List Value} {h : am_H} {a : Int32} : am_ev 18 83 ls (.int a :: st) h = if ¬ a = 0 then am_ev 18 115 ls st h else am_ev 18 86 ls st h := am_u_if1 (c := .ne) (off := 32) am_my_18 (by decide +kernel) (by decide)
theorem e18_86 {ls : List (Option Value)} {st : List Value} {h : am_H} {l0 l1 l2 : Option Value} {a : Int32} : am_ev 18 86 (l0 :: l1 :: l2 :: some (.int a) :: ls) (st) h = am_ev 18 87 (l0 :: l1 :: l2 :: some (.int a) :: ls) (.int a :: st) h := am_ev_step (q := (87, l0 :: l1 :: l2 :: some (.int a) :: ls, .int a :: st, h)) _ (.iload_n 3) 1 am_my_18 (by decide +kernel) rfl
theorem e18_87 {ls : List (Option Value)} {st : List Value} {h : am_H} {a : Int32} : am_ev 18 87 ls (.int a :: st) h = if ¬ a = 0 then am_ev 18 115 ls st h else am_ev 18 90 ls st h := am_u_if1 (c := .ne) (off := 28) am_my_18 (by decide +kernel) (by decide)
theorem e18_90 {ls : List (Option Value)} {st : List Value} {h : am_H} {a : Nat} : am_ev 18 90 (some (.ref a) :: ls) (st) h = am_ev 18 91 (some (.ref a) :: ls) (.ref a :: st) h := am_ev_step (q := (91, some (.ref a) :: ls, .ref a :: st, h)) _ (.aload_n 0) 1 am_my_18 (by decide +kernel) rfl
theorem e18_91 {ls : List (Option Value)} {st : List Value} {h : am_H} {o : Nat} (hk : am_kd h o = some (.inl 7)) : am_ev 18 91 ls (.ref o :: st) h = am_ev 18 94 ls (va_rf (h.2.2.1 o 0) :: st) h := am_u_gfR (idx := 12) (wn := 1232) (a := 0) am_my_18 (by decide +kernel) (by decide +kernel) (by decide +kernel) hk
theorem e18_94 {ls : List (Option Value)} {st : List Value} {h : am_H}  {o : Nat} (hw : am_w8 st ≤ 8) (hk : am_kd h o = some (.inl 3)) : am_ev 18 94 ls (.ref o :: st) h = am_bd (am_den 51 [.ref o] h) (fun v h1 => am_ev 18 97 ls (v.toList ++ st) h1) := am_u_cV (idx := 79) (wn := 3116) (as := []) am_my_18 (by decide +kernel) (Or.inl (by decide +kernel)) am_my_51 (by decide +kernel) rfl ⟨Nat.le_of_ble_eq_true rfl, rfl⟩ (by decide +kernel) hw hk
theorem e18_97 {ls : List (Option Value)} {st : List Value} {h : am_H} {a : Int32} : am_ev 18 97 ls (.int a :: st) h = if a = 0 then am_ev 18 115 ls st h else am_ev 18 100 ls st h := am_u_if1 (c := .eq) (off := 18) am_my_18 (by decide +kernel) (by decide)
theorem e18_100 {ls : List (Option Value)} {st : List Value} {h : am_H} {a : Nat} : am_ev 18 100 (some (.ref a) :: ls) (st) h = am_ev 18 101 (some (.ref a) :: ls) (.ref a :: st) h := am_ev_step (q := (101, some (.ref a) :: ls, .ref a :: st, h)) _ (.aload_n 0) 1 am_my_18 (by decide +kernel) rfl
theorem e18_101 {ls : List (Option Value)} {st : List Value} {h : am_H} {a : Nat} : am_ev 18 101 (some (.ref a) :: ls) (st) h = am_ev 18 102 (some (.ref a) :: ls) (.ref a :: st) h := am_ev_step (q := (102, some (.ref a) :: ls, .ref a :: st, h)) _ (.aload_n 0) 1 am_my_18 (by decide +kernel) rfl
theorem e18_102 {ls : List (Option Value)} {st : List Value} {h : am_H} {o : Nat} (hk : am_kd h o = some (.inl 7)) : am_ev 18 102 ls (.ref o :: st) h = am_ev 18 105 ls (va_rf (h.2.2.1 o 0) :: st) h := am_u_gfR (idx := 12) (wn := 1232) (a := 0) am_my_18 (by decide +kernel) (by decide +kernel) (by decide +kernel) hk
theorem e18_105 {ls : List (Option Value)} {st : List Value} {h : am_H}  {o : Nat} (hw : am_w8 st ≤ 8) (hk : am_kd h o = some (.inl 3)) : am_ev 18 105 ls (.ref o :: st) h = am_bd (am_den 51 [.ref o] h) (fun v h1 => am_ev 18 108 ls (v.toList ++ st) h1) := am_u_cV (idx := 79) (wn := 3116) (as := []) am_my_18 (by decide +kernel) (Or.inl (by decide +kernel)) am_my_51 (by decide +kernel) rfl ⟨Nat.le_of_ble_eq_true rfl, rfl⟩ (by decide +kernel) hw hk
theorem e18_108 {ls : List (Option Value)} {st : List Value} {h : am_H} {a : Nat} : am_ev 18 108 (some (.ref a) :: ls) (st) h = am_ev 18 109 (some (.ref a) :: ls) (.ref a :: st) h := am_ev_step (q := (109, some (.ref a) :: ls, .ref a :: st, h)) _ (.aload_n 0) 1 am_my_18 (by decide +kernel) rfl
theorem e18_109 {ls : List (Option Value)} {st : List Value} {h : am_H} {o : Nat} (hk : am_kd h o = some (.inl 7)) : am_ev 18 109 ls (.ref o :: st) h = am_ev 18 112 ls (.int (h.1 o 8) :: st) h := am_u_gfI (idx := 53) (wn := 2006) am_my_18 (by decide +kernel) (by decide +kernel) (by decide +kernel) hk
theorem e18_112 {ls : List (Option Value)} {st : List Value} {h : am_H} {p0 : Int32} {p1 : Int32} {o : Nat} (hw : am_w8 st ≤ 8) (hk : am_kd h o = some (.inl 7)) : am_ev 18 112 ls (.int p1 :: .int p0 :: .ref o :: st) h = am_bd (am_den 43 [.ref o, .int p0, .int p1] h) (fun v h1 => am_ev 18 115 ls (v.toList ++ st) h1) := am_u_cV (idx := 83) (wn := 3076) (as := [.int p0, .int p1]) am_my_18 (by decide +kernel) (Or.inl (by decide +kernel)) am_my_43 (by decide +kernel) rfl ⟨Nat.le_of_ble_eq_true rfl, rfl⟩ (by decide +kernel) hw hk
theorem e18_115 {ls : List (Option Value)} {st : List Value} {h : am_H} {a : Nat} : am_ev 18 115 (some (.ref a) :: ls) (st) h = am_ev 18 116 (some (.ref a) :: ls) (.ref a :: st) h := am_ev_step (q := (116, some (.ref a) :: ls, .ref a :: st, h)) _ (.aload_n 0) 1 am_my_18 (by decide +kernel) rfl
theorem e18_116 {ls : List (Option Value)} {st : List Value} {h : am_H} {o : Nat} (hk : am_kd h o = some (.inl 7)) : am_ev 18 116 ls (.ref o :: st) h = am_ev 18 119 ls (.int (h.1 o 4) :: st) h := am_u_gfI (idx := 60) (wn := 2000) am_my_18 (by decide +kernel) (by decide +kernel) (by decide +kernel) hk
theorem e18_119 {ls : List (Option Value)} {st : List Value} {h : am_H} {a : Int32} : am_ev 18 119 ls (.int a :: st) h = if ¬ a = 0 then am_ev 18 126 ls st h else am_ev 18 122 ls st h := am_u_if1 (c := .ne) (off := 7) am_my_18 (by decide +kernel) (by decide)
theorem e18_122 {ls : List (Option Value)} {st : List Value} {h : am_H} : am_ev 18 122 (ls) (st) h = am_ev 18 123 (ls) (.int (1) :: st) h := am_ev_step (q := (123, ls, .int (1) :: st, h)) _ (.iconst (1)) 1 am_my_18 (by decide +kernel) rfl
theorem e18_123 {ls : List (Option Value)} {st : List Value} {h : am_H} : am_ev 18 123 (ls) (st) h = am_ev 18 127 (ls) (st) h := am_ev_step (q := (127, ls, st, h)) _ (.goto (4)) 3 am_my_18 (by decide +kernel) rfl
theorem e18_126 {ls : List (Option Value)} {st : List Value} {h : am_H} : am_ev 18 126 (ls) (st) h = am_ev 18 127 (ls) (.int (0) :: st) h := am_ev_step (q := (127, ls, .int (0) :: st, h)) _ (.iconst (0)) 1 am_my_18 (by decide +kernel) rfl
theorem e18_127 {ls : List (Option Value)} {h : am_H} {v : Int32} (hv : v = 0 ∨ v = 1) : am_ev 18 127 ls [.int v] h = some (some (.int v), h) := am_u_rtZ am_my_18 (by decide +kernel) rfl hv
theorem c_fr.ok {g h : am_H} (H : c_fr g h) (ok : am_okH g) : am_okH h := by
  unfold am_okH at ok ⊢
  rw [H.1]
  exact ok
/-- what is told, as the class holds it: kept where only the reader's own fields change; full; a line is kept -/
def c_dr {D : Type} (dr : am_H → D → Prop) (full : Nat → D → Bool) (upd : Nat → (Nat → Nat) → D → D) (so : Nat) : Prop :=
  (∀ (h h' : am_H) (d : D), dr h d → c_sd h h' → dr h' d) ∧ (∀ (h : am_H) (d : D) (i : Nat), i < 18 → ln_s i = so → dr h d → c_fl h i = full i d) ∧
  (∀ (t : Nat → Nat) (L : Nat) (g h : am_H) (a : Nat) (q : Nat × Nat) (d : D) (i : Nat) (v : Nat → Nat), i < 18 → ln_s i = so → dr h d → c_st t L g h a q → (∀ j, j < (ln_r i).length → h.1 176 j = nI (v j) ∧ t_can ((ln_r i).getD j 0) (v j) v = true ∧ v j < 100) → full i d = false → ∃ h2 : am_H, am_den 45 [.ref 159, .ref (1048578 + i)] h = some (none, h2) ∧ c_st t L g h2 a q ∧ dr h2 (upd i v d))
theorem c_q1 {b : Bool} {q : Nat × Nat} {p : Nat} (hq : q.1 ≠ 1) : (if b = true then t_nt q 3 p else q).1 ≠ 1 := by
  cases b with
  | true => rw [if_pos rfl]; exact t_nt_1 hq (by decide)
  | false => rw [if_neg (by decide)]; exact hq
theorem c_q0 {b : Bool} {q : Nat × Nat} {p : Nat} (h : (if b = true then t_nt q 3 p else q).1 = 0) : b = false := by
  cases b with
  | true => rw [if_pos rfl] at h; exact absurd h (t_nt_0 (by decide))
  | false => rfl
theorem c_rl {D : Type} {dr : am_H → D → Prop} {full : Nat → D → Bool} {upd : Nat → (Nat → Nat) → D → D} {so : Nat} (A : c_dr dr full upd so) (hso : so < 4) (t : Nat → Nat) (L : Nat) (g : am_H) : ∀ (n a c : Nat) (q : Nat × Nat) (d : D) (h : am_H), L < a + n → c ≤ a → c_st t L g h a q → dr h d → q.1 ≠ 1 →
    (match t_ll full upd t L so n a q d with
    | .inl p => ∃ (h' : am_H) (c' : Nat), am_ev 18 37 [some (.ref 159), some (.ref 2), some (.int (nI L)), some (.int (nI so)), some (.int (nI c))] [] h = am_ev 18 79 [some (.ref 159), some (.ref 2), some (.int (nI L)), some (.int (nI so)), some (.int (nI c'))] [] h' ∧ c_bk g h' p
    | .inr r => ∃ (h' : am_H) (c' : Nat), am_ev 18 37 [some (.ref 159), some (.ref 2), some (.int (nI L)), some (.int (nI so)), some (.int (nI c))] [] h = am_ev 18 79 [some (.ref 159), some (.ref 2), some (.int (nI L)), some (.int (nI so)), some (.int (nI c'))] [] h' ∧ (∃ a' : Nat, c_st t L g h' a' r.1) ∧ dr h' r.2 ∧ r.1.1 ≠ 1) := by
  obtain ⟨A1, A2, A3⟩ := A
  intro n
  induction n with
  | zero => intro a c q d h hn hc H; exact absurd H.2.2.1 (by omega)
  | succ n ih =>
    intro a c q d h hn hc H hd hq
    have ok := H.1.1
    have L6 := H.1.2.1
    have aL := H.2.2.1
    obtain ⟨h1, d1, st1, sd1, n1, k10, k11, k12⟩ := c_tok H
    have ok1 := st1.1.1
    have l1 : ¬ nI L < nI c := Int32.not_lt.mpr (nI_le (by omega) (by omega))
    have f1 : ¬ h.1 159 4 = 1 := by
      rw [H.2.2.2.2.1]
      exact fun w => hq ((nI_eq (b := 1) (by have := H.2.2.2.2.2.2; omega) (by decide)).mp w)
    have s1 : am_ev 18 37 [some (.ref 159), some (.ref 2), some (.int (nI L)), some (.int (nI so)), some (.int (nI c))] [] h = am_ev 18 58 [some (.ref 159), some (.ref 2), some (.int (nI L)), some (.int (nI so)), some (.int (nI c))] [] h1 := by
      simp only [e18_0, e18_1, e18_2, e18_5, e18_6, e18_7, e18_8, e18_9, e18_12, e18_15, e18_16, e18_17, e18_20, e18_21, e18_22, e18_25, e18_26, e18_27, e18_30, e18_31, e18_34, e18_35, e18_37, e18_39, e18_40, e18_43, e18_46, e18_47, e18_50, e18_51, e18_54, e18_55, e18_59, e18_62, e18_65, e18_68, e18_69, e18_70, e18_73, e18_76, e18_79, e18_80, e18_83, e18_86, e18_87, e18_90, e18_91, e18_94, e18_97, e18_100, e18_101, e18_102, e18_105, e18_108, e18_109, e18_112, e18_115, e18_116, e18_119, e18_122, e18_123, e18_126, e18_127, am_bd_some, Option.toList_some, Option.toList_none, List.cons_append, List.nil_append, am_w8_0, am_w8_1, am_w8_2, am_w8_3, am_w8_4, eq_self, or_true, true_or, am_kd_sI, am_kd_sL, am_kd_sR, am_tc_sI, am_tc_sL, am_tc_sR, am_len_sI, am_len_sL, am_len_sR, am_rfs, if_true, if_false, am_rdL_sI, am_rR_sL, am_rt_cq, am_kd_cq, am_tc_cq, am_len_cq, am_rd_sL, am_rd_sR, am_rdL_sR, okK_159 ok, H.1.2.2.2.1, l1, f1, d1]
    have sl := t_S_le t L a aL
    have tc := (t_C_i t L (t_S t L a)).1
    have hd1 := A1 h h1 d hd sd1
    unfold t_ll
    generalize t_S t L a = s at *
    by_cases cK : t_K t L s = 0
    · rw [if_pos cK]
      have c0 : (h1.1 159 10 = 0) = True := eq_true (k10.trans (tc.mpr cK))
      refine ⟨h1, c, ?_, ⟨_, st1⟩, hd1, hq⟩
      rw [s1]
      simp only [e18_0, e18_1, e18_2, e18_5, e18_6, e18_7, e18_8, e18_9, e18_12, e18_15, e18_16, e18_17, e18_20, e18_21, e18_22, e18_25, e18_26, e18_27, e18_30, e18_31, e18_34, e18_35, e18_37, e18_39, e18_40, e18_43, e18_46, e18_47, e18_50, e18_51, e18_54, e18_55, e18_58, e18_59, e18_62, e18_65, e18_68, e18_69, e18_70, e18_73, e18_76, e18_80, e18_83, e18_86, e18_87, e18_90, e18_91, e18_94, e18_97, e18_100, e18_101, e18_102, e18_105, e18_108, e18_109, e18_112, e18_115, e18_116, e18_119, e18_122, e18_123, e18_126, e18_127, am_bd_some, Option.toList_some, Option.toList_none, List.cons_append, List.nil_append, am_w8_0, am_w8_1, am_w8_2, am_w8_3, am_w8_4, eq_self, or_true, true_or, am_kd_sI, am_kd_sL, am_kd_sR, am_tc_sI, am_tc_sL, am_tc_sR, am_len_sI, am_len_sL, am_len_sR, am_rfs, if_true, if_false, am_rdL_sI, am_rR_sL, am_rt_cq, am_kd_cq, am_tc_cq, am_len_cq, am_rd_sL, am_rd_sR, am_rdL_sR, okK_159 ok1, c0, not_true]
    · rw [if_neg cK]
      have c0 : ¬ h1.1 159 10 = 0 := fun w => cK (tc.mp (k10.symm.trans w))
      have sL := t_K_lt cK
      have rl := den_readLine hso sl.2 st1 k10 k11
      have brk : ∀ (h' : am_H) (p : Nat), am_den 26 [.ref 159, .int (nI so)] h1 = some (none, h') → c_bk g h' p → ∃ (h' : am_H) (c' : Nat), am_ev 18 37 [some (.ref 159), some (.ref 2), some (.int (nI L)), some (.int (nI so)), some (.int (nI c))] [] h = am_ev 18 79 [some (.ref 159), some (.ref 2), some (.int (nI L)), some (.int (nI so)), some (.int (nI c'))] [] h' ∧ c_bk g h' p := by
        intro h' p dl hb
        have okg : am_okH g := by
          unfold am_okH at ok ⊢
          rw [← H.2.1.1]
          exact ok
        have ok' := hb.1.ok okg
        refine ⟨h', c + 1, ?_, hb⟩
        have s2 : am_ev 18 58 [some (.ref 159), some (.ref 2), some (.int (nI L)), some (.int (nI so)), some (.int (nI c))] [] h1 = am_ev 18 37 [some (.ref 159), some (.ref 2), some (.int (nI L)), some (.int (nI so)), some (.int (nI (c + 1)))] [] h' := by
          simp only [e18_0, e18_1, e18_2, e18_5, e18_6, e18_7, e18_8, e18_9, e18_12, e18_15, e18_16, e18_17, e18_20, e18_21, e18_22, e18_25, e18_26, e18_27, e18_30, e18_31, e18_34, e18_35, e18_39, e18_40, e18_43, e18_46, e18_47, e18_50, e18_51, e18_54, e18_55, e18_58, e18_59, e18_62, e18_65, e18_68, e18_69, e18_70, e18_73, e18_76, e18_79, e18_80, e18_83, e18_86, e18_87, e18_90, e18_91, e18_94, e18_97, e18_100, e18_101, e18_102, e18_105, e18_108, e18_109, e18_112, e18_115, e18_116, e18_119, e18_122, e18_123, e18_126, e18_127, am_bd_some, Option.toList_some, Option.toList_none, List.cons_append, List.nil_append, am_w8_0, am_w8_1, am_w8_2, am_w8_3, am_w8_4, eq_self, or_true, true_or, am_kd_sI, am_kd_sL, am_kd_sR, am_tc_sI, am_tc_sL, am_tc_sR, am_len_sI, am_len_sL, am_len_sR, am_rfs, if_true, if_false, am_rdL_sI, am_rR_sL, am_rt_cq, am_kd_cq, am_tc_cq, am_len_cq, am_rd_sL, am_rd_sR, am_rdL_sR, okK_159 ok1, c0, not_false_eq_true, dl, nI_1]
        have r1 : ((1 : Int32) = 1) = True := eq_true rfl
        rw [s1, s2]
        by_cases w : h'.1 159 8 < nI (c + 1)
        · simp only [e18_0, e18_1, e18_2, e18_5, e18_6, e18_7, e18_8, e18_9, e18_12, e18_15, e18_16, e18_17, e18_20, e18_21, e18_22, e18_25, e18_26, e18_27, e18_30, e18_31, e18_34, e18_35, e18_37, e18_39, e18_40, e18_43, e18_46, e18_47, e18_50, e18_51, e18_54, e18_55, e18_58, e18_59, e18_62, e18_65, e18_68, e18_69, e18_70, e18_73, e18_76, e18_80, e18_83, e18_86, e18_87, e18_90, e18_91, e18_94, e18_97, e18_100, e18_101, e18_102, e18_105, e18_108, e18_109, e18_112, e18_115, e18_116, e18_119, e18_122, e18_123, e18_126, e18_127, am_bd_some, Option.toList_some, Option.toList_none, List.cons_append, List.nil_append, am_w8_0, am_w8_1, am_w8_2, am_w8_3, am_w8_4, eq_self, or_true, true_or, am_kd_sI, am_kd_sL, am_kd_sR, am_tc_sI, am_tc_sL, am_tc_sR, am_len_sI, am_len_sL, am_len_sR, am_rfs, if_true, if_false, am_rdL_sI, am_rR_sL, am_rt_cq, am_kd_cq, am_tc_cq, am_len_cq, am_rd_sL, am_rd_sR, am_rdL_sR, okK_159 ok', w]
        · simp only [e18_0, e18_1, e18_2, e18_5, e18_6, e18_7, e18_8, e18_9, e18_12, e18_15, e18_16, e18_17, e18_20, e18_21, e18_22, e18_25, e18_26, e18_27, e18_30, e18_31, e18_34, e18_35, e18_37, e18_39, e18_40, e18_43, e18_46, e18_47, e18_50, e18_51, e18_54, e18_55, e18_58, e18_59, e18_62, e18_65, e18_68, e18_69, e18_70, e18_73, e18_76, e18_80, e18_83, e18_86, e18_87, e18_90, e18_91, e18_94, e18_97, e18_100, e18_101, e18_102, e18_105, e18_108, e18_109, e18_112, e18_115, e18_116, e18_119, e18_122, e18_123, e18_126, e18_127, am_bd_some, Option.toList_some, Option.toList_none, List.cons_append, List.nil_append, am_w8_0, am_w8_1, am_w8_2, am_w8_3, am_w8_4, eq_self, or_true, true_or, am_kd_sI, am_kd_sL, am_kd_sR, am_tc_sI, am_tc_sL, am_tc_sR, am_len_sI, am_len_sL, am_len_sR, am_rfs, if_true, if_false, am_rdL_sI, am_rR_sL, am_rt_cq, am_kd_cq, am_tc_cq, am_len_cq, am_rd_sL, am_rd_sR, am_rdL_sR, okK_159 ok', w, hb.2.1, r1]
      revert rl
      cases hl : t_ln t L so s with
      | none => exact fun ⟨h', a1, a2⟩ => brk h' _ a1 a2
      | some i =>
        obtain ⟨i18, is, iw, iK⟩ := t_ln_lt hl
        have ea := (t_CK t L s).2.2 (by omega)
        have el := t_E_le t L s sl.2
        have gt : s < t_at t L s := by rw [ea]; exact el.2.2 sL
        have al := t_at_le t L s sl.2
        have pl := t_ps_le t L (t_at t L s) al.2 ((ln_r i).length + 1)
        have ef := A2 h1 d i i18 is hd1
        dsimp only
        rw [ef]
        cases hr : t_rw t L (t_at t L s) (ln_r i).length with
        | some p => exact fun ⟨h', a1, a2⟩ => brk h' _ a1 a2
        | none =>
          rintro ⟨h2, st2, sd2, n2, w1, w2⟩
          have hd2 := A1 h1 h2 d hd1 sd2
          have q21 : (t_rq (ln_r i) (t_va t L (t_at t L s)) (t_nx t L (t_at t L s)) (ln_r i).length (if full i d = true then t_nt q 3 s else q)).1 ≠ 1 := t_rq_1 (c_q1 hq)
          have go : ∀ (h' : am_H) (d' : D), am_den 26 [.ref 159, .int (nI so)] h1 = some (none, h') → c_st t L g h' (t_ps t L (t_at t L s) ((ln_r i).length + 1)) (t_rq (ln_r i) (t_va t L (t_at t L s)) (t_nx t L (t_at t L s)) (ln_r i).length (if full i d = true then t_nt q 3 s else q)) → dr h' d' → (match t_ll full upd t L so n (t_ps t L (t_at t L s) ((ln_r i).length + 1)) (t_rq (ln_r i) (t_va t L (t_at t L s)) (t_nx t L (t_at t L s)) (ln_r i).length (if full i d = true then t_nt q 3 s else q)) d' with
              | .inl p => ∃ (h' : am_H) (c' : Nat), am_ev 18 37 [some (.ref 159), some (.ref 2), some (.int (nI L)), some (.int (nI so)), some (.int (nI c))] [] h = am_ev 18 79 [some (.ref 159), some (.ref 2), some (.int (nI L)), some (.int (nI so)), some (.int (nI c'))] [] h' ∧ c_bk g h' p
              | .inr r => ∃ (h' : am_H) (c' : Nat), am_ev 18 37 [some (.ref 159), some (.ref 2), some (.int (nI L)), some (.int (nI so)), some (.int (nI c))] [] h = am_ev 18 79 [some (.ref 159), some (.ref 2), some (.int (nI L)), some (.int (nI so)), some (.int (nI c'))] [] h' ∧ (∃ a' : Nat, c_st t L g h' a' r.1) ∧ dr h' r.2 ∧ r.1.1 ≠ 1) := by
            intro h' d' dl st' hd'
            have s2 : am_ev 18 58 [some (.ref 159), some (.ref 2), some (.int (nI L)), some (.int (nI so)), some (.int (nI c))] [] h1 = am_ev 18 37 [some (.ref 159), some (.ref 2), some (.int (nI L)), some (.int (nI so)), some (.int (nI (c + 1)))] [] h' := by
              simp only [e18_0, e18_1, e18_2, e18_5, e18_6, e18_7, e18_8, e18_9, e18_12, e18_15, e18_16, e18_17, e18_20, e18_21, e18_22, e18_25, e18_26, e18_27, e18_30, e18_31, e18_34, e18_35, e18_39, e18_40, e18_43, e18_46, e18_47, e18_50, e18_51, e18_54, e18_55, e18_58, e18_59, e18_62, e18_65, e18_68, e18_69, e18_70, e18_73, e18_76, e18_79, e18_80, e18_83, e18_86, e18_87, e18_90, e18_91, e18_94, e18_97, e18_100, e18_101, e18_102, e18_105, e18_108, e18_109, e18_112, e18_115, e18_116, e18_119, e18_122, e18_123, e18_126, e18_127, am_bd_some, Option.toList_some, Option.toList_none, List.cons_append, List.nil_append, am_w8_0, am_w8_1, am_w8_2, am_w8_3, am_w8_4, eq_self, or_true, true_or, am_kd_sI, am_kd_sL, am_kd_sR, am_tc_sI, am_tc_sL, am_tc_sR, am_len_sI, am_len_sL, am_len_sR, am_rfs, if_true, if_false, am_rdL_sI, am_rR_sL, am_rt_cq, am_kd_cq, am_tc_cq, am_len_cq, am_rd_sL, am_rd_sR, am_rdL_sR, okK_159 ok1, c0, not_false_eq_true, dl, nI_1]
            rw [s1, s2]
            exact ih _ (c + 1) _ d' h' (by omega) (by omega) st' hd' q21
          by_cases z : (t_rq (ln_r i) (t_va t L (t_at t L s)) (t_nx t L (t_at t L s)) (ln_r i).length (if full i d = true then t_nt q 3 s else q)).1 = 0
          · obtain ⟨z1, -, z3⟩ := t_rq_0 z
            obtain ⟨h3, d3, st3, hd3⟩ := A3 t L g h2 _ _ d i (t_va t L (t_at t L s)) i18 is hd2 st2 (fun j hj => ⟨(n2 j hj).1, z3 j hj, (n2 j hj).2⟩) (c_q0 z1)
            have := go h3 (upd i (t_va t L (t_at t L s)) d) (w2 z h3 d3) st3 hd3
            rw [if_pos z]
            exact this
          · have := go h2 d (w1 z) st2 hd2
            rw [if_neg z]
            exact this
