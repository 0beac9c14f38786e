/-! part 41: the flock -/
theorem e74_0 {ls : List (Option Value)} {st : List Value} {h : am_H} {a : Nat} : am_ev 74 0 (some (.ref a) :: ls) (st) h = am_ev 74 1 (some (.ref a) :: ls) (.ref a :: st) h := am_ev_step (q := (1, some (.ref a) :: ls, .ref a :: st, h)) _ (.aload_n 0) 1 am_my_74 (by decide +kernel) rfl
theorem e74_1 {ls : List (Option Value)} {st : List Value} {h : am_H} {l0 : Option Value} {a : Int32} : am_ev 74 1 (l0 :: some (.int a) :: ls) (st) h = am_ev 74 2 (l0 :: some (.int a) :: ls) (.int a :: st) h := am_ev_step (q := (2, l0 :: some (.int a) :: ls, .int a :: st, h)) _ (.iload_n 1) 1 am_my_74 (by decide +kernel) rfl
theorem e74_2 {ls : List (Option Value)} {st : List Value} {h : am_H} {p0 : Int32} {o : Nat} (hw : am_w8 st ≤ 8) (hk : am_kd h o = some (.inl 4)) : am_ev 74 2 ls (.int p0 :: .ref o :: st) h = am_bd (am_den 75 [.ref o, .int p0] h) (fun v h1 => am_ev 74 5 ls (v.toList ++ st) h1) := am_u_cV (idx := 78) (wn := 3222) (as := [.int p0]) am_my_74 (by decide +kernel) (Or.inl (by decide +kernel)) am_my_75 (by decide +kernel) rfl ⟨Nat.le_of_ble_eq_true rfl, rfl⟩ (by decide +kernel) hw hk
theorem e74_5 {ls : List (Option Value)} {st : List Value} {h : am_H} {a : Int32} : am_ev 74 5 ls (.int a :: st) h = if a = 0 then am_ev 74 16 ls st h else am_ev 74 8 ls st h := am_u_if1 (c := .eq) (off := 11) am_my_74 (by decide +kernel) (by decide)
theorem e74_8 {ls : List (Option Value)} {st : List Value} {h : am_H} {a : Nat} : am_ev 74 8 (some (.ref a) :: ls) (st) h = am_ev 74 9 (some (.ref a) :: ls) (.ref a :: st) h := am_ev_step (q := (9, some (.ref a) :: ls, .ref a :: st, h)) _ (.aload_n 0) 1 am_my_74 (by decide +kernel) rfl
theorem e74_9 {ls : List (Option Value)} {st : List Value} {h : am_H} {l0 : Option Value} {a : Int32} : am_ev 74 9 (l0 :: some (.int a) :: ls) (st) h = am_ev 74 10 (l0 :: some (.int a) :: ls) (.int a :: st) h := am_ev_step (q := (10, l0 :: some (.int a) :: ls, .int a :: st, h)) _ (.iload_n 1) 1 am_my_74 (by decide +kernel) rfl
theorem e74_10 {ls : List (Option Value)} {st : List Value} {h : am_H} {p0 : Int32} {o : Nat} (hw : am_w8 st ≤ 8) (hk : am_kd h o = some (.inl 4)) : am_ev 74 10 ls (.int p0 :: .ref o :: st) h = am_bd (am_den 78 [.ref o, .int p0] h) (fun v h1 => am_ev 74 13 ls (v.toList ++ st) h1) := am_u_cV (idx := 81) (wn := 3236) (as := [.int p0]) am_my_74 (by decide +kernel) (Or.inl (by decide +kernel)) am_my_78 (by decide +kernel) rfl ⟨Nat.le_of_ble_eq_true rfl, rfl⟩ (by decide +kernel) hw hk
theorem e74_13 {ls : List (Option Value)} {st : List Value} {h : am_H} : am_ev 74 13 (ls) (st) h = am_ev 74 17 (ls) (st) h := am_ev_step (q := (17, ls, st, h)) _ (.goto (4)) 3 am_my_74 (by decide +kernel) rfl
theorem e74_16 {ls : List (Option Value)} {st : List Value} {h : am_H} : am_ev 74 16 (ls) (st) h = am_ev 74 17 (ls) (.int (-1) :: st) h := am_ev_step (q := (17, ls, .int (-1) :: st, h)) _ (.iconst (-1)) 1 am_my_74 (by decide +kernel) rfl
theorem e74_17 {ls : List (Option Value)} {st : List Value} {h : am_H} {l0 l1 : Option Value} {z : Option Value} {a : Int32} : am_ev 74 17 (l0 :: l1 :: z :: ls) (.int a :: st) h = am_ev 74 18 (l0 :: l1 :: some (.int a) :: ls) (st) h := am_ev_step (q := (18, l0 :: l1 :: some (.int a) :: ls, st, h)) _ (.istore_n 2) 1 am_my_74 (by decide +kernel) rfl
theorem e74_18 {ls : List (Option Value)} {st : List Value} {h : am_H} {l0 l1 : Option Value} {a : Int32} : am_ev 74 18 (l0 :: l1 :: some (.int a) :: ls) (st) h = am_ev 74 19 (l0 :: l1 :: some (.int a) :: ls) (.int a :: st) h := am_ev_step (q := (19, l0 :: l1 :: some (.int a) :: ls, .int a :: st, h)) _ (.iload_n 2) 1 am_my_74 (by decide +kernel) rfl
theorem e74_19 {ls : List (Option Value)} {st : List Value} {h : am_H} : am_ev 74 19 (ls) (st) h = am_ev 74 20 (ls) (.int (-1) :: st) h := am_ev_step (q := (20, ls, .int (-1) :: st, h)) _ (.iconst (-1)) 1 am_my_74 (by decide +kernel) rfl
theorem e74_20 {ls : List (Option Value)} {st : List Value} {h : am_H} {a b : Int32} : am_ev 74 20 ls (.int b :: .int a :: st) h = if ¬ a = b then am_ev 74 25 ls st h else am_ev 74 23 ls st h := am_u_if2 (c := .ne) (off := 5) am_my_74 (by decide +kernel) (by decide)
theorem e74_23 {ls : List (Option Value)} {st : List Value} {h : am_H} : am_ev 74 23 (ls) (st) h = am_ev 74 24 (ls) (.int (0) :: st) h := am_ev_step (q := (24, ls, .int (0) :: st, h)) _ (.iconst (0)) 1 am_my_74 (by decide +kernel) rfl
theorem e74_24 {ls : List (Option Value)} {h : am_H} {v : Int32} (hv : v = 0 ∨ v = 1) : am_ev 74 24 ls [.int v] h = some (some (.int v), h) := am_u_rtZ am_my_74 (by decide +kernel) rfl hv
theorem e74_25 {ls : List (Option Value)} {st : List Value} {h : am_H} {a : Nat} : am_ev 74 25 (some (.ref a) :: ls) (st) h = am_ev 74 26 (some (.ref a) :: ls) (.ref a :: st) h := am_ev_step (q := (26, some (.ref a) :: ls, .ref a :: st, h)) _ (.aload_n 0) 1 am_my_74 (by decide +kernel) rfl
theorem e74_26 {ls : List (Option Value)} {st : List Value} {h : am_H} {l0 : Option Value} {a : Int32} : am_ev 74 26 (l0 :: some (.int a) :: ls) (st) h = am_ev 74 27 (l0 :: some (.int a) :: ls) (.int a :: st) h := am_ev_step (q := (27, l0 :: some (.int a) :: ls, .int a :: st, h)) _ (.iload_n 1) 1 am_my_74 (by decide +kernel) rfl
theorem e74_27 {ls : List (Option Value)} {st : List Value} {h : am_H} {l0 l1 : Option Value} {a : Int32} : am_ev 74 27 (l0 :: l1 :: some (.int a) :: ls) (st) h = am_ev 74 28 (l0 :: l1 :: some (.int a) :: ls) (.int a :: st) h := am_ev_step (q := (28, l0 :: l1 :: some (.int a) :: ls, .int a :: st, h)) _ (.iload_n 2) 1 am_my_74 (by decide +kernel) rfl
theorem e74_28 {ls : List (Option Value)} {st : List Value} {h : am_H} {p0 : Int32} {p1 : Int32} {o : Nat} (hw : am_w8 st ≤ 8) (hk : am_kd h o = some (.inl 4)) : am_ev 74 28 ls (.int p1 :: .int p0 :: .ref o :: st) h = am_bd (am_den 81 [.ref o, .int p0, .int p1] h) (fun v h1 => am_ev 74 31 ls (v.toList ++ st) h1) := am_u_cV (idx := 96) (wn := 4008) (as := [.int p0, .int p1]) am_my_74 (by decide +kernel) (Or.inl (by decide +kernel)) am_my_81 (by decide +kernel) rfl ⟨Nat.le_of_ble_eq_true rfl, rfl⟩ (by decide +kernel) hw hk
theorem e74_31 {ls : List (Option Value)} {st : List Value} {h : am_H} {a : Nat} : am_ev 74 31 (some (.ref a) :: ls) (st) h = am_ev 74 32 (some (.ref a) :: ls) (.ref a :: st) h := am_ev_step (q := (32, some (.ref a) :: ls, .ref a :: st, h)) _ (.aload_n 0) 1 am_my_74 (by decide +kernel) rfl
theorem e74_32 {ls : List (Option Value)} {st : List Value} {h : am_H} {o : Nat} (hk : am_kd h o = some (.inl 4)) : am_ev 74 32 ls (.ref o :: st) h = am_ev 74 35 ls (va_rf (h.2.2.1 o 0) :: st) h := am_u_gfR (idx := 12) (wn := 2047) (a := 0) am_my_74 (by decide +kernel) (by decide +kernel) (by decide +kernel) hk
theorem e74_35 {ls : List (Option Value)} {st : List Value} {h : am_H} {o : Nat} (hk : am_kd h o = some (.inl 3)) : am_ev 74 35 ls (.ref o :: st) h = am_ev 74 38 ls (va_rf (h.2.2.1 o 7) :: st) h := am_u_gfR (idx := 72) (wn := 1071) (a := 0) am_my_74 (by decide +kernel) (by decide +kernel) (by decide +kernel) hk
theorem e74_38 {ls : List (Option Value)} {st : List Value} {h : am_H} {l0 : Option Value} {a : Int32} : am_ev 74 38 (l0 :: some (.int a) :: ls) (st) h = am_ev 74 39 (l0 :: some (.int a) :: ls) (.int a :: st) h := am_ev_step (q := (39, l0 :: some (.int a) :: ls, .int a :: st, h)) _ (.iload_n 1) 1 am_my_74 (by decide +kernel) rfl
theorem e74_39 {ls : List (Option Value)} {st : List Value} {h : am_H} {i : Int32} {a : Nat} (ht : am_tc h a = some 0) : am_ev 74 39 ls (.int i :: .ref a :: st) h = if am_ix i (am_len h a) = true then am_ev 74 40 ls (.int (h.1 a i.toNatClampNeg) :: st) h else none := am_u_rI am_my_74 (by decide +kernel) ht
theorem e74_40 {ls : List (Option Value)} {st : List Value} {h : am_H} : am_ev 74 40 (ls) (st) h = am_ev 74 41 (ls) (.int (2) :: st) h := am_ev_step (q := (41, ls, .int (2) :: st, h)) _ (.iconst (2)) 1 am_my_74 (by decide +kernel) rfl
theorem e74_41 {ls : List (Option Value)} {st : List Value} {h : am_H} {a b : Int32} : am_ev 74 41 ls (.int b :: .int a :: st) h = if ¬ a = b then am_ev 74 62 ls st h else am_ev 74 44 ls st h := am_u_if2 (c := .ne) (off := 21) am_my_74 (by decide +kernel) (by decide)
theorem e74_44 {ls : List (Option Value)} {st : List Value} {h : am_H} {a : Nat} : am_ev 74 44 (some (.ref a) :: ls) (st) h = am_ev 74 45 (some (.ref a) :: ls) (.ref a :: st) h := am_ev_step (q := (45, some (.ref a) :: ls, .ref a :: st, h)) _ (.aload_n 0) 1 am_my_74 (by decide +kernel) rfl
theorem e74_45 {ls : List (Option Value)} {st : List Value} {h : am_H} {l0 : Option Value} {a : Int32} : am_ev 74 45 (l0 :: some (.int a) :: ls) (st) h = am_ev 74 46 (l0 :: some (.int a) :: ls) (.int a :: st) h := am_ev_step (q := (46, l0 :: some (.int a) :: ls, .int a :: st, h)) _ (.iload_n 1) 1 am_my_74 (by decide +kernel) rfl
theorem e74_46 {ls : List (Option Value)} {st : List Value} {h : am_H} {p0 : Int32} {o : Nat} (hw : am_w8 st ≤ 8) (hk : am_kd h o = some (.inl 4)) : am_ev 74 46 ls (.int p0 :: .ref o :: st) h = am_bd (am_den 76 [.ref o, .int p0] h) (fun v h1 => am_ev 74 49 ls (v.toList ++ st) h1) := am_u_cV (idx := 64) (wn := 3226) (as := [.int p0]) am_my_74 (by decide +kernel) (Or.inl (by decide +kernel)) am_my_76 (by decide +kernel) rfl ⟨Nat.le_of_ble_eq_true rfl, rfl⟩ (by decide +kernel) hw hk
theorem e74_49 {ls : List (Option Value)} {st : List Value} {h : am_H} {a : Int32} : am_ev 74 49 ls (.int a :: st) h = if ¬ a = 0 then am_ev 74 62 ls st h else am_ev 74 52 ls st h := am_u_if1 (c := .ne) (off := 13) am_my_74 (by decide +kernel) (by decide)
theorem e74_52 {ls : List (Option Value)} {st : List Value} {h : am_H} {a : Nat} : am_ev 74 52 (some (.ref a) :: ls) (st) h = am_ev 74 53 (some (.ref a) :: ls) (.ref a :: st) h := am_ev_step (q := (53, some (.ref a) :: ls, .ref a :: st, h)) _ (.aload_n 0) 1 am_my_74 (by decide +kernel) rfl
theorem e74_53 {ls : List (Option Value)} {st : List Value} {h : am_H} {l0 : Option Value} {a : Int32} : am_ev 74 53 (l0 :: some (.int a) :: ls) (st) h = am_ev 74 54 (l0 :: some (.int a) :: ls) (.int a :: st) h := am_ev_step (q := (54, l0 :: some (.int a) :: ls, .int a :: st, h)) _ (.iload_n 1) 1 am_my_74 (by decide +kernel) rfl
theorem e74_54 {ls : List (Option Value)} {st : List Value} {h : am_H} {a : Nat} : am_ev 74 54 (some (.ref a) :: ls) (st) h = am_ev 74 55 (some (.ref a) :: ls) (.ref a :: st) h := am_ev_step (q := (55, some (.ref a) :: ls, .ref a :: st, h)) _ (.aload_n 0) 1 am_my_74 (by decide +kernel) rfl
theorem e74_55 {ls : List (Option Value)} {st : List Value} {h : am_H} {l0 : Option Value} {a : Int32} : am_ev 74 55 (l0 :: some (.int a) :: ls) (st) h = am_ev 74 56 (l0 :: some (.int a) :: ls) (.int a :: st) h := am_ev_step (q := (56, l0 :: some (.int a) :: ls, .int a :: st, h)) _ (.iload_n 1) 1 am_my_74 (by decide +kernel) rfl
theorem e74_56 {ls : List (Option Value)} {st : List Value} {h : am_H} {p0 : Int32} {o : Nat} (hw : am_w8 st ≤ 8) (hk : am_kd h o = some (.inl 4)) : am_ev 74 56 ls (.int p0 :: .ref o :: st) h = am_bd (am_den 78 [.ref o, .int p0] h) (fun v h1 => am_ev 74 59 ls (v.toList ++ st) h1) := am_u_cV (idx := 81) (wn := 3236) (as := [.int p0]) am_my_74 (by decide +kernel) (Or.inl (by decide +kernel)) am_my_78 (by decide +kernel) rfl ⟨Nat.le_of_ble_eq_true rfl, rfl⟩ (by decide +kernel) hw hk
theorem e74_59 {ls : List (Option Value)} {st : List Value} {h : am_H} {p0 : Int32} {p1 : Int32} {o : Nat} (hw : am_w8 st ≤ 8) (hk : am_kd h o = some (.inl 4)) : am_ev 74 59 ls (.int p1 :: .int p0 :: .ref o :: st) h = am_bd (am_den 81 [.ref o, .int p0, .int p1] h) (fun v h1 => am_ev 74 62 ls (v.toList ++ st) h1) := am_u_cV (idx := 96) (wn := 4008) (as := [.int p0, .int p1]) am_my_74 (by decide +kernel) (Or.inl (by decide +kernel)) am_my_81 (by decide +kernel) rfl ⟨Nat.le_of_ble_eq_true rfl, rfl⟩ (by decide +kernel) hw hk
theorem e74_62 {ls : List (Option Value)} {st : List Value} {h : am_H} : am_ev 74 62 (ls) (st) h = am_ev 74 63 (ls) (.int (1) :: st) h := am_ev_step (q := (63, ls, .int (1) :: st, h)) _ (.iconst (1)) 1 am_my_74 (by decide +kernel) rfl
theorem e74_63 {ls : List (Option Value)} {h : am_H} {v : Int32} (hv : v = 0 ∨ v = 1) : am_ev 74 63 ls [.int v] h = some (some (.int v), h) := am_u_rtZ am_my_74 (by decide +kernel) rfl hv
theorem e81_0 {ls : List (Option Value)} {st : List Value} {h : am_H} {l0 l1 : Option Value} {a : Int32} : am_ev 81 0 (l0 :: l1 :: some (.int a) :: ls) (st) h = am_ev 81 1 (l0 :: l1 :: some (.int a) :: ls) (.int a :: st) h := am_ev_step (q := (1, l0 :: l1 :: some (.int a) :: ls, .int a :: st, h)) _ (.iload_n 2) 1 am_my_81 (by decide +kernel) rfl
theorem e81_1 {ls : List (Option Value)} {st : List Value} {h : am_H} : am_ev 81 1 (ls) (st) h = am_ev 81 2 (ls) (.int (-1) :: st) h := am_ev_step (q := (2, ls, .int (-1) :: st, h)) _ (.iconst (-1)) 1 am_my_81 (by decide +kernel) rfl
theorem e81_2 {ls : List (Option Value)} {st : List Value} {h : am_H} {a b : Int32} : am_ev 81 2 ls (.int b :: .int a :: st) h = if ¬ a = b then am_ev 81 6 ls st h else am_ev 81 5 ls st h := am_u_if2 (c := .ne) (off := 4) am_my_81 (by decide +kernel) (by decide)
theorem e81_5 {ls : List (Option Value)} {h : am_H} : am_ev 81 5 ls [] h = some (none, h) := am_u_rtV am_my_81 (by decide +kernel) rfl
theorem e81_6 {ls : List (Option Value)} {st : List Value} {h : am_H} {a : Nat} : am_ev 81 6 (some (.ref a) :: ls) (st) h = am_ev 81 7 (some (.ref a) :: ls) (.ref a :: st) h := am_ev_step (q := (7, some (.ref a) :: ls, .ref a :: st, h)) _ (.aload_n 0) 1 am_my_81 (by decide +kernel) rfl
theorem e81_7 {ls : List (Option Value)} {st : List Value} {h : am_H} {o : Nat} (hk : am_kd h o = some (.inl 4)) : am_ev 81 7 ls (.ref o :: st) h = am_ev 81 10 ls (va_rf (h.2.2.1 o 3) :: st) h := am_u_gfR (idx := 18) (wn := 2054) (a := 0) am_my_81 (by decide +kernel) (by decide +kernel) (by decide +kernel) hk
theorem e81_10 {ls : List (Option Value)} {st : List Value} {h : am_H} {l0 : Option Value} {a : Int32} : am_ev 81 10 (l0 :: some (.int a) :: ls) (st) h = am_ev 81 11 (l0 :: some (.int a) :: ls) (.int a :: st) h := am_ev_step (q := (11, l0 :: some (.int a) :: ls, .int a :: st, h)) _ (.iload_n 1) 1 am_my_81 (by decide +kernel) rfl
theorem e81_11 {ls : List (Option Value)} {st : List Value} {h : am_H} {a : Nat} : am_ev 81 11 (some (.ref a) :: ls) (st) h = am_ev 81 12 (some (.ref a) :: ls) (.ref a :: st) h := am_ev_step (q := (12, some (.ref a) :: ls, .ref a :: st, h)) _ (.aload_n 0) 1 am_my_81 (by decide +kernel) rfl
theorem e81_12 {ls : List (Option Value)} {st : List Value} {h : am_H} {o : Nat} (hk : am_kd h o = some (.inl 4)) : am_ev 81 12 ls (.ref o :: st) h = am_ev 81 15 ls (va_rf (h.2.2.1 o 0) :: st) h := am_u_gfR (idx := 12) (wn := 2047) (a := 0) am_my_81 (by decide +kernel) (by decide +kernel) (by decide +kernel) hk
theorem e81_15 {ls : List (Option Value)} {st : List Value} {h : am_H} {a : Nat} : am_ev 81 15 (some (.ref a) :: ls) (st) h = am_ev 81 16 (some (.ref a) :: ls) (.ref a :: st) h := am_ev_step (q := (16, some (.ref a) :: ls, .ref a :: st, h)) _ (.aload_n 0) 1 am_my_81 (by decide +kernel) rfl
theorem e81_16 {ls : List (Option Value)} {st : List Value} {h : am_H} {o : Nat} (hk : am_kd h o = some (.inl 4)) : am_ev 81 16 ls (.ref o :: st) h = am_ev 81 19 ls (va_rf (h.2.2.1 o 3) :: st) h := am_u_gfR (idx := 18) (wn := 2054) (a := 0) am_my_81 (by decide +kernel) (by decide +kernel) (by decide +kernel) hk
theorem e81_19 {ls : List (Option Value)} {st : List Value} {h : am_H} {l0 : Option Value} {a : Int32} : am_ev 81 19 (l0 :: some (.int a) :: ls) (st) h = am_ev 81 20 (l0 :: some (.int a) :: ls) (.int a :: st) h := am_ev_step (q := (20, l0 :: some (.int a) :: ls, .int a :: st, h)) _ (.iload_n 1) 1 am_my_81 (by decide +kernel) rfl
theorem e81_20 {ls : List (Option Value)} {st : List Value} {h : am_H} {i : Int32} {a : Nat} (ht : am_tc h a = some 0) : am_ev 81 20 ls (.int i :: .ref a :: st) h = if am_ix i (am_len h a) = true then am_ev 81 21 ls (.int (h.1 a i.toNatClampNeg) :: st) h else none := am_u_rI am_my_81 (by decide +kernel) ht
theorem e81_21 {ls : List (Option Value)} {st : List Value} {h : am_H} {l0 l1 : Option Value} {a : Int32} : am_ev 81 21 (l0 :: l1 :: some (.int a) :: ls) (st) h = am_ev 81 22 (l0 :: l1 :: some (.int a) :: ls) (.int a :: st) h := am_ev_step (q := (22, l0 :: l1 :: some (.int a) :: ls, .int a :: st, h)) _ (.iload_n 2) 1 am_my_81 (by decide +kernel) rfl
theorem e81_22 {ls : List (Option Value)} {st : List Value} {h : am_H} {p0 : Int32} {p1 : Int32} {o : Nat} (hw : am_w8 st ≤ 8) (hk : am_kd h o = some (.inl 3)) : am_ev 81 22 ls (.int p1 :: .int p0 :: .ref o :: st) h = am_bd (am_den 79 [.ref o, .int p0, .int p1] h) (fun v h1 => am_ev 81 25 ls (v.toList ++ st) h1) := am_u_cV (idx := 84) (wn := 4000) (as := [.int p0, .int p1]) am_my_81 (by decide +kernel) (Or.inl (by decide +kernel)) am_my_79 (by decide +kernel) rfl ⟨Nat.le_of_ble_eq_true rfl, rfl⟩ (by decide +kernel) hw hk
theorem e81_25 {ls : List (Option Value)} {st : List Value} {h : am_H} {v i : Int32} {a : Nat} (ht : am_tc h a = some 0) : am_ev 81 25 ls (.int v :: .int i :: .ref a :: st) h = if am_ix i (am_len h a) = true then am_ev 81 26 ls st (am_sI h a i.toNatClampNeg v) else none := am_u_wI am_my_81 (by decide +kernel) ht
theorem e81_26 {ls : List (Option Value)} {st : List Value} {h : am_H} {a : Nat} : am_ev 81 26 (some (.ref a) :: ls) (st) h = am_ev 81 27 (some (.ref a) :: ls) (.ref a :: st) h := am_ev_step (q := (27, some (.ref a) :: ls, .ref a :: st, h)) _ (.aload_n 0) 1 am_my_81 (by decide +kernel) rfl
theorem e81_27 {ls : List (Option Value)} {st : List Value} {h : am_H} {o : Nat} (hk : am_kd h o = some (.inl 4)) : am_ev 81 27 ls (.ref o :: st) h = am_ev 81 30 ls (va_rf (h.2.2.1 o 7) :: st) h := am_u_gfR (idx := 22) (wn := 2060) (a := 0) am_my_81 (by decide +kernel) (by decide +kernel) (by decide +kernel) hk
theorem e81_30 {ls : List (Option Value)} {st : List Value} {h : am_H} {l0 : Option Value} {a : Int32} : am_ev 81 30 (l0 :: some (.int a) :: ls) (st) h = am_ev 81 31 (l0 :: some (.int a) :: ls) (.int a :: st) h := am_ev_step (q := (31, l0 :: some (.int a) :: ls, .int a :: st, h)) _ (.iload_n 1) 1 am_my_81 (by decide +kernel) rfl
theorem e81_31 {ls : List (Option Value)} {st : List Value} {h : am_H} {a : Nat} {i : Int32} : am_ev 81 31 (ls) (.int i :: .ref a :: st) h = am_ev 81 32 (ls) (.int i :: .ref a :: .int i :: .ref a :: st) h := am_ev_step (q := (32, ls, .int i :: .ref a :: .int i :: .ref a :: st, h)) _ (.dup2) 1 am_my_81 (by decide +kernel) rfl
theorem e81_32 {ls : List (Option Value)} {st : List Value} {h : am_H} {i : Int32} {a : Nat} (ht : am_tc h a = some 0) : am_ev 81 32 ls (.int i :: .ref a :: st) h = if am_ix i (am_len h a) = true then am_ev 81 33 ls (.int (h.1 a i.toNatClampNeg) :: st) h else none := am_u_rI am_my_81 (by decide +kernel) ht
theorem e81_33 {ls : List (Option Value)} {st : List Value} {h : am_H} : am_ev 81 33 (ls) (st) h = am_ev 81 34 (ls) (.int (1) :: st) h := am_ev_step (q := (34, ls, .int (1) :: st, h)) _ (.iconst (1)) 1 am_my_81 (by decide +kernel) rfl
theorem e81_34 {ls : List (Option Value)} {st : List Value} {h : am_H} {a b : Int32} : am_ev 81 34 (ls) (.int b :: .int a :: st) h = am_ev 81 35 (ls) (.int (a + b) :: st) h := am_ev_step (q := (35, ls, .int (a + b) :: st, h)) _ (.iadd) 1 am_my_81 (by decide +kernel) rfl
theorem e81_35 {ls : List (Option Value)} {st : List Value} {h : am_H} {v i : Int32} {a : Nat} (ht : am_tc h a = some 0) : am_ev 81 35 ls (.int v :: .int i :: .ref a :: st) h = if am_ix i (am_len h a) = true then am_ev 81 36 ls st (am_sI h a i.toNatClampNeg v) else none := am_u_wI am_my_81 (by decide +kernel) ht
theorem e81_36 {ls : List (Option Value)} {st : List Value} {h : am_H} {a : Nat} : am_ev 81 36 (some (.ref a) :: ls) (st) h = am_ev 81 37 (some (.ref a) :: ls) (.ref a :: st) h := am_ev_step (q := (37, some (.ref a) :: ls, .ref a :: st, h)) _ (.aload_n 0) 1 am_my_81 (by decide +kernel) rfl
theorem e81_37 {ls : List (Option Value)} {st : List Value} {h : am_H} {o : Nat} (hk : am_kd h o = some (.inl 4)) : am_ev 81 37 ls (.ref o :: st) h = am_ev 81 40 ls (va_rf (h.2.2.1 o 3) :: st) h := am_u_gfR (idx := 18) (wn := 2054) (a := 0) am_my_81 (by decide +kernel) (by decide +kernel) (by decide +kernel) hk
theorem e81_40 {ls : List (Option Value)} {st : List Value} {h : am_H} {l0 : Option Value} {a : Int32} : am_ev 81 40 (l0 :: some (.int a) :: ls) (st) h = am_ev 81 41 (l0 :: some (.int a) :: ls) (.int a :: st) h := am_ev_step (q := (41, l0 :: some (.int a) :: ls, .int a :: st, h)) _ (.iload_n 1) 1 am_my_81 (by decide +kernel) rfl
theorem e81_41 {ls : List (Option Value)} {st : List Value} {h : am_H} {i : Int32} {a : Nat} (ht : am_tc h a = some 0) : am_ev 81 41 ls (.int i :: .ref a :: st) h = if am_ix i (am_len h a) = true then am_ev 81 42 ls (.int (h.1 a i.toNatClampNeg) :: st) h else none := am_u_rI am_my_81 (by decide +kernel) ht
theorem e81_42 {ls : List (Option Value)} {st : List Value} {h : am_H} {a : Nat} : am_ev 81 42 (some (.ref a) :: ls) (st) h = am_ev 81 43 (some (.ref a) :: ls) (.ref a :: st) h := am_ev_step (q := (43, some (.ref a) :: ls, .ref a :: st, h)) _ (.aload_n 0) 1 am_my_81 (by decide +kernel) rfl
theorem e81_43 {ls : List (Option Value)} {st : List Value} {h : am_H} {o : Nat} (hk : am_kd h o = some (.inl 4)) : am_ev 81 43 ls (.ref o :: st) h = am_ev 81 46 ls (va_rf (h.2.2.1 o 0) :: st) h := am_u_gfR (idx := 12) (wn := 2047) (a := 0) am_my_81 (by decide +kernel) (by decide +kernel) (by decide +kernel) hk
theorem e81_46 {ls : List (Option Value)} {st : List Value} {h : am_H} {o : Nat} (hk : am_kd h o = some (.inl 3)) : am_ev 81 46 ls (.ref o :: st) h = am_ev 81 49 ls (.int (h.1 o 2) :: st) h := am_u_gfI (idx := 87) (wn := 1058) am_my_81 (by decide +kernel) (by decide +kernel) (by decide +kernel) hk
theorem e81_49 {ls : List (Option Value)} {st : List Value} {h : am_H} {a b : Int32} : am_ev 81 49 ls (.int b :: .int a :: st) h = if ¬ a = b then am_ev 81 64 ls st h else am_ev 81 52 ls st h := am_u_if2 (c := .ne) (off := 15) am_my_81 (by decide +kernel) (by decide)
theorem e81_52 {ls : List (Option Value)} {st : List Value} {h : am_H} {a : Nat} : am_ev 81 52 (some (.ref a) :: ls) (st) h = am_ev 81 53 (some (.ref a) :: ls) (.ref a :: st) h := am_ev_step (q := (53, some (.ref a) :: ls, .ref a :: st, h)) _ (.aload_n 0) 1 am_my_81 (by decide +kernel) rfl
theorem e81_53 {ls : List (Option Value)} {st : List Value} {h : am_H} {a : Nat} : am_ev 81 53 (ls) (.ref a :: st) h = am_ev 81 54 (ls) (.ref a :: .ref a :: st) h := am_ev_step (q := (54, ls, .ref a :: .ref a :: st, h)) _ (.dup) 1 am_my_81 (by decide +kernel) rfl
theorem e81_53i {ls : List (Option Value)} {st : List Value} {h : am_H} {a : Int32} : am_ev 81 53 (ls) (.int a :: st) h = am_ev 81 54 (ls) (.int a :: .int a :: st) h := am_ev_step (q := (54, ls, .int a :: .int a :: st, h)) _ (.dup) 1 am_my_81 (by decide +kernel) rfl
theorem e81_54 {ls : List (Option Value)} {st : List Value} {h : am_H} {o : Nat} (hk : am_kd h o = some (.inl 4)) : am_ev 81 54 ls (.ref o :: st) h = am_ev 81 57 ls (.int (h.1 o 2) :: st) h := am_u_gfI (idx := 30) (wn := 2051) am_my_81 (by decide +kernel) (by decide +kernel) (by decide +kernel) hk
theorem e81_57 {ls : List (Option Value)} {st : List Value} {h : am_H} : am_ev 81 57 (ls) (st) h = am_ev 81 58 (ls) (.int (1) :: st) h := am_ev_step (q := (58, ls, .int (1) :: st, h)) _ (.iconst (1)) 1 am_my_81 (by decide +kernel) rfl
theorem e81_58 {ls : List (Option Value)} {st : List Value} {h : am_H} {l0 : Option Value} {a : Int32} : am_ev 81 58 (l0 :: some (.int a) :: ls) (st) h = am_ev 81 59 (l0 :: some (.int a) :: ls) (.int a :: st) h := am_ev_step (q := (59, l0 :: some (.int a) :: ls, .int a :: st, h)) _ (.iload_n 1) 1 am_my_81 (by decide +kernel) rfl
theorem e81_59 {ls : List (Option Value)} {st : List Value} {h : am_H} {a b : Int32} : am_ev 81 59 (ls) (.int b :: .int a :: st) h = am_ev 81 60 (ls) (.int (a <<< (b &&& 31)) :: st) h := am_ev_step (q := (60, ls, .int (a <<< (b &&& 31)) :: st, h)) _ (.ishl) 1 am_my_81 (by decide +kernel) rfl
theorem e81_60 {ls : List (Option Value)} {st : List Value} {h : am_H} {a b : Int32} : am_ev 81 60 (ls) (.int b :: .int a :: st) h = am_ev 81 61 (ls) (.int (a ||| b) :: st) h := am_ev_step (q := (61, ls, .int (a ||| b) :: st, h)) _ (.ior) 1 am_my_81 (by decide +kernel) rfl
theorem e81_61 {ls : List (Option Value)} {st : List Value} {h : am_H} {o : Nat} {v : Int32} (hk : am_kd h o = some (.inl 4)) : am_ev 81 61 ls (.int v :: .ref o :: st) h = am_ev 81 64 ls st (am_sI h o 2 v) := am_u_pfI (idx := 30) (wn := 2051) am_my_81 (by decide +kernel) (by decide +kernel) (by decide +kernel) (by decide +kernel) hk
theorem e81_64 {ls : List (Option Value)} {h : am_H} : am_ev 81 64 ls [] h = some (none, h) := am_u_rtV am_my_81 (by decide +kernel) rfl
theorem e109_0 {ls : List (Option Value)} {st : List Value} {h : am_H} : am_ev 109 0 (ls) (st) h = am_ev 109 1 (ls) (.int (0) :: st) h := am_ev_step (q := (1, ls, .int (0) :: st, h)) _ (.iconst (0)) 1 am_my_109 (by decide +kernel) rfl
theorem e109_1 {ls : List (Option Value)} {st : List Value} {h : am_H} {l0 : Option Value} {z : Option Value} {a : Int32} : am_ev 109 1 (l0 :: z :: ls) (.int a :: st) h = am_ev 109 2 (l0 :: some (.int a) :: ls) (st) h := am_ev_step (q := (2, l0 :: some (.int a) :: ls, st, h)) _ (.istore_n 1) 1 am_my_109 (by decide +kernel) rfl
theorem e109_2 {ls : List (Option Value)} {st : List Value} {h : am_H} : am_ev 109 2 (ls) (st) h = am_ev 109 3 (ls) (.int (0) :: st) h := am_ev_step (q := (3, ls, .int (0) :: st, h)) _ (.iconst (0)) 1 am_my_109 (by decide +kernel) rfl
theorem e109_3 {ls : List (Option Value)} {st : List Value} {h : am_H} {l0 l1 : Option Value} {z : Option Value} {a : Int32} : am_ev 109 3 (l0 :: l1 :: z :: ls) (.int a :: st) h = am_ev 109 4 (l0 :: l1 :: some (.int a) :: ls) (st) h := am_ev_step (q := (4, l0 :: l1 :: some (.int a) :: ls, st, h)) _ (.istore_n 2) 1 am_my_109 (by decide +kernel) rfl
theorem e109_4 {ls : List (Option Value)} {st : List Value} {h : am_H} {l0 l1 : Option Value} {a : Int32} : am_ev 109 4 (l0 :: l1 :: some (.int a) :: ls) (st) h = am_ev 109 5 (l0 :: l1 :: some (.int a) :: ls) (.int a :: st) h := am_ev_step (q := (5, l0 :: l1 :: some (.int a) :: ls, .int a :: st, h)) _ (.iload_n 2) 1 am_my_109 (by decide +kernel) rfl
theorem e109_5 {ls : List (Option Value)} {st : List Value} {h : am_H} {a : Nat} : am_ev 109 5 (some (.ref a) :: ls) (st) h = am_ev 109 6 (some (.ref a) :: ls) (.ref a :: st) h := am_ev_step (q := (6, some (.ref a) :: ls, .ref a :: st, h)) _ (.aload_n 0) 1 am_my_109 (by decide +kernel) rfl
theorem e109_6 {ls : List (Option Value)} {st : List Value} {h : am_H} {o : Nat} (hk : am_kd h o = some (.inl 4)) : am_ev 109 6 ls (.ref o :: st) h = am_ev 109 9 ls (va_rf (h.2.2.1 o 0) :: st) h := am_u_gfR (idx := 12) (wn := 2047) (a := 0) am_my_109 (by decide +kernel) (by decide +kernel) (by decide +kernel) hk
theorem e109_9 {ls : List (Option Value)} {st : List Value} {h : am_H} {o : Nat} (hk : am_kd h o = some (.inl 3)) : am_ev 109 9 ls (.ref o :: st) h = am_ev 109 12 ls (.int (h.1 o 5) :: st) h := am_u_gfI (idx := 93) (wn := 1066) am_my_109 (by decide +kernel) (by decide +kernel) (by decide +kernel) hk
theorem e109_12 {ls : List (Option Value)} {st : List Value} {h : am_H} {a b : Int32} : am_ev 109 12 ls (.int b :: .int a :: st) h = if b ≤ a then am_ev 109 32 ls st h else am_ev 109 15 ls st h := am_u_if2 (c := .ge) (off := 20) am_my_109 (by decide +kernel) (by decide)
theorem e109_15 {ls : List (Option Value)} {st : List Value} {h : am_H} {a : Nat} : am_ev 109 15 (some (.ref a) :: ls) (st) h = am_ev 109 16 (some (.ref a) :: ls) (.ref a :: st) h := am_ev_step (q := (16, some (.ref a) :: ls, .ref a :: st, h)) _ (.aload_n 0) 1 am_my_109 (by decide +kernel) rfl
theorem e109_16 {ls : List (Option Value)} {st : List Value} {h : am_H} {l0 l1 : Option Value} {a : Int32} : am_ev 109 16 (l0 :: l1 :: some (.int a) :: ls) (st) h = am_ev 109 17 (l0 :: l1 :: some (.int a) :: ls) (.int a :: st) h := am_ev_step (q := (17, l0 :: l1 :: some (.int a) :: ls, .int a :: st, h)) _ (.iload_n 2) 1 am_my_109 (by decide +kernel) rfl
theorem e109_17 {ls : List (Option Value)} {st : List Value} {h : am_H} {p0 : Int32} {o : Nat} (hw : am_w8 st ≤ 8) (hk : am_kd h o = some (.inl 4)) : am_ev 109 17 ls (.int p0 :: .ref o :: st) h = am_bd (am_den 74 [.ref o, .int p0] h) (fun v h1 => am_ev 109 20 ls (v.toList ++ st) h1) := am_u_cV (idx := 100) (wn := 4137) (as := [.int p0]) am_my_109 (by decide +kernel) (Or.inl (by decide +kernel)) am_my_74 (by decide +kernel) rfl ⟨Nat.le_of_ble_eq_true rfl, rfl⟩ (by decide +kernel) hw hk
theorem e109_20 {ls : List (Option Value)} {st : List Value} {h : am_H} {a : Int32} : am_ev 109 20 ls (.int a :: st) h = if a = 0 then am_ev 109 26 ls st h else am_ev 109 23 ls st h := am_u_if1 (c := .eq) (off := 6) am_my_109 (by decide +kernel) (by decide)
theorem e109_23 {ls : List (Option Value)} {st : List Value} {h : am_H} {l0 : Option Value} {a : Int32} : am_ev 109 23 (l0 :: some (.int a) :: ls) (st) h = am_ev 109 26 (l0 :: some (.int (a + (1))) :: ls) (st) h := am_ev_step (q := (26, l0 :: some (.int (a + (1))) :: ls, st, h)) _ (.iinc 1 (1)) 3 am_my_109 (by decide +kernel) rfl
theorem e109_26 {ls : List (Option Value)} {st : List Value} {h : am_H} {l0 l1 : Option Value} {a : Int32} : am_ev 109 26 (l0 :: l1 :: some (.int a) :: ls) (st) h = am_ev 109 29 (l0 :: l1 :: some (.int (a + (1))) :: ls) (st) h := am_ev_step (q := (29, l0 :: l1 :: some (.int (a + (1))) :: ls, st, h)) _ (.iinc 2 (1)) 3 am_my_109 (by decide +kernel) rfl
theorem e109_29 {ls : List (Option Value)} {st : List Value} {h : am_H} : am_ev 109 29 (ls) (st) h = am_ev 109 4 (ls) (st) h := am_ev_step (q := (4, ls, st, h)) _ (.goto (-25)) 3 am_my_109 (by decide +kernel) rfl
theorem e109_32 {ls : List (Option Value)} {st : List Value} {h : am_H} {l0 : Option Value} {a : Int32} : am_ev 109 32 (l0 :: some (.int a) :: ls) (st) h = am_ev 109 33 (l0 :: some (.int a) :: ls) (.int a :: st) h := am_ev_step (q := (33, l0 :: some (.int a) :: ls, .int a :: st, h)) _ (.iload_n 1) 1 am_my_109 (by decide +kernel) rfl
theorem e109_33 {ls : List (Option Value)} {h : am_H} {v : Int32} : am_ev 109 33 ls [.int v] h = some (some (.int v), h) := am_u_rtI am_my_109 (by decide +kernel) rfl
theorem e95_0 {ls : List (Option Value)} {st : List Value} {h : am_H} : am_ev 95 0 (ls) (st) h = am_ev 95 1 (ls) (.int (0) :: st) h := am_ev_step (q := (1, ls, .int (0) :: st, h)) _ (.iconst (0)) 1 am_my_95 (by decide +kernel) rfl
theorem e95_1 {ls : List (Option Value)} {st : List Value} {h : am_H} {l0 : Option Value} {z : Option Value} {a : Int32} : am_ev 95 1 (l0 :: z :: ls) (.int a :: st) h = am_ev 95 2 (l0 :: some (.int a) :: ls) (st) h := am_ev_step (q := (2, l0 :: some (.int a) :: ls, st, h)) _ (.istore_n 1) 1 am_my_95 (by decide +kernel) rfl
theorem e95_2 {ls : List (Option Value)} {st : List Value} {h : am_H} : am_ev 95 2 (ls) (st) h = am_ev 95 3 (ls) (.int (0) :: st) h := am_ev_step (q := (3, ls, .int (0) :: st, h)) _ (.iconst (0)) 1 am_my_95 (by decide +kernel) rfl
theorem e95_3 {ls : List (Option Value)} {st : List Value} {h : am_H} {l0 l1 : Option Value} {z : Option Value} {a : Int32} : am_ev 95 3 (l0 :: l1 :: z :: ls) (.int a :: st) h = am_ev 95 4 (l0 :: l1 :: some (.int a) :: ls) (st) h := am_ev_step (q := (4, l0 :: l1 :: some (.int a) :: ls, st, h)) _ (.istore_n 2) 1 am_my_95 (by decide +kernel) rfl
theorem e95_4 {ls : List (Option Value)} {st : List Value} {h : am_H} {l0 l1 : Option Value} {a : Int32} : am_ev 95 4 (l0 :: l1 :: some (.int a) :: ls) (st) h = am_ev 95 5 (l0 :: l1 :: some (.int a) :: ls) (.int a :: st) h := am_ev_step (q := (5, l0 :: l1 :: some (.int a) :: ls, .int a :: st, h)) _ (.iload_n 2) 1 am_my_95 (by decide +kernel) rfl
theorem e95_5 {ls : List (Option Value)} {st : List Value} {h : am_H} {a : Nat} : am_ev 95 5 (some (.ref a) :: ls) (st) h = am_ev 95 6 (some (.ref a) :: ls) (.ref a :: st) h := am_ev_step (q := (6, some (.ref a) :: ls, .ref a :: st, h)) _ (.aload_n 0) 1 am_my_95 (by decide +kernel) rfl
theorem e95_6 {ls : List (Option Value)} {st : List Value} {h : am_H} {o : Nat} (hk : am_kd h o = some (.inl 4)) : am_ev 95 6 ls (.ref o :: st) h = am_ev 95 9 ls (va_rf (h.2.2.1 o 0) :: st) h := am_u_gfR (idx := 12) (wn := 2047) (a := 0) am_my_95 (by decide +kernel) (by decide +kernel) (by decide +kernel) hk
theorem e95_9 {ls : List (Option Value)} {st : List Value} {h : am_H} {o : Nat} (hk : am_kd h o = some (.inl 3)) : am_ev 95 9 ls (.ref o :: st) h = am_ev 95 12 ls (.int (h.1 o 5) :: st) h := am_u_gfI (idx := 93) (wn := 1066) am_my_95 (by decide +kernel) (by decide +kernel) (by decide +kernel) hk
theorem e95_12 {ls : List (Option Value)} {st : List Value} {h : am_H} {a b : Int32} : am_ev 95 12 ls (.int b :: .int a :: st) h = if b ≤ a then am_ev 95 36 ls st h else am_ev 95 15 ls st h := am_u_if2 (c := .ge) (off := 24) am_my_95 (by decide +kernel) (by decide)
theorem e95_15 {ls : List (Option Value)} {st : List Value} {h : am_H} {a : Nat} : am_ev 95 15 (some (.ref a) :: ls) (st) h = am_ev 95 16 (some (.ref a) :: ls) (.ref a :: st) h := am_ev_step (q := (16, some (.ref a) :: ls, .ref a :: st, h)) _ (.aload_n 0) 1 am_my_95 (by decide +kernel) rfl
theorem e95_16 {ls : List (Option Value)} {st : List Value} {h : am_H} {l0 l1 : Option Value} {a : Int32} : am_ev 95 16 (l0 :: l1 :: some (.int a) :: ls) (st) h = am_ev 95 17 (l0 :: l1 :: some (.int a) :: ls) (.int a :: st) h := am_ev_step (q := (17, l0 :: l1 :: some (.int a) :: ls, .int a :: st, h)) _ (.iload_n 2) 1 am_my_95 (by decide +kernel) rfl
theorem e95_17 {ls : List (Option Value)} {st : List Value} {h : am_H} {p0 : Int32} {o : Nat} (hw : am_w8 st ≤ 8) (hk : am_kd h o = some (.inl 4)) : am_ev 95 17 ls (.int p0 :: .ref o :: st) h = am_bd (am_den 96 [.ref o, .int p0] h) (fun v h1 => am_ev 95 20 ls (v.toList ++ st) h1) := am_u_cV (idx := 103) (wn := 4074) (as := [.int p0]) am_my_95 (by decide +kernel) (Or.inl (by decide +kernel)) am_my_96 (by decide +kernel) rfl ⟨Nat.le_of_ble_eq_true rfl, rfl⟩ (by decide +kernel) hw hk
theorem e95_20 {ls : List (Option Value)} {st : List Value} {h : am_H} : am_ev 95 20 (ls) (st) h = am_ev 95 21 (ls) (.int (-1) :: st) h := am_ev_step (q := (21, ls, .int (-1) :: st, h)) _ (.iconst (-1)) 1 am_my_95 (by decide +kernel) rfl
theorem e95_21 {ls : List (Option Value)} {st : List Value} {h : am_H} {a b : Int32} : am_ev 95 21 ls (.int b :: .int a :: st) h = if a = b then am_ev 95 30 ls st h else am_ev 95 24 ls st h := am_u_if2 (c := .eq) (off := 9) am_my_95 (by decide +kernel) (by decide)
theorem e95_24 {ls : List (Option Value)} {st : List Value} {h : am_H} {l0 : Option Value} {a : Int32} : am_ev 95 24 (l0 :: some (.int a) :: ls) (st) h = am_ev 95 25 (l0 :: some (.int a) :: ls) (.int a :: st) h := am_ev_step (q := (25, l0 :: some (.int a) :: ls, .int a :: st, h)) _ (.iload_n 1) 1 am_my_95 (by decide +kernel) rfl
theorem e95_25 {ls : List (Option Value)} {st : List Value} {h : am_H} : am_ev 95 25 (ls) (st) h = am_ev 95 26 (ls) (.int (1) :: st) h := am_ev_step (q := (26, ls, .int (1) :: st, h)) _ (.iconst (1)) 1 am_my_95 (by decide +kernel) rfl
theorem e95_26 {ls : List (Option Value)} {st : List Value} {h : am_H} {l0 l1 : Option Value} {a : Int32} : am_ev 95 26 (l0 :: l1 :: some (.int a) :: ls) (st) h = am_ev 95 27 (l0 :: l1 :: some (.int a) :: ls) (.int a :: st) h := am_ev_step (q := (27, l0 :: l1 :: some (.int a) :: ls, .int a :: st, h)) _ (.iload_n 2) 1 am_my_95 (by decide +kernel) rfl
theorem e95_27 {ls : List (Option Value)} {st : List Value} {h : am_H} {a b : Int32} : am_ev 95 27 (ls) (.int b :: .int a :: st) h = am_ev 95 28 (ls) (.int (a <<< (b &&& 31)) :: st) h := am_ev_step (q := (28, ls, .int (a <<< (b &&& 31)) :: st, h)) _ (.ishl) 1 am_my_95 (by decide +kernel) rfl
theorem e95_28 {ls : List (Option Value)} {st : List Value} {h : am_H} {a b : Int32} : am_ev 95 28 (ls) (.int b :: .int a :: st) h = am_ev 95 29 (ls) (.int (a ||| b) :: st) h := am_ev_step (q := (29, ls, .int (a ||| b) :: st, h)) _ (.ior) 1 am_my_95 (by decide +kernel) rfl
theorem e95_29 {ls : List (Option Value)} {st : List Value} {h : am_H} {l0 : Option Value} {z : Option Value} {a : Int32} : am_ev 95 29 (l0 :: z :: ls) (.int a :: st) h = am_ev 95 30 (l0 :: some (.int a) :: ls) (st) h := am_ev_step (q := (30, l0 :: some (.int a) :: ls, st, h)) _ (.istore_n 1) 1 am_my_95 (by decide +kernel) rfl
theorem e95_30 {ls : List (Option Value)} {st : List Value} {h : am_H} {l0 l1 : Option Value} {a : Int32} : am_ev 95 30 (l0 :: l1 :: some (.int a) :: ls) (st) h = am_ev 95 33 (l0 :: l1 :: some (.int (a + (1))) :: ls) (st) h := am_ev_step (q := (33, l0 :: l1 :: some (.int (a + (1))) :: ls, st, h)) _ (.iinc 2 (1)) 3 am_my_95 (by decide +kernel) rfl
theorem e95_33 {ls : List (Option Value)} {st : List Value} {h : am_H} : am_ev 95 33 (ls) (st) h = am_ev 95 4 (ls) (st) h := am_ev_step (q := (4, ls, st, h)) _ (.goto (-29)) 3 am_my_95 (by decide +kernel) rfl
theorem e95_36 {ls : List (Option Value)} {st : List Value} {h : am_H} {l0 : Option Value} {a : Int32} : am_ev 95 36 (l0 :: some (.int a) :: ls) (st) h = am_ev 95 37 (l0 :: some (.int a) :: ls) (.int a :: st) h := am_ev_step (q := (37, l0 :: some (.int a) :: ls, .int a :: st, h)) _ (.iload_n 1) 1 am_my_95 (by decide +kernel) rfl
theorem e95_37 {ls : List (Option Value)} {h : am_H} {v : Int32} : am_ev 95 37 ls [.int v] h = some (some (.int v), h) := am_u_rtI am_my_95 (by decide +kernel) rfl
theorem e88_0 {ls : List (Option Value)} {st : List Value} {h : am_H} {a : Nat} : am_ev 88 0 (some (.ref a) :: ls) (st) h = am_ev 88 1 (some (.ref a) :: ls) (.ref a :: st) h := am_ev_step (q := (1, some (.ref a) :: ls, .ref a :: st, h)) _ (.aload_n 0) 1 am_my_88 (by decide +kernel) rfl
theorem e88_1 {ls : List (Option Value)} {st : List Value} {h : am_H} {o : Nat} (hk : am_kd h o = some (.inl 4)) : am_ev 88 1 ls (.ref o :: st) h = am_ev 88 4 ls (va_rf (h.2.2.1 o 0) :: st) h := am_u_gfR (idx := 12) (wn := 2047) (a := 0) am_my_88 (by decide +kernel) (by decide +kernel) (by decide +kernel) hk
theorem e88_4 {ls : List (Option Value)} {st : List Value} {h : am_H} {a : Nat} : am_ev 88 4 (some (.ref a) :: ls) (st) h = am_ev 88 5 (some (.ref a) :: ls) (.ref a :: st) h := am_ev_step (q := (5, some (.ref a) :: ls, .ref a :: st, h)) _ (.aload_n 0) 1 am_my_88 (by decide +kernel) rfl
theorem e88_5 {ls : List (Option Value)} {st : List Value} {h : am_H} {o : Nat} (hk : am_kd h o = some (.inl 4)) : am_ev 88 5 ls (.ref o :: st) h = am_ev 88 8 ls (.int (h.1 o 1) :: st) h := am_u_gfI (idx := 29) (wn := 2048) am_my_88 (by decide +kernel) (by decide +kernel) (by decide +kernel) hk
theorem e88_8 {ls : List (Option Value)} {st : List Value} {h : am_H} {l0 : Option Value} {a : Int32} : am_ev 88 8 (l0 :: some (.int a) :: ls) (st) h = am_ev 88 9 (l0 :: some (.int a) :: ls) (.int a :: st) h := am_ev_step (q := (9, l0 :: some (.int a) :: ls, .int a :: st, h)) _ (.iload_n 1) 1 am_my_88 (by decide +kernel) rfl
theorem e88_9 {ls : List (Option Value)} {st : List Value} {h : am_H} {p0 : Int32} {p1 : Int32} {o : Nat} (hw : am_w8 st ≤ 8) (hk : am_kd h o = some (.inl 3)) : am_ev 88 9 ls (.int p1 :: .int p0 :: .ref o :: st) h = am_bd (am_den 79 [.ref o, .int p0, .int p1] h) (fun v h1 => am_ev 88 12 ls (v.toList ++ st) h1) := am_u_cV (idx := 84) (wn := 4000) (as := [.int p0, .int p1]) am_my_88 (by decide +kernel) (Or.inl (by decide +kernel)) am_my_79 (by decide +kernel) rfl ⟨Nat.le_of_ble_eq_true rfl, rfl⟩ (by decide +kernel) hw hk
theorem e88_12 {ls : List (Option Value)} {st : List Value} {h : am_H} {l0 l1 : Option Value} {z : Option Value} {a : Int32} : am_ev 88 12 (l0 :: l1 :: z :: ls) (.int a :: st) h = am_ev 88 13 (l0 :: l1 :: some (.int a) :: ls) (st) h := am_ev_step (q := (13, l0 :: l1 :: some (.int a) :: ls, st, h)) _ (.istore_n 2) 1 am_my_88 (by decide +kernel) rfl
theorem e88_13 {ls : List (Option Value)} {st : List Value} {h : am_H} {l0 l1 : Option Value} {a : Int32} : am_ev 88 13 (l0 :: l1 :: some (.int a) :: ls) (st) h = am_ev 88 14 (l0 :: l1 :: some (.int a) :: ls) (.int a :: st) h := am_ev_step (q := (14, l0 :: l1 :: some (.int a) :: ls, .int a :: st, h)) _ (.iload_n 2) 1 am_my_88 (by decide +kernel) rfl
theorem e88_14 {ls : List (Option Value)} {st : List Value} {h : am_H} : am_ev 88 14 (ls) (st) h = am_ev 88 15 (ls) (.int (-1) :: st) h := am_ev_step (q := (15, ls, .int (-1) :: st, h)) _ (.iconst (-1)) 1 am_my_88 (by decide +kernel) rfl
theorem e88_15 {ls : List (Option Value)} {st : List Value} {h : am_H} {a b : Int32} : am_ev 88 15 ls (.int b :: .int a :: st) h = if a = b then am_ev 88 37 ls st h else am_ev 88 18 ls st h := am_u_if2 (c := .eq) (off := 22) am_my_88 (by decide +kernel) (by decide)
theorem e88_18 {ls : List (Option Value)} {st : List Value} {h : am_H} {l0 l1 : Option Value} {a : Int32} : am_ev 88 18 (l0 :: l1 :: some (.int a) :: ls) (st) h = am_ev 88 19 (l0 :: l1 :: some (.int a) :: ls) (.int a :: st) h := am_ev_step (q := (19, l0 :: l1 :: some (.int a) :: ls, .int a :: st, h)) _ (.iload_n 2) 1 am_my_88 (by decide +kernel) rfl
theorem e88_19 {ls : List (Option Value)} {st : List Value} {h : am_H} {a : Nat} : am_ev 88 19 (some (.ref a) :: ls) (st) h = am_ev 88 20 (some (.ref a) :: ls) (.ref a :: st) h := am_ev_step (q := (20, some (.ref a) :: ls, .ref a :: st, h)) _ (.aload_n 0) 1 am_my_88 (by decide +kernel) rfl
theorem e88_20 {ls : List (Option Value)} {st : List Value} {h : am_H} {o : Nat} (hk : am_kd h o = some (.inl 4)) : am_ev 88 20 ls (.ref o :: st) h = am_ev 88 23 ls (va_rf (h.2.2.1 o 0) :: st) h := am_u_gfR (idx := 12) (wn := 2047) (a := 0) am_my_88 (by decide +kernel) (by decide +kernel) (by decide +kernel) hk
theorem e88_23 {ls : List (Option Value)} {st : List Value} {h : am_H} {o : Nat} (hk : am_kd h o = some (.inl 3)) : am_ev 88 23 ls (.ref o :: st) h = am_ev 88 26 ls (.int (h.1 o 2) :: st) h := am_u_gfI (idx := 87) (wn := 1058) am_my_88 (by decide +kernel) (by decide +kernel) (by decide +kernel) hk
theorem e88_26 {ls : List (Option Value)} {st : List Value} {h : am_H} {a b : Int32} : am_ev 88 26 ls (.int b :: .int a :: st) h = if a = b then am_ev 88 37 ls st h else am_ev 88 29 ls st h := am_u_if2 (c := .eq) (off := 11) am_my_88 (by decide +kernel) (by decide)
theorem e88_29 {ls : List (Option Value)} {st : List Value} {h : am_H} {a : Nat} : am_ev 88 29 (some (.ref a) :: ls) (st) h = am_ev 88 30 (some (.ref a) :: ls) (.ref a :: st) h := am_ev_step (q := (30, some (.ref a) :: ls, .ref a :: st, h)) _ (.aload_n 0) 1 am_my_88 (by decide +kernel) rfl
theorem e88_30 {ls : List (Option Value)} {st : List Value} {h : am_H} {l0 l1 : Option Value} {a : Int32} : am_ev 88 30 (l0 :: l1 :: some (.int a) :: ls) (st) h = am_ev 88 31 (l0 :: l1 :: some (.int a) :: ls) (.int a :: st) h := am_ev_step (q := (31, l0 :: l1 :: some (.int a) :: ls, .int a :: st, h)) _ (.iload_n 2) 1 am_my_88 (by decide +kernel) rfl
theorem e88_31 {ls : List (Option Value)} {st : List Value} {h : am_H} {p0 : Int32} {o : Nat} (hw : am_w8 st ≤ 8) (hk : am_kd h o = some (.inl 4)) : am_ev 88 31 ls (.int p0 :: .ref o :: st) h = am_bd (am_den 80 [.ref o, .int p0] h) (fun v h1 => am_ev 88 34 ls (v.toList ++ st) h1) := am_u_cV (idx := 90) (wn := 4004) (as := [.int p0]) am_my_88 (by decide +kernel) (Or.inl (by decide +kernel)) am_my_80 (by decide +kernel) rfl ⟨Nat.le_of_ble_eq_true rfl, rfl⟩ (by decide +kernel) hw hk
theorem e88_34 {ls : List (Option Value)} {st : List Value} {h : am_H} {a : Int32} : am_ev 88 34 ls (.int a :: st) h = if a = 0 then am_ev 88 39 ls st h else am_ev 88 37 ls st h := am_u_if1 (c := .eq) (off := 5) am_my_88 (by decide +kernel) (by decide)
theorem e88_37 {ls : List (Option Value)} {st : List Value} {h : am_H} : am_ev 88 37 (ls) (st) h = am_ev 88 38 (ls) (.int (0) :: st) h := am_ev_step (q := (38, ls, .int (0) :: st, h)) _ (.iconst (0)) 1 am_my_88 (by decide +kernel) rfl
theorem e88_38 {ls : List (Option Value)} {h : am_H} {v : Int32} (hv : v = 0 ∨ v = 1) : am_ev 88 38 ls [.int v] h = some (some (.int v), h) := am_u_rtZ am_my_88 (by decide +kernel) rfl hv
theorem e88_39 {ls : List (Option Value)} {st : List Value} {h : am_H} {a : Nat} : am_ev 88 39 (some (.ref a) :: ls) (st) h = am_ev 88 40 (some (.ref a) :: ls) (.ref a :: st) h := am_ev_step (q := (40, some (.ref a) :: ls, .ref a :: st, h)) _ (.aload_n 0) 1 am_my_88 (by decide +kernel) rfl
theorem e88_40 {ls : List (Option Value)} {st : List Value} {h : am_H} {l0 l1 : Option Value} {a : Int32} : am_ev 88 40 (l0 :: l1 :: some (.int a) :: ls) (st) h = am_ev 88 41 (l0 :: l1 :: some (.int a) :: ls) (.int a :: st) h := am_ev_step (q := (41, l0 :: l1 :: some (.int a) :: ls, .int a :: st, h)) _ (.iload_n 2) 1 am_my_88 (by decide +kernel) rfl
theorem e88_41 {ls : List (Option Value)} {st : List Value} {h : am_H} {o : Nat} {v : Int32} (hk : am_kd h o = some (.inl 4)) : am_ev 88 41 ls (.int v :: .ref o :: st) h = am_ev 88 44 ls st (am_sI h o 1 v) := am_u_pfI (idx := 29) (wn := 2048) am_my_88 (by decide +kernel) (by decide +kernel) (by decide +kernel) (by decide +kernel) hk
theorem e88_44 {ls : List (Option Value)} {st : List Value} {h : am_H} {a : Nat} : am_ev 88 44 (some (.ref a) :: ls) (st) h = am_ev 88 45 (some (.ref a) :: ls) (.ref a :: st) h := am_ev_step (q := (45, some (.ref a) :: ls, .ref a :: st, h)) _ (.aload_n 0) 1 am_my_88 (by decide +kernel) rfl
theorem e88_45 {ls : List (Option Value)} {st : List Value} {h : am_H} : am_ev 88 45 (ls) (st) h = am_ev 88 46 (ls) (.int (0) :: st) h := am_ev_step (q := (46, ls, .int (0) :: st, h)) _ (.iconst (0)) 1 am_my_88 (by decide +kernel) rfl
theorem e88_46 {ls : List (Option Value)} {st : List Value} {h : am_H} {o : Nat} {v : Int32} (hk : am_kd h o = some (.inl 4)) (hv : v = 0 ∨ v = 1) : am_ev 88 46 ls (.int v :: .ref o :: st) h = am_ev 88 49 ls st (am_sI h o 4 v) := am_u_pfZ (idx := 33) (wn := 2057) am_my_88 (by decide +kernel) (by decide +kernel) (by decide +kernel) (by decide +kernel) hk hv
theorem e88_49 {ls : List (Option Value)} {st : List Value} {h : am_H} : am_ev 88 49 (ls) (st) h = am_ev 88 50 (ls) (.int (1) :: st) h := am_ev_step (q := (50, ls, .int (1) :: st, h)) _ (.iconst (1)) 1 am_my_88 (by decide +kernel) rfl
theorem e88_50 {ls : List (Option Value)} {h : am_H} {v : Int32} (hv : v = 0 ∨ v = 1) : am_ev 88 50 ls [.int v] h = some (some (.int v), h) := am_u_rtZ am_my_88 (by decide +kernel) rfl hv
/-- dog, penned (bits), lies, back, minute, cells, goings -/
abbrev q_G : Type := Nat × Nat × Bool × Bool × Nat × (Nat → Nat) × (Nat → Nat)
def G_dog (g : q_G) : Nat := g.1
def G_pen (g : q_G) : Nat := g.2.1
def G_lies (g : q_G) : Bool := g.2.2.1
def G_back (g : q_G) : Bool := g.2.2.2.1
def G_min (g : q_G) : Nat := g.2.2.2.2.1
def G_at (g : q_G) : Nat → Nat := g.2.2.2.2.2.1
def G_went (g : q_G) : Nat → Nat := g.2.2.2.2.2.2
def q_bi (b : Bool) : Int32 := if b = true then 1 else 0
def q_any (P : Nat → Bool) : Nat → Nat → Bool
  | 0, _ => false
  | r + 1, i => P i || q_any P r (i + 1)
theorem q_any_iff (P : Nat → Bool) : ∀ r i, q_any P r i = true ↔ ∃ k, i ≤ k ∧ k < i + r ∧ P k = true := by
  intro r
  induction r with
  | zero =>
    intro i
    constructor
    · intro q
      cases q
    · intro ⟨k, h1, h2, _⟩
      omega
  | succ r ih =>
    intro i
    show (P i || q_any P r (i + 1)) = true ↔ _
    rw [Bool.or_eq_true, ih]
    constructor
    · intro q
      rcases q with q | ⟨k, h1, h2, h3⟩
      · exact ⟨i, Nat.le_refl _, by omega, q⟩
      · exact ⟨k, by omega, by omega, h3⟩
    · intro ⟨k, h1, h2, h3⟩
      by_cases c : k = i
      · exact Or.inl (c ▸ h3)
      · exact Or.inr ⟨k, by omega, by omega, h3⟩
def q_first (P : Nat → Bool) : Nat → Nat → Option Nat
  | 0, _ => none
  | r + 1, i => if P i = true then some i else q_first P r (i + 1)
theorem q_first_lt (P : Nat → Bool) : ∀ r i d, q_first P r i = some d → i ≤ d ∧ d < i + r ∧ P d = true := by
  intro r
  induction r with
  | zero => intro i d q; cases q
  | succ r ih =>
    intro i d q
    rw [q_first] at q
    split at q
    · rename_i c
      obtain rfl := Option.some.inj q
      exact ⟨Nat.le_refl _, by omega, c⟩
    · obtain ⟨h1, h2, h3⟩ := ih (i + 1) d q
      exact ⟨by omega, by omega, h3⟩
theorem q_first_cg {P Q : Nat → Bool} : ∀ r i, (∀ k, i ≤ k → k < i + r → P k = Q k) → q_first P r i = q_first Q r i := by
  intro r
  induction r with
  | zero => intro i _; rfl
  | succ r ih =>
    intro i h
    rw [q_first, q_first, h i (Nat.le_refl _) (by omega), ih (i + 1) (fun k h1 h2 => h k (by omega) (by omega))]
/-- some beast is in a cell -/
def G_bs (f : q_Fl) (g : q_G) (c : Nat) : Bool := q_any (fun b => decide (G_at g b = c)) (F_n f) 0
def G_fr (f : q_Fl) (g : q_G) (t : Nat) : Bool := decide (t ≠ G_dog g) && (decide (t = F_pen f) || !G_bs f g t)
def G_ok1 (f : q_Fl) (g : q_G) (b d : Nat) : Bool := match F_nx f (G_at g b) d with
  | none => false
  | some t => G_fr f g t && (if F_kind f b = 3 then decide (q_dist t (G_dog g) < q_dist (G_at g b) (G_dog g)) else decide (q_dist (G_at g b) (G_dog g) < q_dist t (G_dog g)))
def G_way (f : q_Fl) (g : q_G) (b : Nat) : Option Nat := q_first (G_ok1 f g b) 4 0
def G_pnd (g : q_G) (b : Nat) : Bool := (G_pen g).testBit b
def G_drv (f : q_Fl) (g : q_G) (b : Nat) : Bool := !G_lies g && !G_back g && !G_pnd g b && decide (q_dist (G_at g b) (G_dog g) ≤ if F_kind f b = 1 then 1 else F_eye f)
def q_up (u : Nat → Nat) (b v : Nat) : Nat → Nat := fun k => if k = b then v else u k
def G_mv (f : q_Fl) (g : q_G) (b t : Nat) : q_G := (G_dog g, if t = F_pen f then G_pen g ||| 2 ^ b else G_pen g, G_lies g, G_back g, G_min g, q_up (G_at g) b t, q_up (G_went g) b (G_went g b + 1))
def G_st (f : q_Fl) (g : q_G) (b d : Nat) : q_G := match F_nx f (G_at g b) d with
  | none => g
  | some t => G_mv f g b t
/-- one step more, by its own way, if there is one -/
def G_s1 (f : q_Fl) (g : q_G) (b : Nat) : q_G := match G_way f g b with
  | none => g
  | some d => G_st f g b d
def G_go (f : q_Fl) (g : q_G) (b : Nat) : q_G := if G_drv f g b = true then (if F_kind f b = 2 ∧ G_pnd (G_s1 f g b) b = false then G_s1 f (G_s1 f g b) b else G_s1 f g b) else g
def G_went1 (f : q_Fl) (g : q_G) (b : Nat) : Bool := G_drv f g b && (G_way f g b).isSome
def G_all (f : q_Fl) : Nat → Nat → q_G → q_G
  | 0, _, g => g
  | r + 1, b, g => G_all f r (b + 1) (G_go f g b)
def G_cnt (f : q_Fl) : Nat → Nat → q_G → Nat → Nat
  | 0, _, _, n => n
  | r + 1, b, g, n => G_cnt f r (b + 1) (G_go f g b) (if G_went1 f g b = true then n + 1 else n)
/-- all are inside -/
def G_in (f : q_Fl) (g : q_G) : Prop := F_in f (G_dog g) ∧ G_pen g < 64 ∧ ∀ b, b < F_n f → F_in f (G_at g b)
theorem q_or64 : ∀ m, m < 64 → ∀ b, b < 6 → m ||| 2 ^ b < 64 := by decide +kernel
theorem G_mv_in {f : q_Fl} {g : q_G} {b t : Nat} (i : G_in f g) (hb : b < 6) (ht : F_in f t) : G_in f (G_mv f g b t) := by
  refine ⟨i.1, ?_, fun k hk => ?_⟩
  · show (if t = F_pen f then G_pen g ||| 2 ^ b else G_pen g) < 64
    split
    · exact q_or64 _ i.2.1 b hb
    · exact i.2.1
  · show F_in f (q_up (G_at g) b t k)
    unfold q_up
    split
    · exact ht
    · exact i.2.2 k hk
theorem G_st_in {f : q_Fl} {g : q_G} {b d : Nat} (wf : F_wf f) (i : G_in f g) (hb : b < F_n f) : G_in f (G_st f g b d) := by
  unfold G_st
  split
  · exact i
  · rename_i t ht
    exact G_mv_in i (by have := wf.2.2.2.1; omega) (F_nx_in wf (i.2.2 b hb) ht)
theorem G_s1_in {f : q_Fl} {g : q_G} {b : Nat} (wf : F_wf f) (i : G_in f g) (hb : b < F_n f) : G_in f (G_s1 f g b) := by
  unfold G_s1
  split
  · exact i
  · exact G_st_in wf i hb
theorem G_go_in {f : q_Fl} {g : q_G} {b : Nat} (wf : F_wf f) (i : G_in f g) (hb : b < F_n f) : G_in f (G_go f g b) := by
  unfold G_go
  split
  · split
    · exact G_s1_in wf (G_s1_in wf i hb) hb
    · exact G_s1_in wf i hb
  · exact i
theorem G_all_in {f : q_Fl} (wf : F_wf f) : ∀ r b g, b + r = F_n f → G_in f g → G_in f (G_all f r b g) := by
  intro r
  induction r with
  | zero => intro b g _ i; exact i
  | succ r ih => intro b g hb i; exact ih (b + 1) _ (by omega) (G_go_in wf i (by omega))
/-! in the class's cells -/
def q_gk (h : am_H) (q : Nat) : Prop := am_kd h q = some (.inl 4) ∧ h.2.2.1 q 3 = some (q + 4) ∧ h.2.2.1 q 7 = some (q + 5) ∧ am_kd h (q + 4) = some (.inr (0, 6)) ∧ am_kd h (q + 5) = some (.inr (0, 6))
def q_cg (h : am_H) (q o : Nat) (f : q_Fl) (g : q_G) : Prop := (q_gk h q ∧ h.2.2.1 q 0 = some o ∧ (o + 2 < q ∨ q + 5 < o)) ∧ q_cf h o f ∧ (h.1 q 1 = nI (G_dog g) ∧ h.1 q 2 = nI (G_pen g) ∧ h.1 q 4 = q_bi (G_lies g) ∧ h.1 q 5 = q_bi (G_back g) ∧ h.1 q 6 = nI (G_min g)) ∧ (∀ b, b < F_n f → h.1 (q + 4) b = nI (G_at g b)) ∧ (∀ b, b < F_n f → h.1 (q + 5) b = nI (G_went g b))
/-- only a flock's own numbers have changed -/
def q_ff (q : Nat) (h h' : am_H) : Prop := h'.2 = h.2 ∧ ∀ a k, a ≠ q → a ≠ q + 4 → a ≠ q + 5 → h'.1 a k = h.1 a k
theorem q_ff.rf (q : Nat) (h : am_H) : q_ff q h h := ⟨rfl, fun _ _ _ _ _ => rfl⟩
theorem q_ff.tr {q : Nat} {h h' h'' : am_H} (a : q_ff q h h') (b : q_ff q h' h'') : q_ff q h h'' := ⟨b.1.trans a.1, fun x k p1 p2 p3 => (b.2 x k p1 p2 p3).trans (a.2 x k p1 p2 p3)⟩
theorem q_pbit : ∀ m, m < 64 → ∀ b, b < 6 → ((nI m >>> (nI b &&& 31)) &&& 1 = if m.testBit b = true then 1 else 0) := by decide +kernel
theorem q_por : ∀ m, m < 64 → ∀ b, b < 6 → (nI m ||| ((1 : Int32) <<< (nI b &&& 31)) = nI (m ||| 2 ^ b)) := by decide +kernel
theorem q_bi_0 (b : Bool) : q_bi b = 0 ↔ b = false := by cases b <;> decide
theorem den_isPenned (h : am_H) (q o : Nat) (f : q_Fl) (g : q_G) (cg : q_cg h q o f g) (i : G_in f g) (b : Nat) (hb : b < 6) : am_den 76 [.ref q, .int (nI b)] h = some (some (.int (q_bi (G_pnd g b))), h) := by
  obtain ⟨⟨k, r, dj⟩, cf, ⟨e1, e2, e4, e5, e6⟩, ea, ew⟩ := cg
  have pb := q_pbit (G_pen g) i.2.1 b hb
  show am_ev 76 0 [some (.ref q), some (.int (nI b))] [] h = _
  simp only [e76_0, e76_1, e76_4, e76_5, e76_6, e76_7, e76_8, e76_11, e76_12, e76_15, e76_16, am_bd_some, Option.toList_some, Option.toList_none, List.cons_append, List.nil_append, am_w8_0, am_w8_1, am_w8_2, am_w8_3, am_w8_4, eq_self, or_true, true_or, am_kd_sI, am_kd_sL, am_kd_sR, am_tc_sI, am_tc_sL, am_tc_sR, am_len_sI, am_len_sL, am_len_sR, am_rfs, if_true, if_false, am_rdL_sI, am_rR_sL, am_rt_cq, am_kd_cq, am_tc_cq, am_len_cq, am_rd_sL, am_rd_sR, am_rdL_sR, k.1, e2, pb, q_bi, G_pnd]
  by_cases m : (G_pen g).testBit b = true
  · simp [m]
  · simp [m]
theorem den_isDriven (h : am_H) (q o : Nat) (f : q_Fl) (g : q_G) (cg : q_cg h q o f g) (wf : F_wf f) (i : G_in f g) (b : Nat) (hb : b < F_n f) : am_den 75 [.ref q, .int (nI b)] h = some (some (.int (q_bi (G_drv f g b))), h) := by
  have n6 := wf.2.2.2.1
  have dp := den_isPenned h q o f g cg i b (by omega)
  obtain ⟨⟨k, r, dj⟩, cf, ⟨e1, e2, e4, e5, e6⟩, ea, ew⟩ := cg
  obtain ⟨fo, c0, c1, c2, c4, c5, c6, c7⟩ := cf
  have x : am_ix (nI b) 6 = true := am_ix_nI (by omega) (by decide)
  have z : (nI b).toNatClampNeg = b := nI_clamp (by omega)
  have a1 := ea b hb
  have k1 := c7 b hb
  have kk := wf.2.2.2.2.2 b hb
  have ey := wf.2.2.1
  have da := den_capart h (G_at g b) (G_dog g) (i.2.2 b hb).1 i.1.1
  have hk1 : nI (F_kind f b) = 1 ↔ F_kind f b = 1 := nI_eq (b := 1) (by omega) (by decide)
  have dl : q_dist (G_at g b) (G_dog g) < 100 := by
    have h1 := (i.2.2 b hb).1
    have h2 := i.1.1
    unfold q_dist q_df
    split <;> split <;> omega
  have c1l : (1 : Int32) < nI (q_dist (G_at g b) (G_dog g)) ↔ 1 < q_dist (G_at g b) (G_dog g) := nI_ltI (a := 1) (by decide) (by omega)
  have cel : nI (F_eye f) < nI (q_dist (G_at g b) (G_dog g)) ↔ F_eye f < q_dist (G_at g b) (G_dog g) := nI_ltI (by omega) (by omega)
  show am_ev 75 0 [some (.ref q), some (.int (nI b))] [] h = _
  simp only [e75_0, e75_1, e75_4, e75_7, e75_8, e75_11, e75_14, e75_15, e75_16, e75_19, e75_22, e75_23, e75_24, e75_25, e75_28, e75_29, e75_30, e75_31, e75_34, e75_37, e75_38, e75_41, e75_44, e75_45, e75_46, e75_47, e75_50, e75_51, e75_54, e75_55, e75_58, e75_61, e75_64, e75_65, e75_68, e75_69, am_bd_some, Option.toList_some, Option.toList_none, List.cons_append, List.nil_append, am_w8_0, am_w8_1, am_w8_2, am_w8_3, am_w8_4, eq_self, or_true, true_or, am_kd_sI, am_kd_sL, am_kd_sR, am_tc_sI, am_tc_sL, am_tc_sR, am_len_sI, am_len_sL, am_len_sR, am_rfs, if_true, if_false, am_rdL_sI, am_rR_sL, am_rt_cq, am_kd_cq, am_tc_cq, am_len_cq, am_rd_sL, am_rd_sR, am_rdL_sR, k.1, k.2.1, q_tc k.2.2.2.1, q_ln k.2.2.2.1, r, fo.1, fo.2.1, q_tc fo.2.2.2.1, q_ln fo.2.2.2.1, e1, e4, e5, dp, x, z, a1, k1, da, c4, hk1, c1l, cel, q_bi_0, G_drv]
  cases G_lies g
  · cases G_back g
    · cases G_pnd g b
      · by_cases m : F_kind f b = 1
        · by_cases m2 : 1 < q_dist (G_at g b) (G_dog g)
          · have m3 : ¬ q_dist (G_at g b) (G_dog g) ≤ 1 := by omega
            simp [m, m2, m3, q_bi]
          · have m3 : q_dist (G_at g b) (G_dog g) ≤ 1 := by omega
            simp [m, m2, m3, q_bi]
        · by_cases m2 : F_eye f < q_dist (G_at g b) (G_dog g)
          · have m3 : ¬ q_dist (G_at g b) (G_dog g) ≤ F_eye f := by omega
            simp [m, m2, m3, q_bi]
          · have m3 : q_dist (G_at g b) (G_dog g) ≤ F_eye f := by omega
            simp [m, m2, m3, q_bi]
      · simp [q_bi]
    · simp [q_bi]
  · simp [q_bi]
theorem q_isb_l (h : am_H) (q o : Nat) (f : q_Fl) (g : q_G) (cg : q_cg h q o f g) (wf : F_wf f) (i : G_in f g) (c : Nat) (hc : c < 64) : ∀ r b, b + r = F_n f → am_ev 80 2 [some (.ref q), some (.int (nI c)), some (.int (nI b))] [] h = some (some (.int (q_bi (q_any (fun b => decide (G_at g b = c)) r b))), h) := by
  have n6 := wf.2.2.2.1
  obtain ⟨⟨k, r0, dj⟩, cf, ⟨e1, e2, e4, e5, e6⟩, ea, ew⟩ := cg
  obtain ⟨fo, c0, c1, c2, c4, c5, c6, c7⟩ := cf
  intro r
  induction r with
  | zero =>
    intro b hb
    have h1 : nI (F_n f) ≤ nI b := nI_le (by omega) (by omega)
    rw [e80_2]
    simp only [e80_0, e80_1, e80_3, e80_4, e80_7, e80_10, e80_13, e80_14, e80_17, e80_18, e80_19, e80_20, e80_23, e80_24, e80_25, e80_28, e80_31, e80_32, am_bd_some, Option.toList_some, Option.toList_none, List.cons_append, List.nil_append, am_w8_0, am_w8_1, am_w8_2, am_w8_3, am_w8_4, eq_self, or_true, true_or, am_kd_sI, am_kd_sL, am_kd_sR, am_tc_sI, am_tc_sL, am_tc_sR, am_len_sI, am_len_sL, am_len_sR, am_rfs, if_true, if_false, am_rdL_sI, am_rR_sL, am_rt_cq, am_kd_cq, am_tc_cq, am_len_cq, am_rd_sL, am_rd_sR, am_rdL_sR, k.1, r0, fo.1, c5, h1, q_any, q_bi, Bool.false_eq_true]
  | succ r ih =>
    intro b hb
    have h1 : ¬ nI (F_n f) ≤ nI b := nI_ge (by omega) (by omega)
    have x : am_ix (nI b) 6 = true := am_ix_nI (by omega) (by decide)
    have z : (nI b).toNatClampNeg = b := nI_clamp (by omega)
    have a1 := ea b (by omega)
    have hl := (i.2.2 b (by omega)).1
    have eq : nI (G_at g b) = nI c ↔ G_at g b = c := nI_eq (by omega) (by omega)
    rw [e80_2]
    simp only [e80_0, e80_1, e80_3, e80_4, e80_7, e80_10, e80_13, e80_14, e80_17, e80_18, e80_19, e80_20, e80_23, e80_24, e80_25, e80_28, e80_31, e80_32, am_bd_some, Option.toList_some, Option.toList_none, List.cons_append, List.nil_append, am_w8_0, am_w8_1, am_w8_2, am_w8_3, am_w8_4, eq_self, or_true, true_or, am_kd_sI, am_kd_sL, am_kd_sR, am_tc_sI, am_tc_sL, am_tc_sR, am_len_sI, am_len_sL, am_len_sR, am_rfs, if_true, if_false, am_rdL_sI, am_rR_sL, am_rt_cq, am_kd_cq, am_tc_cq, am_len_cq, am_rd_sL, am_rd_sR, am_rdL_sR, k.1, k.2.1, q_tc k.2.2.2.1, q_ln k.2.2.2.1, r0, fo.1, c5, h1, x, z, a1, eq, nI_1, ih (b + 1) (by omega), q_any]
    by_cases m : G_at g b = c
    · simp [m, q_bi]
    · simp [m]
theorem den_isBeasts (h : am_H) (q o : Nat) (f : q_Fl) (g : q_G) (cg : q_cg h q o f g) (wf : F_wf f) (i : G_in f g) (c : Nat) (hc : c < 64) : am_den 80 [.ref q, .int (nI c)] h = some (some (.int (q_bi (G_bs f g c))), h) := by
  show am_ev 80 0 [some (.ref q), some (.int (nI c)), none] [] h = _
  have lp := q_isb_l h q o f g cg wf i c hc (F_n f) 0 (by omega)
  rw [nI_0] at lp
  simp only [e80_0, e80_1, e80_3, e80_4, e80_7, e80_10, e80_13, e80_14, e80_17, e80_18, e80_19, e80_20, e80_23, e80_24, e80_25, e80_28, e80_31, e80_32, am_bd_some, Option.toList_some, Option.toList_none, List.cons_append, List.nil_append, am_w8_0, am_w8_1, am_w8_2, am_w8_3, am_w8_4, eq_self, or_true, true_or, am_kd_sI, am_kd_sL, am_kd_sR, am_tc_sI, am_tc_sL, am_tc_sR, am_len_sI, am_len_sL, am_len_sR, am_rfs, if_true, if_false, am_rdL_sI, am_rR_sL, am_rt_cq, am_kd_cq, am_tc_cq, am_len_cq, am_rd_sL, am_rd_sR, am_rdL_sR]
  exact lp
