/-! part 43: the class's flock: all go, the dog goes, a beginning -/
theorem e108_0 {ls : List (Option Value)} {st : List Value} {h : am_H} {l0 : Option Value} {a : Int32} : am_ev 108 0 (l0 :: some (.int a) :: ls) (st) h = am_ev 108 1 (l0 :: some (.int a) :: ls) (.int a :: st) h := am_ev_step (q := (1, l0 :: some (.int a) :: ls, .int a :: st, h)) _ (.iload_n 1) 1 am_my_108 (by decide +kernel) rfl
theorem e108_1 {ls : List (Option Value)} {st : List Value} {h : am_H} : am_ev 108 1 (ls) (st) h = am_ev 108 2 (ls) (.int (4) :: st) h := am_ev_step (q := (2, ls, .int (4) :: st, h)) _ (.iconst (4)) 1 am_my_108 (by decide +kernel) rfl
theorem e108_2 {ls : List (Option Value)} {st : List Value} {h : am_H} {a b : Int32} : am_ev 108 2 ls (.int b :: .int a :: st) h = if b ≤ a then am_ev 108 15 ls st h else am_ev 108 5 ls st h := am_u_if2 (c := .ge) (off := 13) am_my_108 (by decide +kernel) (by decide)
theorem e108_5 {ls : List (Option Value)} {st : List Value} {h : am_H} {a : Nat} : am_ev 108 5 (some (.ref a) :: ls) (st) h = am_ev 108 6 (some (.ref a) :: ls) (.ref a :: st) h := am_ev_step (q := (6, some (.ref a) :: ls, .ref a :: st, h)) _ (.aload_n 0) 1 am_my_108 (by decide +kernel) rfl
theorem e108_6 {ls : List (Option Value)} {st : List Value} {h : am_H} {l0 : Option Value} {a : Int32} : am_ev 108 6 (l0 :: some (.int a) :: ls) (st) h = am_ev 108 7 (l0 :: some (.int a) :: ls) (.int a :: st) h := am_ev_step (q := (7, l0 :: some (.int a) :: ls, .int a :: st, h)) _ (.iload_n 1) 1 am_my_108 (by decide +kernel) rfl
theorem e108_7 {ls : List (Option Value)} {st : List Value} {h : am_H} {p0 : Int32} {o : Nat} (hw : am_w8 st ≤ 8) (hk : am_kd h o = some (.inl 4)) : am_ev 108 7 ls (.int p0 :: .ref o :: st) h = am_bd (am_den 88 [.ref o, .int p0] h) (fun v h1 => am_ev 108 10 ls (v.toList ++ st) h1) := am_u_cV (idx := 106) (wn := 4132) (as := [.int p0]) am_my_108 (by decide +kernel) (Or.inl (by decide +kernel)) am_my_88 (by decide +kernel) rfl ⟨Nat.le_of_ble_eq_true rfl, rfl⟩ (by decide +kernel) hw hk
theorem e108_10 {ls : List (Option Value)} {st : List Value} {h : am_H} {a : Int32} : am_ev 108 10 ls (.int a :: st) h = if ¬ a = 0 then am_ev 108 66 ls st h else am_ev 108 13 ls st h := am_u_if1 (c := .ne) (off := 56) am_my_108 (by decide +kernel) (by decide)
theorem e108_13 {ls : List (Option Value)} {st : List Value} {h : am_H} : am_ev 108 13 (ls) (st) h = am_ev 108 14 (ls) (.int (0) :: st) h := am_ev_step (q := (14, ls, .int (0) :: st, h)) _ (.iconst (0)) 1 am_my_108 (by decide +kernel) rfl
theorem e108_14 {ls : List (Option Value)} {h : am_H} {v : Int32} (hv : v = 0 ∨ v = 1) : am_ev 108 14 ls [.int v] h = some (some (.int v), h) := am_u_rtZ am_my_108 (by decide +kernel) rfl hv
theorem e108_15 {ls : List (Option Value)} {st : List Value} {h : am_H} {l0 : Option Value} {a : Int32} : am_ev 108 15 (l0 :: some (.int a) :: ls) (st) h = am_ev 108 16 (l0 :: some (.int a) :: ls) (.int a :: st) h := am_ev_step (q := (16, l0 :: some (.int a) :: ls, .int a :: st, h)) _ (.iload_n 1) 1 am_my_108 (by decide +kernel) rfl
theorem e108_16 {ls : List (Option Value)} {st : List Value} {h : am_H} : am_ev 108 16 (ls) (st) h = am_ev 108 18 (ls) (.int (6) :: st) h := am_ev_step (q := (18, ls, .int (6) :: st, h)) _ (.bipush (6)) 2 am_my_108 (by decide +kernel) rfl
theorem e108_18 {ls : List (Option Value)} {st : List Value} {h : am_H} {a b : Int32} : am_ev 108 18 ls (.int b :: .int a :: st) h = if ¬ a = b then am_ev 108 40 ls st h else am_ev 108 21 ls st h := am_u_if2 (c := .ne) (off := 22) am_my_108 (by decide +kernel) (by decide)
theorem e108_21 {ls : List (Option Value)} {st : List Value} {h : am_H} {a : Nat} : am_ev 108 21 (some (.ref a) :: ls) (st) h = am_ev 108 22 (some (.ref a) :: ls) (.ref a :: st) h := am_ev_step (q := (22, some (.ref a) :: ls, .ref a :: st, h)) _ (.aload_n 0) 1 am_my_108 (by decide +kernel) rfl
theorem e108_22 {ls : List (Option Value)} {st : List Value} {h : am_H} {a : Nat} : am_ev 108 22 (some (.ref a) :: ls) (st) h = am_ev 108 23 (some (.ref a) :: ls) (.ref a :: st) h := am_ev_step (q := (23, some (.ref a) :: ls, .ref a :: st, h)) _ (.aload_n 0) 1 am_my_108 (by decide +kernel) rfl
theorem e108_23 {ls : List (Option Value)} {st : List Value} {h : am_H} {o : Nat} (hk : am_kd h o = some (.inl 4)) : am_ev 108 23 ls (.ref o :: st) h = am_ev 108 26 ls (.int (h.1 o 5) :: st) h := am_u_gfI (idx := 37) (wn := 2058) am_my_108 (by decide +kernel) (by decide +kernel) (by decide +kernel) hk
theorem e108_26 {ls : List (Option Value)} {st : List Value} {h : am_H} {a : Int32} : am_ev 108 26 ls (.int a :: st) h = if ¬ a = 0 then am_ev 108 33 ls st h else am_ev 108 29 ls st h := am_u_if1 (c := .ne) (off := 7) am_my_108 (by decide +kernel) (by decide)
theorem e108_29 {ls : List (Option Value)} {st : List Value} {h : am_H} : am_ev 108 29 (ls) (st) h = am_ev 108 30 (ls) (.int (1) :: st) h := am_ev_step (q := (30, ls, .int (1) :: st, h)) _ (.iconst (1)) 1 am_my_108 (by decide +kernel) rfl
theorem e108_30 {ls : List (Option Value)} {st : List Value} {h : am_H} : am_ev 108 30 (ls) (st) h = am_ev 108 34 (ls) (st) h := am_ev_step (q := (34, ls, st, h)) _ (.goto (4)) 3 am_my_108 (by decide +kernel) rfl
theorem e108_33 {ls : List (Option Value)} {st : List Value} {h : am_H} : am_ev 108 33 (ls) (st) h = am_ev 108 34 (ls) (.int (0) :: st) h := am_ev_step (q := (34, ls, .int (0) :: st, h)) _ (.iconst (0)) 1 am_my_108 (by decide +kernel) rfl
theorem e108_34 {ls : List (Option Value)} {st : List Value} {h : am_H} {o : Nat} {v : Int32} (hk : am_kd h o = some (.inl 4)) (hv : v = 0 ∨ v = 1) : am_ev 108 34 ls (.int v :: .ref o :: st) h = am_ev 108 37 ls st (am_sI h o 5 v) := am_u_pfZ (idx := 37) (wn := 2058) am_my_108 (by decide +kernel) (by decide +kernel) (by decide +kernel) (by decide +kernel) hk hv
theorem e108_37 {ls : List (Option Value)} {st : List Value} {h : am_H} : am_ev 108 37 (ls) (st) h = am_ev 108 66 (ls) (st) h := am_ev_step (q := (66, ls, st, h)) _ (.goto (29)) 3 am_my_108 (by decide +kernel) rfl
theorem e108_40 {ls : List (Option Value)} {st : List Value} {h : am_H} {l0 : Option Value} {a : Int32} : am_ev 108 40 (l0 :: some (.int a) :: ls) (st) h = am_ev 108 41 (l0 :: some (.int a) :: ls) (.int a :: st) h := am_ev_step (q := (41, l0 :: some (.int a) :: ls, .int a :: st, h)) _ (.iload_n 1) 1 am_my_108 (by decide +kernel) rfl
theorem e108_41 {ls : List (Option Value)} {st : List Value} {h : am_H} : am_ev 108 41 (ls) (st) h = am_ev 108 42 (ls) (.int (4) :: st) h := am_ev_step (q := (42, ls, .int (4) :: st, h)) _ (.iconst (4)) 1 am_my_108 (by decide +kernel) rfl
theorem e108_42 {ls : List (Option Value)} {st : List Value} {h : am_H} {a b : Int32} : am_ev 108 42 ls (.int b :: .int a :: st) h = if ¬ a = b then am_ev 108 49 ls st h else am_ev 108 45 ls st h := am_u_if2 (c := .ne) (off := 7) am_my_108 (by decide +kernel) (by decide)
theorem e108_45 {ls : List (Option Value)} {st : List Value} {h : am_H} : am_ev 108 45 (ls) (st) h = am_ev 108 46 (ls) (.int (1) :: st) h := am_ev_step (q := (46, ls, .int (1) :: st, h)) _ (.iconst (1)) 1 am_my_108 (by decide +kernel) rfl
theorem e108_46 {ls : List (Option Value)} {st : List Value} {h : am_H} : am_ev 108 46 (ls) (st) h = am_ev 108 50 (ls) (st) h := am_ev_step (q := (50, ls, st, h)) _ (.goto (4)) 3 am_my_108 (by decide +kernel) rfl
theorem e108_49 {ls : List (Option Value)} {st : List Value} {h : am_H} : am_ev 108 49 (ls) (st) h = am_ev 108 50 (ls) (.int (0) :: st) h := am_ev_step (q := (50, ls, .int (0) :: st, h)) _ (.iconst (0)) 1 am_my_108 (by decide +kernel) rfl
theorem e108_50 {ls : List (Option Value)} {st : List Value} {h : am_H} {l0 l1 : Option Value} {z : Option Value} {a : Int32} : am_ev 108 50 (l0 :: l1 :: z :: ls) (.int a :: st) h = am_ev 108 51 (l0 :: l1 :: some (.int a) :: ls) (st) h := am_ev_step (q := (51, l0 :: l1 :: some (.int a) :: ls, st, h)) _ (.istore_n 2) 1 am_my_108 (by decide +kernel) rfl
theorem e108_51 {ls : List (Option Value)} {st : List Value} {h : am_H} {a : Nat} : am_ev 108 51 (some (.ref a) :: ls) (st) h = am_ev 108 52 (some (.ref a) :: ls) (.ref a :: st) h := am_ev_step (q := (52, some (.ref a) :: ls, .ref a :: st, h)) _ (.aload_n 0) 1 am_my_108 (by decide +kernel) rfl
theorem e108_52 {ls : List (Option Value)} {st : List Value} {h : am_H} {o : Nat} (hk : am_kd h o = some (.inl 4)) : am_ev 108 52 ls (.ref o :: st) h = am_ev 108 55 ls (.int (h.1 o 4) :: st) h := am_u_gfI (idx := 33) (wn := 2057) am_my_108 (by decide +kernel) (by decide +kernel) (by decide +kernel) hk
theorem e108_55 {ls : List (Option Value)} {st : List Value} {h : am_H} {l0 l1 : Option Value} {a : Int32} : am_ev 108 55 (l0 :: l1 :: some (.int a) :: ls) (st) h = am_ev 108 56 (l0 :: l1 :: some (.int a) :: ls) (.int a :: st) h := am_ev_step (q := (56, l0 :: l1 :: some (.int a) :: ls, .int a :: st, h)) _ (.iload_n 2) 1 am_my_108 (by decide +kernel) rfl
theorem e108_56 {ls : List (Option Value)} {st : List Value} {h : am_H} {a b : Int32} : am_ev 108 56 ls (.int b :: .int a :: st) h = if ¬ a = b then am_ev 108 61 ls st h else am_ev 108 59 ls st h := am_u_if2 (c := .ne) (off := 5) am_my_108 (by decide +kernel) (by decide)
theorem e108_59 {ls : List (Option Value)} {st : List Value} {h : am_H} : am_ev 108 59 (ls) (st) h = am_ev 108 60 (ls) (.int (0) :: st) h := am_ev_step (q := (60, ls, .int (0) :: st, h)) _ (.iconst (0)) 1 am_my_108 (by decide +kernel) rfl
theorem e108_60 {ls : List (Option Value)} {h : am_H} {v : Int32} (hv : v = 0 ∨ v = 1) : am_ev 108 60 ls [.int v] h = some (some (.int v), h) := am_u_rtZ am_my_108 (by decide +kernel) rfl hv
theorem e108_61 {ls : List (Option Value)} {st : List Value} {h : am_H} {a : Nat} : am_ev 108 61 (some (.ref a) :: ls) (st) h = am_ev 108 62 (some (.ref a) :: ls) (.ref a :: st) h := am_ev_step (q := (62, some (.ref a) :: ls, .ref a :: st, h)) _ (.aload_n 0) 1 am_my_108 (by decide +kernel) rfl
theorem e108_62 {ls : List (Option Value)} {st : List Value} {h : am_H} {l0 l1 : Option Value} {a : Int32} : am_ev 108 62 (l0 :: l1 :: some (.int a) :: ls) (st) h = am_ev 108 63 (l0 :: l1 :: some (.int a) :: ls) (.int a :: st) h := am_ev_step (q := (63, l0 :: l1 :: some (.int a) :: ls, .int a :: st, h)) _ (.iload_n 2) 1 am_my_108 (by decide +kernel) rfl
theorem e108_63 {ls : List (Option Value)} {st : List Value} {h : am_H} {o : Nat} {v : Int32} (hk : am_kd h o = some (.inl 4)) (hv : v = 0 ∨ v = 1) : am_ev 108 63 ls (.int v :: .ref o :: st) h = am_ev 108 66 ls st (am_sI h o 4 v) := am_u_pfZ (idx := 33) (wn := 2057) am_my_108 (by decide +kernel) (by decide +kernel) (by decide +kernel) (by decide +kernel) hk hv
theorem e108_66 {ls : List (Option Value)} {st : List Value} {h : am_H} {a : Nat} : am_ev 108 66 (some (.ref a) :: ls) (st) h = am_ev 108 67 (some (.ref a) :: ls) (.ref a :: st) h := am_ev_step (q := (67, some (.ref a) :: ls, .ref a :: st, h)) _ (.aload_n 0) 1 am_my_108 (by decide +kernel) rfl
theorem e108_67 {ls : List (Option Value)} {st : List Value} {h : am_H}  {o : Nat} (hw : am_w8 st ≤ 8) (hk : am_kd h o = some (.inl 4)) : am_ev 108 67 ls (.ref o :: st) h = am_bd (am_den 109 [.ref o] h) (fun v h1 => am_ev 108 70 ls (v.toList ++ st) h1) := am_u_cV (idx := 109) (wn := 4133) (as := []) am_my_108 (by decide +kernel) (Or.inl (by decide +kernel)) am_my_109 (by decide +kernel) rfl ⟨Nat.le_of_ble_eq_true rfl, rfl⟩ (by decide +kernel) hw hk
theorem e108_70 {ls : List (Option Value)} {st : List Value} {h : am_H} {a : Int32} : am_ev 108 70 (ls) (.int a :: st) h = am_ev 108 71 (ls) (st) h := am_ev_step (q := (71, ls, st, h)) _ (.pop) 1 am_my_108 (by decide +kernel) rfl
theorem e108_71 {ls : List (Option Value)} {st : List Value} {h : am_H} {a : Nat} : am_ev 108 71 (some (.ref a) :: ls) (st) h = am_ev 108 72 (some (.ref a) :: ls) (.ref a :: st) h := am_ev_step (q := (72, some (.ref a) :: ls, .ref a :: st, h)) _ (.aload_n 0) 1 am_my_108 (by decide +kernel) rfl
theorem e108_72 {ls : List (Option Value)} {st : List Value} {h : am_H} {a : Nat} : am_ev 108 72 (ls) (.ref a :: st) h = am_ev 108 73 (ls) (.ref a :: .ref a :: st) h := am_ev_step (q := (73, ls, .ref a :: .ref a :: st, h)) _ (.dup) 1 am_my_108 (by decide +kernel) rfl
theorem e108_72i {ls : List (Option Value)} {st : List Value} {h : am_H} {a : Int32} : am_ev 108 72 (ls) (.int a :: st) h = am_ev 108 73 (ls) (.int a :: .int a :: st) h := am_ev_step (q := (73, ls, .int a :: .int a :: st, h)) _ (.dup) 1 am_my_108 (by decide +kernel) rfl
theorem e108_73 {ls : List (Option Value)} {st : List Value} {h : am_H} {o : Nat} (hk : am_kd h o = some (.inl 4)) : am_ev 108 73 ls (.ref o :: st) h = am_ev 108 76 ls (.int (h.1 o 6) :: st) h := am_u_gfI (idx := 40) (wn := 2059) am_my_108 (by decide +kernel) (by decide +kernel) (by decide +kernel) hk
theorem e108_76 {ls : List (Option Value)} {st : List Value} {h : am_H} : am_ev 108 76 (ls) (st) h = am_ev 108 77 (ls) (.int (1) :: st) h := am_ev_step (q := (77, ls, .int (1) :: st, h)) _ (.iconst (1)) 1 am_my_108 (by decide +kernel) rfl
theorem e108_77 {ls : List (Option Value)} {st : List Value} {h : am_H} {a b : Int32} : am_ev 108 77 (ls) (.int b :: .int a :: st) h = am_ev 108 78 (ls) (.int (a + b) :: st) h := am_ev_step (q := (78, ls, .int (a + b) :: st, h)) _ (.iadd) 1 am_my_108 (by decide +kernel) rfl
theorem e108_78 {ls : List (Option Value)} {st : List Value} {h : am_H} {o : Nat} {v : Int32} (hk : am_kd h o = some (.inl 4)) : am_ev 108 78 ls (.int v :: .ref o :: st) h = am_ev 108 81 ls st (am_sI h o 6 v) := am_u_pfI (idx := 40) (wn := 2059) am_my_108 (by decide +kernel) (by decide +kernel) (by decide +kernel) (by decide +kernel) hk
theorem e108_81 {ls : List (Option Value)} {st : List Value} {h : am_H} : am_ev 108 81 (ls) (st) h = am_ev 108 82 (ls) (.int (1) :: st) h := am_ev_step (q := (82, ls, .int (1) :: st, h)) _ (.iconst (1)) 1 am_my_108 (by decide +kernel) rfl
theorem e108_82 {ls : List (Option Value)} {h : am_H} {v : Int32} (hv : v = 0 ∨ v = 1) : am_ev 108 82 ls [.int v] h = some (some (.int v), h) := am_u_rtZ am_my_108 (by decide +kernel) rfl hv
theorem e72_0 {ls : List (Option Value)} {st : List Value} {h : am_H} {a : Nat} : am_ev 72 0 (some (.ref a) :: ls) (st) h = am_ev 72 1 (some (.ref a) :: ls) (.ref a :: st) h := am_ev_step (q := (1, some (.ref a) :: ls, .ref a :: st, h)) _ (.aload_n 0) 1 am_my_72 (by decide +kernel) rfl
theorem e72_1 {ls : List (Option Value)} {st : List Value} {h : am_H} {l0 : Option Value} {a : Nat} : am_ev 72 1 (l0 :: some (.ref a) :: ls) (st) h = am_ev 72 2 (l0 :: some (.ref a) :: ls) (.ref a :: st) h := am_ev_step (q := (2, l0 :: some (.ref a) :: ls, .ref a :: st, h)) _ (.aload_n 1) 1 am_my_72 (by decide +kernel) rfl
theorem e72_2 {ls : List (Option Value)} {st : List Value} {h : am_H} {o a : Nat} (hk : am_kd h o = some (.inl 4)) : am_ev 72 2 ls (.ref a :: .ref o :: st) h = am_ev 72 5 ls st (am_sR h o 0 (some a)) := am_u_pfR (idx := 12) (wn := 2047) am_my_72 (by decide +kernel) (by decide +kernel) (by decide +kernel) (by decide +kernel) hk
theorem e72_5 {ls : List (Option Value)} {st : List Value} {h : am_H} {a : Nat} : am_ev 72 5 (some (.ref a) :: ls) (st) h = am_ev 72 6 (some (.ref a) :: ls) (.ref a :: st) h := am_ev_step (q := (6, some (.ref a) :: ls, .ref a :: st, h)) _ (.aload_n 0) 1 am_my_72 (by decide +kernel) rfl
theorem e72_6 {ls : List (Option Value)} {st : List Value} {h : am_H} {l0 : Option Value} {a : Nat} : am_ev 72 6 (l0 :: some (.ref a) :: ls) (st) h = am_ev 72 7 (l0 :: some (.ref a) :: ls) (.ref a :: st) h := am_ev_step (q := (7, l0 :: some (.ref a) :: ls, .ref a :: st, h)) _ (.aload_n 1) 1 am_my_72 (by decide +kernel) rfl
theorem e72_7 {ls : List (Option Value)} {st : List Value} {h : am_H} {o : Nat} (hk : am_kd h o = some (.inl 3)) : am_ev 72 7 ls (.ref o :: st) h = am_ev 72 10 ls (.int (h.1 o 3) :: st) h := am_u_gfI (idx := 25) (wn := 1060) am_my_72 (by decide +kernel) (by decide +kernel) (by decide +kernel) hk
theorem e72_10 {ls : List (Option Value)} {st : List Value} {h : am_H} {o : Nat} {v : Int32} (hk : am_kd h o = some (.inl 4)) : am_ev 72 10 ls (.int v :: .ref o :: st) h = am_ev 72 13 ls st (am_sI h o 1 v) := am_u_pfI (idx := 29) (wn := 2048) am_my_72 (by decide +kernel) (by decide +kernel) (by decide +kernel) (by decide +kernel) hk
theorem e72_13 {ls : List (Option Value)} {st : List Value} {h : am_H} {a : Nat} : am_ev 72 13 (some (.ref a) :: ls) (st) h = am_ev 72 14 (some (.ref a) :: ls) (.ref a :: st) h := am_ev_step (q := (14, some (.ref a) :: ls, .ref a :: st, h)) _ (.aload_n 0) 1 am_my_72 (by decide +kernel) rfl
theorem e72_14 {ls : List (Option Value)} {st : List Value} {h : am_H} : am_ev 72 14 (ls) (st) h = am_ev 72 15 (ls) (.int (0) :: st) h := am_ev_step (q := (15, ls, .int (0) :: st, h)) _ (.iconst (0)) 1 am_my_72 (by decide +kernel) rfl
theorem e72_15 {ls : List (Option Value)} {st : List Value} {h : am_H} {o : Nat} {v : Int32} (hk : am_kd h o = some (.inl 4)) : am_ev 72 15 ls (.int v :: .ref o :: st) h = am_ev 72 18 ls st (am_sI h o 2 v) := am_u_pfI (idx := 30) (wn := 2051) am_my_72 (by decide +kernel) (by decide +kernel) (by decide +kernel) (by decide +kernel) hk
theorem e72_18 {ls : List (Option Value)} {st : List Value} {h : am_H} {a : Nat} : am_ev 72 18 (some (.ref a) :: ls) (st) h = am_ev 72 19 (some (.ref a) :: ls) (.ref a :: st) h := am_ev_step (q := (19, some (.ref a) :: ls, .ref a :: st, h)) _ (.aload_n 0) 1 am_my_72 (by decide +kernel) rfl
theorem e72_19 {ls : List (Option Value)} {st : List Value} {h : am_H} : am_ev 72 19 (ls) (st) h = am_ev 72 20 (ls) (.int (0) :: st) h := am_ev_step (q := (20, ls, .int (0) :: st, h)) _ (.iconst (0)) 1 am_my_72 (by decide +kernel) rfl
theorem e72_20 {ls : List (Option Value)} {st : List Value} {h : am_H} {o : Nat} {v : Int32} (hk : am_kd h o = some (.inl 4)) (hv : v = 0 ∨ v = 1) : am_ev 72 20 ls (.int v :: .ref o :: st) h = am_ev 72 23 ls st (am_sI h o 4 v) := am_u_pfZ (idx := 33) (wn := 2057) am_my_72 (by decide +kernel) (by decide +kernel) (by decide +kernel) (by decide +kernel) hk hv
theorem e72_23 {ls : List (Option Value)} {st : List Value} {h : am_H} {a : Nat} : am_ev 72 23 (some (.ref a) :: ls) (st) h = am_ev 72 24 (some (.ref a) :: ls) (.ref a :: st) h := am_ev_step (q := (24, some (.ref a) :: ls, .ref a :: st, h)) _ (.aload_n 0) 1 am_my_72 (by decide +kernel) rfl
theorem e72_24 {ls : List (Option Value)} {st : List Value} {h : am_H} : am_ev 72 24 (ls) (st) h = am_ev 72 25 (ls) (.int (0) :: st) h := am_ev_step (q := (25, ls, .int (0) :: st, h)) _ (.iconst (0)) 1 am_my_72 (by decide +kernel) rfl
theorem e72_25 {ls : List (Option Value)} {st : List Value} {h : am_H} {o : Nat} {v : Int32} (hk : am_kd h o = some (.inl 4)) (hv : v = 0 ∨ v = 1) : am_ev 72 25 ls (.int v :: .ref o :: st) h = am_ev 72 28 ls st (am_sI h o 5 v) := am_u_pfZ (idx := 37) (wn := 2058) am_my_72 (by decide +kernel) (by decide +kernel) (by decide +kernel) (by decide +kernel) hk hv
theorem e72_28 {ls : List (Option Value)} {st : List Value} {h : am_H} {a : Nat} : am_ev 72 28 (some (.ref a) :: ls) (st) h = am_ev 72 29 (some (.ref a) :: ls) (.ref a :: st) h := am_ev_step (q := (29, some (.ref a) :: ls, .ref a :: st, h)) _ (.aload_n 0) 1 am_my_72 (by decide +kernel) rfl
theorem e72_29 {ls : List (Option Value)} {st : List Value} {h : am_H} : am_ev 72 29 (ls) (st) h = am_ev 72 30 (ls) (.int (0) :: st) h := am_ev_step (q := (30, ls, .int (0) :: st, h)) _ (.iconst (0)) 1 am_my_72 (by decide +kernel) rfl
theorem e72_30 {ls : List (Option Value)} {st : List Value} {h : am_H} {o : Nat} {v : Int32} (hk : am_kd h o = some (.inl 4)) : am_ev 72 30 ls (.int v :: .ref o :: st) h = am_ev 72 33 ls st (am_sI h o 6 v) := am_u_pfI (idx := 40) (wn := 2059) am_my_72 (by decide +kernel) (by decide +kernel) (by decide +kernel) (by decide +kernel) hk
theorem e72_33 {ls : List (Option Value)} {st : List Value} {h : am_H} {l0 : Option Value} {a : Nat} : am_ev 72 33 (l0 :: some (.ref a) :: ls) (st) h = am_ev 72 34 (l0 :: some (.ref a) :: ls) (.ref a :: st) h := am_ev_step (q := (34, l0 :: some (.ref a) :: ls, .ref a :: st, h)) _ (.aload_n 1) 1 am_my_72 (by decide +kernel) rfl
theorem e72_34 {ls : List (Option Value)} {st : List Value} {h : am_H} {o : Nat} (hk : am_kd h o = some (.inl 3)) : am_ev 72 34 ls (.ref o :: st) h = am_ev 72 37 ls (va_rf (h.2.2.1 o 8) :: st) h := am_u_gfR (idx := 43) (wn := 1073) (a := 0) am_my_72 (by decide +kernel) (by decide +kernel) (by decide +kernel) hk
theorem e72_37 {ls : List (Option Value)} {st : List Value} {h : am_H} : am_ev 72 37 (ls) (st) h = am_ev 72 38 (ls) (.int (0) :: st) h := am_ev_step (q := (38, ls, .int (0) :: st, h)) _ (.iconst (0)) 1 am_my_72 (by decide +kernel) rfl
theorem e72_38 {ls : List (Option Value)} {st : List Value} {h : am_H} {a : Nat} : am_ev 72 38 (some (.ref a) :: ls) (st) h = am_ev 72 39 (some (.ref a) :: ls) (.ref a :: st) h := am_ev_step (q := (39, some (.ref a) :: ls, .ref a :: st, h)) _ (.aload_n 0) 1 am_my_72 (by decide +kernel) rfl
theorem e72_39 {ls : List (Option Value)} {st : List Value} {h : am_H} {o : Nat} (hk : am_kd h o = some (.inl 4)) : am_ev 72 39 ls (.ref o :: st) h = am_ev 72 42 ls (va_rf (h.2.2.1 o 3) :: st) h := am_u_gfR (idx := 18) (wn := 2054) (a := 0) am_my_72 (by decide +kernel) (by decide +kernel) (by decide +kernel) hk
theorem e72_42 {ls : List (Option Value)} {st : List Value} {h : am_H} : am_ev 72 42 (ls) (st) h = am_ev 72 43 (ls) (.int (0) :: st) h := am_ev_step (q := (43, ls, .int (0) :: st, h)) _ (.iconst (0)) 1 am_my_72 (by decide +kernel) rfl
theorem e72_43 {ls : List (Option Value)} {st : List Value} {h : am_H} : am_ev 72 43 (ls) (st) h = am_ev 72 45 (ls) (.int (6) :: st) h := am_ev_step (q := (45, ls, .int (6) :: st, h)) _ (.bipush (6)) 2 am_my_72 (by decide +kernel) rfl
theorem e72_45i {ls : List (Option Value)} {st : List Value} {h : am_H} {s0 d : Nat} (hw : am_w8 st ≤ 8) (ht : am_tc h s0 = some 0) (ht2 : am_tc h d = some 0) (h1 : 6 ≤ am_len h s0) (h2 : 6 ≤ am_len h d) : am_ev 72 45 ls (.int 6 :: .int 0 :: .ref d :: .int 0 :: .ref s0 :: st) h = am_ev 72 48 ls st (am_cq h s0 d 6) := am_u_ac (idx := 46) (wn := (0, 3214)) 6 0 am_my_72 (by decide +kernel) (by decide +kernel) (by decide +kernel) (by decide) (by decide) hw ht ht2 h1 h2
theorem e72_45b {ls : List (Option Value)} {st : List Value} {h : am_H} {s0 d : Nat} (hw : am_w8 st ≤ 8) (ht : am_tc h s0 = some 1) (ht2 : am_tc h d = some 1) (h1 : 6 ≤ am_len h s0) (h2 : 6 ≤ am_len h d) : am_ev 72 45 ls (.int 6 :: .int 0 :: .ref d :: .int 0 :: .ref s0 :: st) h = am_ev 72 48 ls st (am_cq h s0 d 6) := am_u_ac (idx := 46) (wn := (0, 3214)) 6 1 am_my_72 (by decide +kernel) (by decide +kernel) (by decide +kernel) (by decide) (by decide) hw ht ht2 h1 h2
theorem e72_48 {ls : List (Option Value)} {st : List Value} {h : am_H} {a : Nat} : am_ev 72 48 (some (.ref a) :: ls) (st) h = am_ev 72 49 (some (.ref a) :: ls) (.ref a :: st) h := am_ev_step (q := (49, some (.ref a) :: ls, .ref a :: st, h)) _ (.aload_n 0) 1 am_my_72 (by decide +kernel) rfl
theorem e72_49 {ls : List (Option Value)} {st : List Value} {h : am_H} {o : Nat} (hk : am_kd h o = some (.inl 4)) : am_ev 72 49 ls (.ref o :: st) h = am_ev 72 52 ls (va_rf (h.2.2.1 o 7) :: st) h := am_u_gfR (idx := 22) (wn := 2060) (a := 0) am_my_72 (by decide +kernel) (by decide +kernel) (by decide +kernel) hk
theorem e72_52 {ls : List (Option Value)} {st : List Value} {h : am_H} : am_ev 72 52 (ls) (st) h = am_ev 72 53 (ls) (.int (0) :: st) h := am_ev_step (q := (53, ls, .int (0) :: st, h)) _ (.iconst (0)) 1 am_my_72 (by decide +kernel) rfl
theorem e72_53 {ls : List (Option Value)} {st : List Value} {h : am_H} {p0 : Nat} {p1 : Int32} (hw : am_w8 st ≤ 8) : am_ev 72 53 ls (.int p1 :: .ref p0 :: st) h = am_bd (am_den 73 [.ref p0, .int p1] h) (fun v h1 => am_ev 72 56 ls (v.toList ++ st) h1) := am_u_cS (idx := 52) (wn := 3215) (as := [.ref p0, .int p1]) am_my_72 (by decide +kernel) (by decide +kernel) am_my_73 (by decide +kernel) rfl ⟨Nat.le_of_ble_eq_true rfl, rfl⟩ hw
theorem e72_56 {ls : List (Option Value)} {h : am_H} : am_ev 72 56 ls [] h = some (none, h) := am_u_rtV am_my_72 (by decide +kernel) rfl
theorem e73_0 {ls : List (Option Value)} {st : List Value} {h : am_H} : am_ev 73 0 (ls) (st) h = am_ev 73 1 (ls) (.int (0) :: st) h := am_ev_step (q := (1, ls, .int (0) :: st, h)) _ (.iconst (0)) 1 am_my_73 (by decide +kernel) rfl
theorem e73_1 {ls : List (Option Value)} {st : List Value} {h : am_H} {l0 l1 : Option Value} {z : Option Value} {a : Int32} : am_ev 73 1 (l0 :: l1 :: z :: ls) (.int a :: st) h = am_ev 73 2 (l0 :: l1 :: some (.int a) :: ls) (st) h := am_ev_step (q := (2, l0 :: l1 :: some (.int a) :: ls, st, h)) _ (.istore_n 2) 1 am_my_73 (by decide +kernel) rfl
theorem e73_2 {ls : List (Option Value)} {st : List Value} {h : am_H} {a : Nat} : am_ev 73 2 (some (.ref a) :: ls) (st) h = am_ev 73 3 (some (.ref a) :: ls) (.ref a :: st) h := am_ev_step (q := (3, some (.ref a) :: ls, .ref a :: st, h)) _ (.aload_n 0) 1 am_my_73 (by decide +kernel) rfl
theorem e73_3 {ls : List (Option Value)} {st : List Value} {h : am_H} {a : Nat} {tc : Nat} (ht : am_tc h a = some tc) (h8 : tc ≤ 8) : am_ev 73 3 ls (.ref a :: st) h = am_ev 73 4 ls (.int (Int32.ofNat (am_len h a)) :: st) h := am_u_al am_my_73 (by decide +kernel) ht h8
theorem e73_4 {ls : List (Option Value)} {st : List Value} {h : am_H} {l0 l1 l2 : Option Value} {z : Option Value} {a : Int32} : am_ev 73 4 (l0 :: l1 :: l2 :: z :: ls) (.int a :: st) h = am_ev 73 5 (l0 :: l1 :: l2 :: some (.int a) :: ls) (st) h := am_ev_step (q := (5, l0 :: l1 :: l2 :: some (.int a) :: ls, st, h)) _ (.istore_n 3) 1 am_my_73 (by decide +kernel) rfl
theorem e73_5 {ls : List (Option Value)} {st : List Value} {h : am_H} {l0 l1 : Option Value} {a : Int32} : am_ev 73 5 (l0 :: l1 :: some (.int a) :: ls) (st) h = am_ev 73 6 (l0 :: l1 :: some (.int a) :: ls) (.int a :: st) h := am_ev_step (q := (6, l0 :: l1 :: some (.int a) :: ls, .int a :: st, h)) _ (.iload_n 2) 1 am_my_73 (by decide +kernel) rfl
theorem e73_6 {ls : List (Option Value)} {st : List Value} {h : am_H} {l0 l1 l2 : Option Value} {a : Int32} : am_ev 73 6 (l0 :: l1 :: l2 :: some (.int a) :: ls) (st) h = am_ev 73 7 (l0 :: l1 :: l2 :: some (.int a) :: ls) (.int a :: st) h := am_ev_step (q := (7, l0 :: l1 :: l2 :: some (.int a) :: ls, .int a :: st, h)) _ (.iload_n 3) 1 am_my_73 (by decide +kernel) rfl
theorem e73_7 {ls : List (Option Value)} {st : List Value} {h : am_H} {a b : Int32} : am_ev 73 7 ls (.int b :: .int a :: st) h = if b ≤ a then am_ev 73 20 ls st h else am_ev 73 10 ls st h := am_u_if2 (c := .ge) (off := 13) am_my_73 (by decide +kernel) (by decide)
theorem e73_10 {ls : List (Option Value)} {st : List Value} {h : am_H} {a : Nat} : am_ev 73 10 (some (.ref a) :: ls) (st) h = am_ev 73 11 (some (.ref a) :: ls) (.ref a :: st) h := am_ev_step (q := (11, some (.ref a) :: ls, .ref a :: st, h)) _ (.aload_n 0) 1 am_my_73 (by decide +kernel) rfl
theorem e73_11 {ls : List (Option Value)} {st : List Value} {h : am_H} {l0 l1 : Option Value} {a : Int32} : am_ev 73 11 (l0 :: l1 :: some (.int a) :: ls) (st) h = am_ev 73 12 (l0 :: l1 :: some (.int a) :: ls) (.int a :: st) h := am_ev_step (q := (12, l0 :: l1 :: some (.int a) :: ls, .int a :: st, h)) _ (.iload_n 2) 1 am_my_73 (by decide +kernel) rfl
theorem e73_12 {ls : List (Option Value)} {st : List Value} {h : am_H} {l0 : Option Value} {a : Int32} : am_ev 73 12 (l0 :: some (.int a) :: ls) (st) h = am_ev 73 13 (l0 :: some (.int a) :: ls) (.int a :: st) h := am_ev_step (q := (13, l0 :: some (.int a) :: ls, .int a :: st, h)) _ (.iload_n 1) 1 am_my_73 (by decide +kernel) rfl
theorem e73_13 {ls : List (Option Value)} {st : List Value} {h : am_H} {v i : Int32} {a : Nat} (ht : am_tc h a = some 0) : am_ev 73 13 ls (.int v :: .int i :: .ref a :: st) h = if am_ix i (am_len h a) = true then am_ev 73 14 ls st (am_sI h a i.toNatClampNeg v) else none := am_u_wI am_my_73 (by decide +kernel) ht
theorem e73_14 {ls : List (Option Value)} {st : List Value} {h : am_H} {l0 l1 : Option Value} {a : Int32} : am_ev 73 14 (l0 :: l1 :: some (.int a) :: ls) (st) h = am_ev 73 17 (l0 :: l1 :: some (.int (a + (1))) :: ls) (st) h := am_ev_step (q := (17, l0 :: l1 :: some (.int (a + (1))) :: ls, st, h)) _ (.iinc 2 (1)) 3 am_my_73 (by decide +kernel) rfl
theorem e73_17 {ls : List (Option Value)} {st : List Value} {h : am_H} : am_ev 73 17 (ls) (st) h = am_ev 73 5 (ls) (st) h := am_ev_step (q := (5, ls, st, h)) _ (.goto (-12)) 3 am_my_73 (by decide +kernel) rfl
theorem e73_20 {ls : List (Option Value)} {h : am_H} : am_ev 73 20 ls [] h = some (none, h) := am_u_rtV am_my_73 (by decide +kernel) rfl
theorem q_ag_l (q o : Nat) (f : q_Fl) (wf : F_wf f) : ∀ (r b n : Nat) (g : q_G) (h : am_H), b + r = F_n f → q_cg h q o f g → G_in f g → ∃ h' : am_H, q_ff q h h' ∧ q_cg h' q o f (G_all f r b g) ∧ am_ev 109 4 [some (.ref q), some (.int (nI n)), some (.int (nI b))] [] h = some (some (.int (nI (G_cnt f r b g n))), h') := by
  have n6 := wf.2.2.2.1
  intro r
  induction r with
  | zero =>
    intro b n g h hb cg i
    have h1 : nI (F_n f) ≤ nI b := nI_le (by omega) (by omega)
    have k := cg.1.1
    have r0 := cg.1.2.1
    have fo := cg.2.1.1
    have c5 := cg.2.1.2.2.2.2.2.1
    refine ⟨h, q_ff.rf q h, cg, ?_⟩
    rw [e109_4]
    simp only [e109_0, e109_1, e109_2, e109_3, e109_5, e109_6, e109_9, e109_12, e109_15, e109_16, e109_17, e109_20, e109_23, e109_26, e109_29, e109_32, e109_33, am_bd_some, Option.toList_some, Option.toList_none, List.cons_append, List.nil_append, am_w8_0, am_w8_1, am_w8_2, am_w8_3, am_w8_4, eq_self, or_true, true_or, am_kd_sI, am_kd_sL, am_kd_sR, am_tc_sI, am_tc_sL, am_tc_sR, am_len_sI, am_len_sL, am_len_sR, am_rfs, if_true, if_false, am_rdL_sI, am_rR_sL, am_rt_cq, am_kd_cq, am_tc_cq, am_len_cq, am_rd_sL, am_rd_sR, am_rdL_sR, k.1, r0, fo.1, c5, h1, G_cnt]
  | succ r ih =>
    intro b n g h hb cg i
    have h1 : ¬ nI (F_n f) ≤ nI b := nI_ge (by omega) (by omega)
    have k := cg.1.1
    have r0 := cg.1.2.1
    have fo := cg.2.1.1
    have c5 := cg.2.1.2.2.2.2.2.1
    obtain ⟨h', f1, g1, s1⟩ := den_goes h q o f g cg wf i b (by omega)
    obtain ⟨h'', f2, g2, s2⟩ := ih (b + 1) (if G_went1 f g b = true then n + 1 else n) (G_go f g b) h' (by omega) g1 (G_go_in wf i (by omega))
    refine ⟨h'', f1.tr f2, g2, ?_⟩
    rw [e109_4]
    cases hw : G_went1 f g b with
    | true =>
      rw [hw] at s1 s2
      have y : ¬ q_bi true = 0 := by decide
      simp only [e109_0, e109_1, e109_2, e109_3, e109_5, e109_6, e109_9, e109_12, e109_15, e109_16, e109_17, e109_20, e109_23, e109_26, e109_29, e109_32, e109_33, am_bd_some, Option.toList_some, Option.toList_none, List.cons_append, List.nil_append, am_w8_0, am_w8_1, am_w8_2, am_w8_3, am_w8_4, eq_self, or_true, true_or, am_kd_sI, am_kd_sL, am_kd_sR, am_tc_sI, am_tc_sL, am_tc_sR, am_len_sI, am_len_sL, am_len_sR, am_rfs, if_true, if_false, am_rdL_sI, am_rR_sL, am_rt_cq, am_kd_cq, am_tc_cq, am_len_cq, am_rd_sL, am_rd_sR, am_rdL_sR, k.1, r0, fo.1, c5, h1, s1, y, nI_1, G_cnt, hw]
      rw [if_pos rfl] at s2
      exact s2
    | false =>
      rw [hw] at s1 s2
      have y : q_bi false = 0 := rfl
      simp only [e109_0, e109_1, e109_2, e109_3, e109_5, e109_6, e109_9, e109_12, e109_15, e109_16, e109_17, e109_20, e109_23, e109_26, e109_29, e109_32, e109_33, am_bd_some, Option.toList_some, Option.toList_none, List.cons_append, List.nil_append, am_w8_0, am_w8_1, am_w8_2, am_w8_3, am_w8_4, eq_self, or_true, true_or, am_kd_sI, am_kd_sL, am_kd_sR, am_tc_sI, am_tc_sL, am_tc_sR, am_len_sI, am_len_sL, am_len_sR, am_rfs, if_true, if_false, am_rdL_sI, am_rR_sL, am_rt_cq, am_kd_cq, am_tc_cq, am_len_cq, am_rd_sL, am_rd_sR, am_rdL_sR, k.1, r0, fo.1, c5, h1, s1, y, nI_1, G_cnt, hw]
      rw [if_neg (by decide)] at s2
      simpa using s2
theorem den_allGo (q o : Nat) (f : q_Fl) (wf : F_wf f) (g : q_G) (h : am_H) (cg : q_cg h q o f g) (i : G_in f g) : ∃ h' : am_H, q_ff q h h' ∧ q_cg h' q o f (G_all f (F_n f) 0 g) ∧ am_den 109 [.ref q] h = some (some (.int (nI (G_cnt f (F_n f) 0 g 0))), h') := by
  obtain ⟨h', f1, g1, s1⟩ := q_ag_l q o f wf (F_n f) 0 0 g h (by omega) cg i
  refine ⟨h', f1, g1, ?_⟩
  show am_ev 109 0 [some (.ref q), none, none] [] h = _
  rw [nI_0] at s1
  simp only [e109_0, e109_1, e109_2, e109_3, e109_5, e109_6, e109_9, e109_12, e109_15, e109_16, e109_17, e109_20, e109_23, e109_26, e109_29, e109_32, e109_33, am_bd_some, Option.toList_some, Option.toList_none, List.cons_append, List.nil_append, am_w8_0, am_w8_1, am_w8_2, am_w8_3, am_w8_4, eq_self, or_true, true_or, am_kd_sI, am_kd_sL, am_kd_sR, am_tc_sI, am_tc_sL, am_tc_sR, am_len_sI, am_len_sL, am_len_sR, am_rfs, if_true, if_false, am_rdL_sI, am_rR_sL, am_rt_cq, am_kd_cq, am_tc_cq, am_len_cq, am_rd_sL, am_rd_sR, am_rdL_sR]
  exact s1
/-- who would go, each for itself (bits) -/
def G_wm (f : q_Fl) (g : q_G) : Nat → Nat → Nat → Nat
  | 0, _, m => m
  | r + 1, b, m => G_wm f g r (b + 1) (if G_went1 f g b = true then m ||| 2 ^ b else m)
theorem G_wm_lt (f : q_Fl) (g : q_G) : ∀ r b m, b + r ≤ 6 → m < 64 → G_wm f g r b m < 64 := by
  intro r
  induction r with
  | zero => intro b m _ h; exact h
  | succ r ih =>
    intro b m hb hm
    refine ih (b + 1) _ (by omega) ?_
    split
    · exact q_or64 m hm b (by omega)
    · exact hm
theorem q_wg_l (h : am_H) (q o : Nat) (f : q_Fl) (g : q_G) (cg : q_cg h q o f g) (wf : F_wf f) (i : G_in f g) : ∀ (r b m : Nat), b + r = F_n f → m < 64 → am_ev 95 4 [some (.ref q), some (.int (nI m)), some (.int (nI b))] [] h = some (some (.int (nI (G_wm f g r b m))), h) := by
  have n6 := wf.2.2.2.1
  have k := cg.1.1
  have r0 := cg.1.2.1
  have fo := cg.2.1.1
  have c5 := cg.2.1.2.2.2.2.2.1
  intro r
  induction r with
  | zero =>
    intro b m hb hm
    have h1 : nI (F_n f) ≤ nI b := nI_le (by omega) (by omega)
    rw [e95_4]
    simp only [e95_0, e95_1, e95_2, e95_3, e95_5, e95_6, e95_9, e95_12, e95_15, e95_16, e95_17, e95_20, e95_21, e95_24, e95_25, e95_26, e95_27, e95_28, e95_29, e95_30, e95_33, e95_36, e95_37, am_bd_some, Option.toList_some, Option.toList_none, List.cons_append, List.nil_append, am_w8_0, am_w8_1, am_w8_2, am_w8_3, am_w8_4, eq_self, or_true, true_or, am_kd_sI, am_kd_sL, am_kd_sR, am_tc_sI, am_tc_sL, am_tc_sR, am_len_sI, am_len_sL, am_len_sR, am_rfs, if_true, if_false, am_rdL_sI, am_rR_sL, am_rt_cq, am_kd_cq, am_tc_cq, am_len_cq, am_rd_sL, am_rd_sR, am_rdL_sR, k.1, r0, fo.1, c5, h1, G_wm]
  | succ r ih =>
    intro b m hb hm
    have h1 : ¬ nI (F_n f) ≤ nI b := nI_ge (by omega) (by omega)
    have dw := den_wayDriven h q o f g cg wf i b (by omega)
    have po := q_por m hm b (by omega)
    rw [e95_4]
    have ov : q_ov (G_way f g b) = -1 ↔ G_way f g b = none := q_ov_m1 _ (fun t ht => by have := (G_way_lt ht).1; omega)
    cases hd : G_drv f g b with
    | false =>
      rw [hd] at dw
      have w1 : ¬ G_went1 f g b = true := by unfold G_went1; rw [hd]; simp
      simp only [e95_0, e95_1, e95_2, e95_3, e95_5, e95_6, e95_9, e95_12, e95_15, e95_16, e95_17, e95_20, e95_21, e95_24, e95_25, e95_26, e95_27, e95_28, e95_29, e95_30, e95_33, e95_36, e95_37, am_bd_some, Option.toList_some, Option.toList_none, List.cons_append, List.nil_append, am_w8_0, am_w8_1, am_w8_2, am_w8_3, am_w8_4, eq_self, or_true, true_or, am_kd_sI, am_kd_sL, am_kd_sR, am_tc_sI, am_tc_sL, am_tc_sR, am_len_sI, am_len_sL, am_len_sR, am_rfs, if_true, if_false, am_rdL_sI, am_rR_sL, am_rt_cq, am_kd_cq, am_tc_cq, am_len_cq, am_rd_sL, am_rd_sR, am_rdL_sR, k.1, r0, fo.1, c5, h1, dw, nI_1, G_wm, w1, Bool.false_eq_true]
      exact ih (b + 1) m (by omega) hm
    | true =>
      rw [hd] at dw
      cases hw : G_way f g b with
      | none =>
        have w1 : ¬ G_went1 f g b = true := by unfold G_went1; rw [hw]; simp
        rw [hw] at dw
        have m1 : q_ov none = -1 := rfl
        simp only [e95_0, e95_1, e95_2, e95_3, e95_5, e95_6, e95_9, e95_12, e95_15, e95_16, e95_17, e95_20, e95_21, e95_24, e95_25, e95_26, e95_27, e95_28, e95_29, e95_30, e95_33, e95_36, e95_37, am_bd_some, Option.toList_some, Option.toList_none, List.cons_append, List.nil_append, am_w8_0, am_w8_1, am_w8_2, am_w8_3, am_w8_4, eq_self, or_true, true_or, am_kd_sI, am_kd_sL, am_kd_sR, am_tc_sI, am_tc_sL, am_tc_sR, am_len_sI, am_len_sL, am_len_sR, am_rfs, if_true, if_false, am_rdL_sI, am_rR_sL, am_rt_cq, am_kd_cq, am_tc_cq, am_len_cq, am_rd_sL, am_rd_sR, am_rdL_sR, k.1, r0, fo.1, c5, h1, dw, m1, nI_1, G_wm, w1]
        exact ih (b + 1) m (by omega) hm
      | some d =>
        have w1 : G_went1 f g b = true := by unfold G_went1; rw [hd, hw]; rfl
        rw [hw] at dw ov
        have m1 : ¬ q_ov (some d) = -1 := fun w => by cases ov.mp w
        simp only [e95_0, e95_1, e95_2, e95_3, e95_5, e95_6, e95_9, e95_12, e95_15, e95_16, e95_17, e95_20, e95_21, e95_24, e95_25, e95_26, e95_27, e95_28, e95_29, e95_30, e95_33, e95_36, e95_37, am_bd_some, Option.toList_some, Option.toList_none, List.cons_append, List.nil_append, am_w8_0, am_w8_1, am_w8_2, am_w8_3, am_w8_4, eq_self, or_true, true_or, am_kd_sI, am_kd_sL, am_kd_sR, am_tc_sI, am_tc_sL, am_tc_sR, am_len_sI, am_len_sL, am_len_sR, am_rfs, if_true, if_false, am_rdL_sI, am_rR_sL, am_rt_cq, am_kd_cq, am_tc_cq, am_len_cq, am_rd_sL, am_rd_sR, am_rdL_sR, k.1, r0, fo.1, c5, h1, dw, m1, nI_1, po, G_wm, w1]
        exact ih (b + 1) _ (by omega) (q_or64 m hm b (by omega))
theorem den_cwould (h : am_H) (q o : Nat) (f : q_Fl) (g : q_G) (cg : q_cg h q o f g) (wf : F_wf f) (i : G_in f g) : am_den 95 [.ref q] h = some (some (.int (nI (G_wm f g (F_n f) 0 0))), h) := by
  have lp := q_wg_l h q o f g cg wf i (F_n f) 0 0 (by omega) (by decide)
  show am_ev 95 0 [some (.ref q), none, none] [] h = _
  rw [nI_0] at lp
  simp only [e95_0, e95_1, e95_2, e95_3, e95_5, e95_6, e95_9, e95_12, e95_15, e95_16, e95_17, e95_20, e95_21, e95_24, e95_25, e95_26, e95_27, e95_28, e95_29, e95_30, e95_33, e95_36, e95_37, am_bd_some, Option.toList_some, Option.toList_none, List.cons_append, List.nil_append, am_w8_0, am_w8_1, am_w8_2, am_w8_3, am_w8_4, eq_self, or_true, true_or, am_kd_sI, am_kd_sL, am_kd_sR, am_tc_sI, am_tc_sL, am_tc_sR, am_len_sI, am_len_sL, am_len_sR, am_rfs, if_true, if_false, am_rdL_sI, am_rR_sL, am_rt_cq, am_kd_cq, am_tc_cq, am_len_cq, am_rd_sL, am_rd_sR, am_rdL_sR]
  exact lp
/-! fields of a flock -/
theorem q_cg_fld {h : am_H} {q o : Nat} {f : q_Fl} {g g' : q_G} (cg : q_cg h q o f g) (k : Nat) (v : Int32) (ha : G_at g' = G_at g) (hw : G_went g' = G_went g) (h1 : (if 1 = k then v else nI (G_dog g)) = nI (G_dog g')) (h2 : (if 2 = k then v else nI (G_pen g)) = nI (G_pen g')) (h4 : (if 4 = k then v else q_bi (G_lies g)) = q_bi (G_lies g')) (h5 : (if 5 = k then v else q_bi (G_back g)) = q_bi (G_back g')) (h6 : (if 6 = k then v else nI (G_min g)) = nI (G_min g')) : q_cg (am_sI h q k v) q o f g' := by
  obtain ⟨⟨kk, r0, dj⟩, ⟨fo, c0, c1, c2, c4, c5, c6, c7⟩, ⟨e1, e2, e4, e5, e6⟩, ea, ew⟩ := cg
  have rd : ∀ j, (am_sI h q k v).1 q j = if j = k then v else h.1 q j := fun j => by
    rw [am_rd_sI]
    by_cases c : j = k
    · rw [if_pos ⟨rfl, c⟩, if_pos c]
    · rw [if_neg (fun w => c w.2), if_neg c]
  have far : ∀ a j, a ≠ q → (am_sI h q k v).1 a j = h.1 a j := fun a j hq => by rw [am_rd_sI, if_neg (fun w => hq w.1)]
  refine ⟨⟨kk, r0, dj⟩, ⟨fo, ?_, ?_, ?_, ?_, ?_, c6, fun b hb => ?_⟩, ⟨?_, ?_, ?_, ?_, ?_⟩, fun b hb => ?_, fun b hb => ?_⟩
  · rw [far _ _ (by omega)]; exact c0
  · rw [far _ _ (by omega)]; exact c1
  · rw [far _ _ (by omega)]; exact c2
  · rw [far _ _ (by omega)]; exact c4
  · rw [far _ _ (by omega)]; exact c5
  · rw [far _ _ (by omega)]; exact c7 b hb
  · rw [rd, e1]; exact h1
  · rw [rd, e2]; exact h2
  · rw [rd, e4]; exact h4
  · rw [rd, e5]; exact h5
  · rw [rd, e6]; exact h6
  · rw [far _ _ (by omega), ha]; exact ea b hb
  · rw [far _ _ (by omega), hw]; exact ew b hb
theorem q_ff_fld (q k : Nat) (v : Int32) (h : am_H) : q_ff q h (am_sI h q k v) := ⟨rfl, fun a j p1 _ _ => by rw [am_rd_sI, if_neg (fun w => p1 w.1)]⟩
def G_sdog (g : q_G) (t : Nat) : q_G := (t, G_pen g, G_lies g, G_back g, G_min g, G_at g, G_went g)
def G_slies (g : q_G) (l : Bool) : q_G := (G_dog g, G_pen g, l, G_back g, G_min g, G_at g, G_went g)
def G_sback (g : q_G) (l : Bool) : q_G := (G_dog g, G_pen g, G_lies g, l, G_min g, G_at g, G_went g)
def G_tick (g : q_G) : q_G := (G_dog g, G_pen g, G_lies g, G_back g, G_min g + 1, G_at g, G_went g)
theorem q_cg_dog {h : am_H} {q o : Nat} {f : q_Fl} {g : q_G} (cg : q_cg h q o f g) (t : Nat) : q_cg (am_sI h q 1 (nI t)) q o f (G_sdog g t) := q_cg_fld cg 1 (nI t) rfl rfl rfl rfl rfl rfl rfl
theorem q_cg_lies {h : am_H} {q o : Nat} {f : q_Fl} {g : q_G} (cg : q_cg h q o f g) (l : Bool) : q_cg (am_sI h q 4 (q_bi l)) q o f (G_slies g l) := q_cg_fld cg 4 _ rfl rfl rfl rfl rfl rfl rfl
theorem q_cg_back {h : am_H} {q o : Nat} {f : q_Fl} {g : q_G} (cg : q_cg h q o f g) (l : Bool) : q_cg (am_sI h q 5 (q_bi l)) q o f (G_sback g l) := q_cg_fld cg 5 _ rfl rfl rfl rfl rfl rfl rfl
theorem q_cg_tick {h : am_H} {q o : Nat} {f : q_Fl} {g : q_G} (cg : q_cg h q o f g) : q_cg (am_sI h q 6 (nI (G_min g + 1))) q o f (G_tick g) := q_cg_fld cg 6 _ rfl rfl rfl rfl rfl rfl rfl
/-- the dog goes, if he may -/
def G_dg (f : q_Fl) (g : q_G) (d : Nat) : Option q_G := match F_nx f (G_dog g) d with
  | none => none
  | some t => if t = F_pen f ∨ G_bs f g t = true then none else some (G_slies (G_sdog g t) false)
theorem G_dg_in {f : q_Fl} {g g' : q_G} {d : Nat} (wf : F_wf f) (i : G_in f g) (h : G_dg f g d = some g') : G_in f g' := by
  unfold G_dg at h
  split at h
  · cases h
  · rename_i t ht
    split at h
    · cases h
    · obtain rfl := Option.some.inj h
      exact ⟨F_nx_in wf i.1 ht, i.2⟩
theorem den_cdg (h : am_H) (q o : Nat) (f : q_Fl) (g : q_G) (cg : q_cg h q o f g) (wf : F_wf f) (i : G_in f g) (d : Nat) (hd : d < 4) : (G_dg f g d = none → am_den 88 [.ref q, .int (nI d)] h = some (some (.int 0), h)) ∧ ∀ g', G_dg f g d = some g' → ∃ h' : am_H, q_ff q h h' ∧ q_cg h' q o f g' ∧ am_den 88 [.ref q, .int (nI d)] h = some (some (.int 1), h') := by
  have cg0 := cg
  have isb := fun c hc => den_isBeasts h q o f g cg wf i c hc
  obtain ⟨⟨k, r0, dj⟩, cf, ⟨e1, e2, e4, e5, e6⟩, ea, ew⟩ := cg
  have dn := den_next h o f cf wf (G_dog g) d i.1 hd
  obtain ⟨fo, c0, c1, c2, c4, c5, c6, c7⟩ := cf
  have sh : am_den 88 [.ref q, .int (nI d)] h = am_ev 88 0 [some (.ref q), some (.int (nI d)), none] [] h := rfl
  rw [sh]
  unfold G_dg
  cases hx : F_nx f (G_dog g) d with
  | none =>
    rw [hx] at dn
    have m1 : q_ov none = -1 := rfl
    refine ⟨fun _ => ?_, fun g' w => by cases w⟩
    simp only [e88_0, e88_1, e88_4, e88_5, e88_8, e88_9, e88_12, e88_13, e88_14, e88_15, e88_18, e88_19, e88_20, e88_23, e88_26, e88_29, e88_30, e88_31, e88_34, e88_37, e88_38, e88_39, e88_40, e88_41, e88_44, e88_45, e88_46, e88_49, e88_50, am_bd_some, Option.toList_some, Option.toList_none, List.cons_append, List.nil_append, am_w8_0, am_w8_1, am_w8_2, am_w8_3, am_w8_4, eq_self, or_true, true_or, am_kd_sI, am_kd_sL, am_kd_sR, am_tc_sI, am_tc_sL, am_tc_sR, am_len_sI, am_len_sL, am_len_sR, am_rfs, if_true, if_false, am_rdL_sI, am_rR_sL, am_rt_cq, am_kd_cq, am_tc_cq, am_len_cq, am_rd_sL, am_rd_sR, am_rdL_sR, k.1, r0, fo.1, e1, dn, m1]
  | some t =>
    rw [hx] at dn
    have ht := F_nx_in wf i.1 hx
    have m1 : q_ov (some t) = nI t := rfl
    have m2 : ¬ nI t = -1 := fun w => by
      have := nI_pos' (n := t) (by have := ht.1; omega)
      rw [w] at this
      exact absurd this (by decide)
    have m4 : nI t = F_pv f ↔ t = F_pen f := F_pv_eq wf ht.1
    have db := isb t ht.1
    by_cases u1 : t = F_pen f
    · have u1' := m4.mpr u1
      refine ⟨fun _ => ?_, fun g' w => ?_⟩
      · simp only [e88_0, e88_1, e88_4, e88_5, e88_8, e88_9, e88_12, e88_13, e88_14, e88_15, e88_18, e88_19, e88_20, e88_23, e88_26, e88_29, e88_30, e88_31, e88_34, e88_37, e88_38, e88_39, e88_40, e88_41, e88_44, e88_45, e88_46, e88_49, e88_50, am_bd_some, Option.toList_some, Option.toList_none, List.cons_append, List.nil_append, am_w8_0, am_w8_1, am_w8_2, am_w8_3, am_w8_4, eq_self, or_true, true_or, am_kd_sI, am_kd_sL, am_kd_sR, am_tc_sI, am_tc_sL, am_tc_sR, am_len_sI, am_len_sL, am_len_sR, am_rfs, if_true, if_false, am_rdL_sI, am_rR_sL, am_rt_cq, am_kd_cq, am_tc_cq, am_len_cq, am_rd_sL, am_rd_sR, am_rdL_sR, k.1, r0, fo.1, e1, c2, dn, m1, m2, eq_true u1']
      · have w2 : (if t = F_pen f ∨ G_bs f g t = true then none else some (G_slies (G_sdog g t) false)) = some g' := w
        rw [if_pos (Or.inl u1)] at w2
        cases w2
    · have u1' : ¬ nI t = F_pv f := fun w => u1 (m4.mp w)
      by_cases u2 : G_bs f g t = true
      · rw [u2] at db
        have y : ¬ q_bi true = 0 := by decide
        refine ⟨fun _ => ?_, fun g' w => ?_⟩
        · simp only [e88_0, e88_1, e88_4, e88_5, e88_8, e88_9, e88_12, e88_13, e88_14, e88_15, e88_18, e88_19, e88_20, e88_23, e88_26, e88_29, e88_30, e88_31, e88_34, e88_37, e88_38, e88_39, e88_40, e88_41, e88_44, e88_45, e88_46, e88_49, e88_50, am_bd_some, Option.toList_some, Option.toList_none, List.cons_append, List.nil_append, am_w8_0, am_w8_1, am_w8_2, am_w8_3, am_w8_4, eq_self, or_true, true_or, am_kd_sI, am_kd_sL, am_kd_sR, am_tc_sI, am_tc_sL, am_tc_sR, am_len_sI, am_len_sL, am_len_sR, am_rfs, if_true, if_false, am_rdL_sI, am_rR_sL, am_rt_cq, am_kd_cq, am_tc_cq, am_len_cq, am_rd_sL, am_rd_sR, am_rdL_sR, k.1, r0, fo.1, e1, c2, dn, m1, m2, u1', db, y]
        · have w2 : (if t = F_pen f ∨ G_bs f g t = true then none else some (G_slies (G_sdog g t) false)) = some g' := w
          rw [if_pos (Or.inr u2)] at w2
          cases w2
      · have u3 : G_bs f g t = false := by simpa using u2
        rw [u3] at db
        have y : q_bi false = 0 := rfl
        have w3 : (if t = F_pen f ∨ G_bs f g t = true then none else some (G_slies (G_sdog g t) false)) = some (G_slies (G_sdog g t) false) := if_neg (fun w => w.elim u1 u2)
        refine ⟨fun w => ?_, fun g' w => ?_⟩
        · have w2 : (if t = F_pen f ∨ G_bs f g t = true then none else some (G_slies (G_sdog g t) false)) = none := w
          rw [w3] at w2
          cases w2
        · have w2 : (if t = F_pen f ∨ G_bs f g t = true then none else some (G_slies (G_sdog g t) false)) = some g' := w
          rw [w3] at w2
          obtain rfl := Option.some.inj w2
          refine ⟨am_sI (am_sI h q 1 (nI t)) q 4 0, (q_ff_fld q 1 _ h).tr (q_ff_fld q 4 _ _), q_cg_lies (q_cg_dog cg0 t) false, ?_⟩
          simp only [e88_0, e88_1, e88_4, e88_5, e88_8, e88_9, e88_12, e88_13, e88_14, e88_15, e88_18, e88_19, e88_20, e88_23, e88_26, e88_29, e88_30, e88_31, e88_34, e88_37, e88_38, e88_39, e88_40, e88_41, e88_44, e88_45, e88_46, e88_49, e88_50, am_bd_some, Option.toList_some, Option.toList_none, List.cons_append, List.nil_append, am_w8_0, am_w8_1, am_w8_2, am_w8_3, am_w8_4, eq_self, or_true, true_or, am_kd_sI, am_kd_sL, am_kd_sR, am_tc_sI, am_tc_sL, am_tc_sR, am_len_sI, am_len_sL, am_len_sR, am_rfs, if_true, if_false, am_rdL_sI, am_rR_sL, am_rt_cq, am_kd_cq, am_tc_cq, am_len_cq, am_rd_sL, am_rd_sR, am_rdL_sR, k.1, r0, fo.1, e1, c2, dn, m1, m2, u1', db, y]
/-- a whistle: 0 to 3 goings, 4 lie, 5 stand, 6 back -/
def G_wh (f : q_Fl) (g : q_G) (c : Nat) : Option q_G := if c < 4 then G_dg f g c else if c = 6 then some (G_sback g (!G_back g)) else if G_lies g = decide (c = 4) then none else some (G_slies g (decide (c = 4)))
def G_ob (f : q_Fl) (g : q_G) (c : Nat) : Option q_G := match G_wh f g c with
  | none => none
  | some g' => some (G_tick (G_all f (F_n f) 0 g'))
theorem G_wh_in {f : q_Fl} {g g' : q_G} {c : Nat} (wf : F_wf f) (i : G_in f g) (h : G_wh f g c = some g') : G_in f g' := by
  unfold G_wh at h
  split at h
  · exact G_dg_in wf i h
  · split at h
    · obtain rfl := Option.some.inj h
      exact i
    · split at h
      · cases h
      · obtain rfl := Option.some.inj h
        exact i
theorem G_ob_in {f : q_Fl} {g g' : q_G} {c : Nat} (wf : F_wf f) (i : G_in f g) (h : G_ob f g c = some g') : G_in f g' := by
  unfold G_ob at h
  split at h
  · cases h
  · rename_i u hu
    obtain rfl := Option.some.inj h
    exact G_all_in wf (F_n f) 0 u (by omega) (G_wh_in wf i hu)
theorem q_ob_t (h : am_H) (q o : Nat) (f : q_Fl) (g : q_G) (cg : q_cg h q o f g) (wf : F_wf f) (i : G_in f g) (w : Int32) (z : Option Value) : ∃ h' : am_H, q_ff q h h' ∧ q_cg h' q o f (G_tick (G_all f (F_n f) 0 g)) ∧ am_ev 108 66 [some (.ref q), some (.int w), z] [] h = some (some (.int 1), h') := by
  obtain ⟨h1, f1, g1, s1⟩ := den_allGo q o f wf g h cg i
  have k := cg.1.1
  have k' := g1.1.1
  have e6 := g1.2.2.1.2.2.2.2
  refine ⟨am_sI h1 q 6 (nI (G_min (G_all f (F_n f) 0 g) + 1)), f1.tr (q_ff_fld q 6 _ h1), q_cg_tick g1, ?_⟩
  simp only [e108_0, e108_1, e108_2, e108_5, e108_6, e108_7, e108_10, e108_13, e108_14, e108_15, e108_16, e108_18, e108_21, e108_22, e108_23, e108_26, e108_29, e108_30, e108_33, e108_34, e108_37, e108_40, e108_41, e108_42, e108_45, e108_46, e108_49, e108_50, e108_51, e108_52, e108_55, e108_56, e108_59, e108_60, e108_61, e108_62, e108_63, e108_66, e108_67, e108_70, e108_71, e108_72, e108_72i, e108_73, e108_76, e108_77, e108_78, e108_81, e108_82, am_bd_some, Option.toList_some, Option.toList_none, List.cons_append, List.nil_append, am_w8_0, am_w8_1, am_w8_2, am_w8_3, am_w8_4, eq_self, or_true, true_or, am_kd_sI, am_kd_sL, am_kd_sR, am_tc_sI, am_tc_sL, am_tc_sR, am_len_sI, am_len_sL, am_len_sR, am_rfs, if_true, if_false, am_rdL_sI, am_rR_sL, am_rt_cq, am_kd_cq, am_tc_cq, am_len_cq, am_rd_sL, am_rd_sR, am_rdL_sR, k.1, s1, k'.1, e6, nI_1]
theorem den_obeys (h : am_H) (q o : Nat) (f : q_Fl) (g : q_G) (cg : q_cg h q o f g) (wf : F_wf f) (i : G_in f g) (c : Nat) (hc : c < 7) : (G_ob f g c = none → am_den 108 [.ref q, .int (nI c)] h = some (some (.int 0), h)) ∧ ∀ g', G_ob f g c = some g' → ∃ h' : am_H, q_ff q h h' ∧ q_cg h' q o f g' ∧ am_den 108 [.ref q, .int (nI c)] h = some (some (.int 1), h') := by
  have sh : am_den 108 [.ref q, .int (nI c)] h = am_ev 108 0 [some (.ref q), some (.int (nI c)), none] [] h := rfl
  rw [sh]
  have k := cg.1.1
  have e4 := cg.2.2.1.2.2.1
  have e5 := cg.2.2.1.2.2.2.1
  have c4 : (4 : Int32) ≤ nI c ↔ 4 ≤ c := nI_leI (a := 4) (by decide) (by omega)
  have c6 : nI c = 6 ↔ c = 6 := nI_eq (b := 6) (by omega) (by decide)
  have c44 : nI c = 4 ↔ c = 4 := nI_eq (b := 4) (by omega) (by decide)
  unfold G_ob G_wh
  by_cases m : c < 4
  · have m' : ¬ (4 : Int32) ≤ nI c := fun w => by have := c4.mp w; omega
    obtain ⟨d1, d2⟩ := den_cdg h q o f g cg wf i c m
    rw [if_pos m]
    cases hg : G_dg f g c with
    | none =>
      have d := d1 hg
      refine ⟨fun _ => ?_, fun g' w => by cases w⟩
      simp only [e108_0, e108_1, e108_2, e108_5, e108_6, e108_7, e108_10, e108_13, e108_14, e108_15, e108_16, e108_18, e108_21, e108_22, e108_23, e108_26, e108_29, e108_30, e108_33, e108_34, e108_37, e108_40, e108_41, e108_42, e108_45, e108_46, e108_49, e108_50, e108_51, e108_52, e108_55, e108_56, e108_59, e108_60, e108_61, e108_62, e108_63, e108_66, e108_67, e108_70, e108_71, e108_72, e108_72i, e108_73, e108_76, e108_77, e108_78, e108_81, e108_82, am_bd_some, Option.toList_some, Option.toList_none, List.cons_append, List.nil_append, am_w8_0, am_w8_1, am_w8_2, am_w8_3, am_w8_4, eq_self, or_true, true_or, am_kd_sI, am_kd_sL, am_kd_sR, am_tc_sI, am_tc_sL, am_tc_sR, am_len_sI, am_len_sL, am_len_sR, am_rfs, if_true, if_false, am_rdL_sI, am_rR_sL, am_rt_cq, am_kd_cq, am_tc_cq, am_len_cq, am_rd_sL, am_rd_sR, am_rdL_sR, m', k.1, d, not_true]
    | some u =>
      obtain ⟨h1, f1, g1, s1⟩ := d2 u hg
      obtain ⟨h2, f2, g2, s2⟩ := q_ob_t h1 q o f u g1 wf (G_dg_in wf i hg) (nI c) none
      refine ⟨fun w => (by cases w), fun g' w => ?_⟩
      obtain rfl := Option.some.inj w
      refine ⟨h2, f1.tr f2, g2, ?_⟩
      have y : ¬ (1 : Int32) = 0 := by decide
      simp only [e108_0, e108_1, e108_2, e108_5, e108_6, e108_7, e108_10, e108_13, e108_14, e108_15, e108_16, e108_18, e108_21, e108_22, e108_23, e108_26, e108_29, e108_30, e108_33, e108_34, e108_37, e108_40, e108_41, e108_42, e108_45, e108_46, e108_49, e108_50, e108_51, e108_52, e108_55, e108_56, e108_59, e108_60, e108_61, e108_62, e108_63, e108_67, e108_70, e108_71, e108_72, e108_72i, e108_73, e108_76, e108_77, e108_78, e108_81, e108_82, am_bd_some, Option.toList_some, Option.toList_none, List.cons_append, List.nil_append, am_w8_0, am_w8_1, am_w8_2, am_w8_3, am_w8_4, eq_self, or_true, true_or, am_kd_sI, am_kd_sL, am_kd_sR, am_tc_sI, am_tc_sL, am_tc_sR, am_len_sI, am_len_sL, am_len_sR, am_rfs, if_true, if_false, am_rdL_sI, am_rR_sL, am_rt_cq, am_kd_cq, am_tc_cq, am_len_cq, am_rd_sL, am_rd_sR, am_rdL_sR, m', k.1, s1, y, not_false_eq_true]
      exact s2
  · have m' : (4 : Int32) ≤ nI c := c4.mpr (by omega)
    rw [if_neg m]
    by_cases n6 : c = 6
    · rw [if_pos n6]
      have n6' := c6.mpr n6
      refine ⟨fun w => (by cases w), fun g' w => ?_⟩
      obtain rfl := Option.some.inj w
      obtain ⟨h2, f2, g2, s2⟩ := q_ob_t (am_sI h q 5 (q_bi (!G_back g))) q o f (G_sback g (!G_back g)) (q_cg_back cg _) wf i (nI c) none
      refine ⟨h2, (q_ff_fld q 5 _ h).tr f2, g2, ?_⟩
      cases hb : G_back g with
      | true =>
        rw [hb] at s2 e5
        have y : ¬ q_bi true = 0 := by decide
        have y2 : q_bi (!true) = 0 := rfl
        rw [y2] at s2
        simp only [e108_0, e108_1, e108_2, e108_5, e108_6, e108_7, e108_10, e108_13, e108_14, e108_15, e108_16, e108_18, e108_21, e108_22, e108_23, e108_26, e108_29, e108_30, e108_33, e108_34, e108_37, e108_40, e108_41, e108_42, e108_45, e108_46, e108_49, e108_50, e108_51, e108_52, e108_55, e108_56, e108_59, e108_60, e108_61, e108_62, e108_63, e108_67, e108_70, e108_71, e108_72, e108_72i, e108_73, e108_76, e108_77, e108_78, e108_81, e108_82, am_bd_some, Option.toList_some, Option.toList_none, List.cons_append, List.nil_append, am_w8_0, am_w8_1, am_w8_2, am_w8_3, am_w8_4, eq_self, or_true, true_or, am_kd_sI, am_kd_sL, am_kd_sR, am_tc_sI, am_tc_sL, am_tc_sR, am_len_sI, am_len_sL, am_len_sR, am_rfs, if_true, if_false, am_rdL_sI, am_rR_sL, am_rt_cq, am_kd_cq, am_tc_cq, am_len_cq, am_rd_sL, am_rd_sR, am_rdL_sR, m', eq_true n6', not_true, k.1, e5, y, not_false_eq_true]
        exact s2
      | false =>
        rw [hb] at s2 e5
        have y : q_bi false = 0 := rfl
        have y2 : q_bi (!false) = 1 := rfl
        rw [y2] at s2
        simp only [e108_0, e108_1, e108_2, e108_5, e108_6, e108_7, e108_10, e108_13, e108_14, e108_15, e108_16, e108_18, e108_21, e108_22, e108_23, e108_26, e108_29, e108_30, e108_33, e108_34, e108_37, e108_40, e108_41, e108_42, e108_45, e108_46, e108_49, e108_50, e108_51, e108_52, e108_55, e108_56, e108_59, e108_60, e108_61, e108_62, e108_63, e108_67, e108_70, e108_71, e108_72, e108_72i, e108_73, e108_76, e108_77, e108_78, e108_81, e108_82, am_bd_some, Option.toList_some, Option.toList_none, List.cons_append, List.nil_append, am_w8_0, am_w8_1, am_w8_2, am_w8_3, am_w8_4, eq_self, or_true, true_or, am_kd_sI, am_kd_sL, am_kd_sR, am_tc_sI, am_tc_sL, am_tc_sR, am_len_sI, am_len_sL, am_len_sR, am_rfs, if_true, if_false, am_rdL_sI, am_rR_sL, am_rt_cq, am_kd_cq, am_tc_cq, am_len_cq, am_rd_sL, am_rd_sR, am_rdL_sR, m', eq_true n6', not_true, k.1, e5, y]
        exact s2
    · have n6' : ¬ nI c = 6 := fun w => n6 (c6.mp w)
      rw [if_neg n6]
      have bi : ∀ a b : Bool, q_bi a = q_bi b ↔ a = b := by decide
      have dn : (if nI c = 4 then (1 : Int32) else 0) = q_bi (decide (c = 4)) := by
        by_cases w : c = 4
        · rw [if_pos (c44.mpr w)]
          simp [w, q_bi]
        · rw [if_neg (fun v => w (c44.mp v))]
          simp [w, q_bi]
      have go : am_ev 108 0 [some (.ref q), some (.int (nI c)), none] [] h = if q_bi (G_lies g) = q_bi (decide (c = 4)) then some (some (.int 0), h) else am_ev 108 66 [some (.ref q), some (.int (nI c)), some (.int (q_bi (decide (c = 4))))] [] (am_sI h q 4 (q_bi (decide (c = 4)))) := by
        by_cases w : c = 4
        · have w' := c44.mpr w
          have y : q_bi (decide (c = 4)) = 1 := by rw [w]; rfl
          rw [y]
          simp only [e108_0, e108_1, e108_2, e108_5, e108_6, e108_7, e108_10, e108_13, e108_14, e108_15, e108_16, e108_18, e108_21, e108_22, e108_23, e108_26, e108_29, e108_30, e108_33, e108_34, e108_37, e108_40, e108_41, e108_42, e108_45, e108_46, e108_49, e108_50, e108_51, e108_52, e108_55, e108_56, e108_59, e108_60, e108_61, e108_62, e108_63, e108_67, e108_70, e108_71, e108_72, e108_72i, e108_73, e108_76, e108_77, e108_78, e108_81, e108_82, am_bd_some, Option.toList_some, Option.toList_none, List.cons_append, List.nil_append, am_w8_0, am_w8_1, am_w8_2, am_w8_3, am_w8_4, eq_self, or_true, true_or, am_kd_sI, am_kd_sL, am_kd_sR, am_tc_sI, am_tc_sL, am_tc_sR, am_len_sI, am_len_sL, am_len_sR, am_rfs, if_true, if_false, am_rdL_sI, am_rR_sL, am_rt_cq, am_kd_cq, am_tc_cq, am_len_cq, am_rd_sL, am_rd_sR, am_rdL_sR, m', n6', not_false_eq_true, eq_true w', not_true, k.1, e4]
          by_cases v : q_bi (G_lies g) = 1
          · rw [if_pos v, if_neg (fun t => t v)]
          · rw [if_neg v, if_pos v]
        · have w' : ¬ nI c = 4 := fun v => w (c44.mp v)
          have y : q_bi (decide (c = 4)) = 0 := by simp [w, q_bi]
          rw [y]
          simp only [e108_0, e108_1, e108_2, e108_5, e108_6, e108_7, e108_10, e108_13, e108_14, e108_15, e108_16, e108_18, e108_21, e108_22, e108_23, e108_26, e108_29, e108_30, e108_33, e108_34, e108_37, e108_40, e108_41, e108_42, e108_45, e108_46, e108_49, e108_50, e108_51, e108_52, e108_55, e108_56, e108_59, e108_60, e108_61, e108_62, e108_63, e108_67, e108_70, e108_71, e108_72, e108_72i, e108_73, e108_76, e108_77, e108_78, e108_81, e108_82, am_bd_some, Option.toList_some, Option.toList_none, List.cons_append, List.nil_append, am_w8_0, am_w8_1, am_w8_2, am_w8_3, am_w8_4, eq_self, or_true, true_or, am_kd_sI, am_kd_sL, am_kd_sR, am_tc_sI, am_tc_sL, am_tc_sR, am_len_sI, am_len_sL, am_len_sR, am_rfs, if_true, if_false, am_rdL_sI, am_rR_sL, am_rt_cq, am_kd_cq, am_tc_cq, am_len_cq, am_rd_sL, am_rd_sR, am_rdL_sR, m', n6', not_false_eq_true, w', k.1, e4]
          by_cases v : q_bi (G_lies g) = 0
          · rw [if_pos v, if_neg (fun t => t v)]
          · rw [if_neg v, if_pos v]
      rw [go]
      by_cases v : G_lies g = decide (c = 4)
      · rw [if_pos v, if_pos ((bi _ _).mpr v)]
        exact ⟨fun _ => rfl, fun g' w => by cases w⟩
      · rw [if_neg v, if_neg (fun w => v ((bi _ _).mp w))]
        refine ⟨fun w => (by cases w), fun g' w => ?_⟩
        obtain rfl := Option.some.inj w
        obtain ⟨h2, f2, g2, s2⟩ := q_ob_t (am_sI h q 4 (q_bi (decide (c = 4)))) q o f (G_slies g (decide (c = 4))) (q_cg_lies cg _) wf i (nI c) (some (.int (q_bi (decide (c = 4)))))
        exact ⟨h2, (q_ff_fld q 4 _ h).tr f2, g2, s2⟩
