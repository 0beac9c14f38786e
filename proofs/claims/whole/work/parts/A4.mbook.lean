/-! part A4: the reference reads a line of a book (by wip/whole/genA4.py) -/
theorem e190_0 {ls : List (Option Value)} {st : List Value} {h : am_H} {l0 : Option Value} {a : Int64} : am_ev 190 0 (l0 :: some (.long a) :: some (.retAddr 0) :: ls) (st) h = am_ev 190 1 (l0 :: some (.long a) :: some (.retAddr 0) :: ls) (.long a :: st) h := am_ev_step (q := (1, l0 :: some (.long a) :: some (.retAddr 0) :: ls, .long a :: st, h)) _ (.lload_n 1) 1 am_my_190 (by decide +kernel) rfl
theorem e190_1 {ls : List (Option Value)} {st : List Value} {h : am_H} : am_ev 190 1 ls st h = am_ev 190 4 ls (.long (6582119) :: st) h := am_u_ldc2 (idx := 196) am_my_190 (by decide +kernel) (by decide +kernel)
theorem e190_4 {ls : List (Option Value)} {st : List Value} {h : am_H} {a b : Int64} : am_ev 190 4 (ls) (.long b :: .long a :: st) h = am_ev 190 5 (ls) (.int (lg_cmp a b) :: st) h := am_ev_step (q := (5, ls, .int (lg_cmp a b) :: st, h)) _ (.lcmp) 1 am_my_190 (by decide +kernel) rfl
theorem e190_5 {ls : List (Option Value)} {st : List Value} {h : am_H} {a : Int32} : am_ev 190 5 ls (.int a :: st) h = if ¬ a = 0 then am_ev 190 12 ls st h else am_ev 190 8 ls st h := am_u_if1 (c := .ne) (off := 7) am_my_190 (by decide +kernel) (by decide)
theorem e190_8 {ls : List (Option Value)} {st : List Value} {h : am_H} : am_ev 190 8 (ls) (st) h = am_ev 190 9 (ls) (.int (0) :: st) h := am_ev_step (q := (9, ls, .int (0) :: st, h)) _ (.iconst (0)) 1 am_my_190 (by decide +kernel) rfl
theorem e190_9 {ls : List (Option Value)} {st : List Value} {h : am_H} : am_ev 190 9 (ls) (st) h = am_ev 190 37 (ls) (st) h := am_ev_step (q := (37, ls, st, h)) _ (.goto (28)) 3 am_my_190 (by decide +kernel) rfl
theorem e190_12 {ls : List (Option Value)} {st : List Value} {h : am_H} {l0 : Option Value} {a : Int64} : am_ev 190 12 (l0 :: some (.long a) :: some (.retAddr 0) :: ls) (st) h = am_ev 190 13 (l0 :: some (.long a) :: some (.retAddr 0) :: ls) (.long a :: st) h := am_ev_step (q := (13, l0 :: some (.long a) :: some (.retAddr 0) :: ls, .long a :: st, h)) _ (.lload_n 1) 1 am_my_190 (by decide +kernel) rfl
theorem e190_13 {ls : List (Option Value)} {st : List Value} {h : am_H} : am_ev 190 13 ls st h = am_ev 190 16 ls (.long (27691691706247534) :: st) h := am_u_ldc2 (idx := 216) am_my_190 (by decide +kernel) (by decide +kernel)
theorem e190_16 {ls : List (Option Value)} {st : List Value} {h : am_H} {a b : Int64} : am_ev 190 16 (ls) (.long b :: .long a :: st) h = am_ev 190 17 (ls) (.int (lg_cmp a b) :: st) h := am_ev_step (q := (17, ls, .int (lg_cmp a b) :: st, h)) _ (.lcmp) 1 am_my_190 (by decide +kernel) rfl
theorem e190_17 {ls : List (Option Value)} {st : List Value} {h : am_H} {a : Int32} : am_ev 190 17 ls (.int a :: st) h = if ¬ a = 0 then am_ev 190 24 ls st h else am_ev 190 20 ls st h := am_u_if1 (c := .ne) (off := 7) am_my_190 (by decide +kernel) (by decide)
theorem e190_20 {ls : List (Option Value)} {st : List Value} {h : am_H} : am_ev 190 20 (ls) (st) h = am_ev 190 21 (ls) (.int (1) :: st) h := am_ev_step (q := (21, ls, .int (1) :: st, h)) _ (.iconst (1)) 1 am_my_190 (by decide +kernel) rfl
theorem e190_21 {ls : List (Option Value)} {st : List Value} {h : am_H} : am_ev 190 21 (ls) (st) h = am_ev 190 37 (ls) (st) h := am_ev_step (q := (37, ls, st, h)) _ (.goto (16)) 3 am_my_190 (by decide +kernel) rfl
theorem e190_24 {ls : List (Option Value)} {st : List Value} {h : am_H} {l0 : Option Value} {a : Int64} : am_ev 190 24 (l0 :: some (.long a) :: some (.retAddr 0) :: ls) (st) h = am_ev 190 25 (l0 :: some (.long a) :: some (.retAddr 0) :: ls) (.long a :: st) h := am_ev_step (q := (25, l0 :: some (.long a) :: some (.retAddr 0) :: ls, .long a :: st, h)) _ (.lload_n 1) 1 am_my_190 (by decide +kernel) rfl
theorem e190_25 {ls : List (Option Value)} {st : List Value} {h : am_H} : am_ev 190 25 ls st h = am_ev 190 28 ls (.long (439854918756) :: st) h := am_u_ldc2 (idx := 218) am_my_190 (by decide +kernel) (by decide +kernel)
theorem e190_28 {ls : List (Option Value)} {st : List Value} {h : am_H} {a b : Int64} : am_ev 190 28 (ls) (.long b :: .long a :: st) h = am_ev 190 29 (ls) (.int (lg_cmp a b) :: st) h := am_ev_step (q := (29, ls, .int (lg_cmp a b) :: st, h)) _ (.lcmp) 1 am_my_190 (by decide +kernel) rfl
theorem e190_29 {ls : List (Option Value)} {st : List Value} {h : am_H} {a : Int32} : am_ev 190 29 ls (.int a :: st) h = if ¬ a = 0 then am_ev 190 36 ls st h else am_ev 190 32 ls st h := am_u_if1 (c := .ne) (off := 7) am_my_190 (by decide +kernel) (by decide)
theorem e190_32 {ls : List (Option Value)} {st : List Value} {h : am_H} : am_ev 190 32 (ls) (st) h = am_ev 190 33 (ls) (.int (2) :: st) h := am_ev_step (q := (33, ls, .int (2) :: st, h)) _ (.iconst (2)) 1 am_my_190 (by decide +kernel) rfl
theorem e190_33 {ls : List (Option Value)} {st : List Value} {h : am_H} : am_ev 190 33 (ls) (st) h = am_ev 190 37 (ls) (st) h := am_ev_step (q := (37, ls, st, h)) _ (.goto (4)) 3 am_my_190 (by decide +kernel) rfl
theorem e190_36 {ls : List (Option Value)} {st : List Value} {h : am_H} : am_ev 190 36 (ls) (st) h = am_ev 190 37 (ls) (.int (-1) :: st) h := am_ev_step (q := (37, ls, .int (-1) :: st, h)) _ (.iconst (-1)) 1 am_my_190 (by decide +kernel) rfl
theorem e190_37 {ls : List (Option Value)} {st : List Value} {h : am_H} {l0 l1 l2 l3 : Option Value} {z : Option Value} {a : Int32} : am_ev 190 37 (l0 :: l1 :: l2 :: l3 :: z :: ls) (.int a :: st) h = am_ev 190 39 (l0 :: l1 :: l2 :: l3 :: some (.int a) :: ls) (st) h := am_ev_step (q := (39, l0 :: l1 :: l2 :: l3 :: some (.int a) :: ls, st, h)) _ (.istore 4) 2 am_my_190 (by decide +kernel) rfl
theorem e190_39 {ls : List (Option Value)} {st : List Value} {h : am_H} {l0 l1 l2 l3 : Option Value} {a : Int32} : am_ev 190 39 (l0 :: l1 :: l2 :: l3 :: some (.int a) :: ls) (st) h = am_ev 190 41 (l0 :: l1 :: l2 :: l3 :: some (.int a) :: ls) (.int a :: st) h := am_ev_step (q := (41, l0 :: l1 :: l2 :: l3 :: some (.int a) :: ls, .int a :: st, h)) _ (.iload 4) 2 am_my_190 (by decide +kernel) rfl
theorem e190_41 {ls : List (Option Value)} {st : List Value} {h : am_H} : am_ev 190 41 (ls) (st) h = am_ev 190 42 (ls) (.int (-1) :: st) h := am_ev_step (q := (42, ls, .int (-1) :: st, h)) _ (.iconst (-1)) 1 am_my_190 (by decide +kernel) rfl
theorem e190_42 {ls : List (Option Value)} {st : List Value} {h : am_H} {a b : Int32} : am_ev 190 42 ls (.int b :: .int a :: st) h = if ¬ a = b then am_ev 190 50 ls st h else am_ev 190 45 ls st h := am_u_if2 (c := .ne) (off := 8) am_my_190 (by decide +kernel) (by decide)
theorem e190_45 {ls : List (Option Value)} {st : List Value} {h : am_H} {a : Nat} : am_ev 190 45 (some (.ref a) :: ls) (st) h = am_ev 190 46 (some (.ref a) :: ls) (.ref a :: st) h := am_ev_step (q := (46, some (.ref a) :: ls, .ref a :: st, h)) _ (.aload_n 0) 1 am_my_190 (by decide +kernel) rfl
theorem e190_46 {ls : List (Option Value)} {st : List Value} {h : am_H}  {o : Nat} (hw : am_w8 st ≤ 8) (hk : am_kd h o = some (.inl 11)) : am_ev 190 46 ls (.ref o :: st) h = am_bd (am_den 179 [.ref o] h) (fun v h1 => am_ev 190 49 ls (v.toList ++ st) h1) := am_u_cV (idx := 139) (wn := 6135) (as := []) am_my_190 (by decide +kernel) (Or.inl (by decide +kernel)) am_my_179 (by decide +kernel) rfl ⟨Nat.le_of_ble_eq_true rfl, rfl⟩ (by decide +kernel) hw hk
theorem e190_49 {ls : List (Option Value)} {h : am_H} {v : Int32} (hv : v = 0 ∨ v = 1) : am_ev 190 49 ls [.int v] h = some (some (.int v), h) := am_u_rtZ am_my_190 (by decide +kernel) rfl hv
theorem e190_50 {ls : List (Option Value)} {st : List Value} {h : am_H} {l0 l1 l2 l3 : Option Value} {a : Int32} : am_ev 190 50 (l0 :: l1 :: l2 :: l3 :: some (.int a) :: ls) (st) h = am_ev 190 52 (l0 :: l1 :: l2 :: l3 :: some (.int a) :: ls) (.int a :: st) h := am_ev_step (q := (52, l0 :: l1 :: l2 :: l3 :: some (.int a) :: ls, .int a :: st, h)) _ (.iload 4) 2 am_my_190 (by decide +kernel) rfl
theorem e190_52 {ls : List (Option Value)} {st : List Value} {h : am_H} {a : Int32} : am_ev 190 52 ls (.int a :: st) h = if ¬ a = 0 then am_ev 190 59 ls st h else am_ev 190 55 ls st h := am_u_if1 (c := .ne) (off := 7) am_my_190 (by decide +kernel) (by decide)
theorem e190_55 {ls : List (Option Value)} {st : List Value} {h : am_H} : am_ev 190 55 (ls) (st) h = am_ev 190 56 (ls) (.int (5) :: st) h := am_ev_step (q := (56, ls, .int (5) :: st, h)) _ (.iconst (5)) 1 am_my_190 (by decide +kernel) rfl
theorem e190_56 {ls : List (Option Value)} {st : List Value} {h : am_H} : am_ev 190 56 (ls) (st) h = am_ev 190 72 (ls) (st) h := am_ev_step (q := (72, ls, st, h)) _ (.goto (16)) 3 am_my_190 (by decide +kernel) rfl
theorem e190_59 {ls : List (Option Value)} {st : List Value} {h : am_H} {l0 l1 l2 l3 : Option Value} {a : Int32} : am_ev 190 59 (l0 :: l1 :: l2 :: l3 :: some (.int a) :: ls) (st) h = am_ev 190 61 (l0 :: l1 :: l2 :: l3 :: some (.int a) :: ls) (.int a :: st) h := am_ev_step (q := (61, l0 :: l1 :: l2 :: l3 :: some (.int a) :: ls, .int a :: st, h)) _ (.iload 4) 2 am_my_190 (by decide +kernel) rfl
theorem e190_61 {ls : List (Option Value)} {st : List Value} {h : am_H} : am_ev 190 61 (ls) (st) h = am_ev 190 62 (ls) (.int (1) :: st) h := am_ev_step (q := (62, ls, .int (1) :: st, h)) _ (.iconst (1)) 1 am_my_190 (by decide +kernel) rfl
theorem e190_62 {ls : List (Option Value)} {st : List Value} {h : am_H} {a b : Int32} : am_ev 190 62 ls (.int b :: .int a :: st) h = if ¬ a = b then am_ev 190 70 ls st h else am_ev 190 65 ls st h := am_u_if2 (c := .ne) (off := 8) am_my_190 (by decide +kernel) (by decide)
theorem e190_65 {ls : List (Option Value)} {st : List Value} {h : am_H} : am_ev 190 65 (ls) (st) h = am_ev 190 67 (ls) (.int (8) :: st) h := am_ev_step (q := (67, ls, .int (8) :: st, h)) _ (.bipush (8)) 2 am_my_190 (by decide +kernel) rfl
theorem e190_67 {ls : List (Option Value)} {st : List Value} {h : am_H} : am_ev 190 67 (ls) (st) h = am_ev 190 72 (ls) (st) h := am_ev_step (q := (72, ls, st, h)) _ (.goto (5)) 3 am_my_190 (by decide +kernel) rfl
theorem e190_70 {ls : List (Option Value)} {st : List Value} {h : am_H} : am_ev 190 70 (ls) (st) h = am_ev 190 72 (ls) (.int (10) :: st) h := am_ev_step (q := (72, ls, .int (10) :: st, h)) _ (.bipush (10)) 2 am_my_190 (by decide +kernel) rfl
theorem e190_72 {ls : List (Option Value)} {st : List Value} {h : am_H} {l0 l1 l2 l3 l4 : Option Value} {z : Option Value} {a : Int32} : am_ev 190 72 (l0 :: l1 :: l2 :: l3 :: l4 :: z :: ls) (.int a :: st) h = am_ev 190 74 (l0 :: l1 :: l2 :: l3 :: l4 :: some (.int a) :: ls) (st) h := am_ev_step (q := (74, l0 :: l1 :: l2 :: l3 :: l4 :: some (.int a) :: ls, st, h)) _ (.istore 5) 2 am_my_190 (by decide +kernel) rfl
theorem e190_74 {ls : List (Option Value)} {st : List Value} {h : am_H} {a : Nat} : am_ev 190 74 (some (.ref a) :: ls) (st) h = am_ev 190 75 (some (.ref a) :: ls) (.ref a :: st) h := am_ev_step (q := (75, some (.ref a) :: ls, .ref a :: st, h)) _ (.aload_n 0) 1 am_my_190 (by decide +kernel) rfl
theorem e190_75 {ls : List (Option Value)} {st : List Value} {h : am_H} {l0 l1 l2 l3 : Option Value} {a : Int32} : am_ev 190 75 (l0 :: l1 :: l2 :: l3 :: some (.int a) :: ls) (st) h = am_ev 190 77 (l0 :: l1 :: l2 :: l3 :: some (.int a) :: ls) (.int a :: st) h := am_ev_step (q := (77, l0 :: l1 :: l2 :: l3 :: some (.int a) :: ls, .int a :: st, h)) _ (.iload 4) 2 am_my_190 (by decide +kernel) rfl
theorem e190_77 {ls : List (Option Value)} {st : List Value} {h : am_H} {l0 l1 l2 l3 l4 : Option Value} {a : Int32} : am_ev 190 77 (l0 :: l1 :: l2 :: l3 :: l4 :: some (.int a) :: ls) (st) h = am_ev 190 79 (l0 :: l1 :: l2 :: l3 :: l4 :: some (.int a) :: ls) (.int a :: st) h := am_ev_step (q := (79, l0 :: l1 :: l2 :: l3 :: l4 :: some (.int a) :: ls, .int a :: st, h)) _ (.iload 5) 2 am_my_190 (by decide +kernel) rfl
theorem e190_79 {ls : List (Option Value)} {st : List Value} {h : am_H} {l0 l1 l2 : Option Value} {a : Int32} : am_ev 190 79 (l0 :: l1 :: l2 :: some (.int a) :: ls) (st) h = am_ev 190 80 (l0 :: l1 :: l2 :: some (.int a) :: ls) (.int a :: st) h := am_ev_step (q := (80, l0 :: l1 :: l2 :: some (.int a) :: ls, .int a :: st, h)) _ (.iload_n 3) 1 am_my_190 (by decide +kernel) rfl
theorem e190_80 {ls : List (Option Value)} {st : List Value} {h : am_H} {p0 : Int32} {p1 : Int32} {p2 : Int32} {o : Nat} (hw : am_w8 st ≤ 8) (hk : am_kd h o = some (.inl 11)) : am_ev 190 80 ls (.int p2 :: .int p1 :: .int p0 :: .ref o :: st) h = am_bd (am_den 180 [.ref o, .int p0, .int p1, .int p2] h) (fun v h1 => am_ev 190 83 ls (v.toList ++ st) h1) := am_u_cV (idx := 198) (wn := 6139) (as := [.int p0, .int p1, .int p2]) am_my_190 (by decide +kernel) (Or.inl (by decide +kernel)) am_my_180 (by decide +kernel) rfl ⟨Nat.le_of_ble_eq_true rfl, rfl⟩ (by decide +kernel) hw hk
theorem e190_83 {ls : List (Option Value)} {st : List Value} {h : am_H} {a : Nat} : am_ev 190 83 (some (.ref a) :: ls) (st) h = am_ev 190 84 (some (.ref a) :: ls) (.ref a :: st) h := am_ev_step (q := (84, some (.ref a) :: ls, .ref a :: st, h)) _ (.aload_n 0) 1 am_my_190 (by decide +kernel) rfl
theorem e190_84 {ls : List (Option Value)} {st : List Value} {h : am_H}  {o : Nat} (hw : am_w8 st ≤ 8) (hk : am_kd h o = some (.inl 11)) : am_ev 190 84 ls (.ref o :: st) h = am_bd (am_den 173 [.ref o] h) (fun v h1 => am_ev 190 87 ls (v.toList ++ st) h1) := am_u_cV (idx := 151) (wn := 6104) (as := []) am_my_190 (by decide +kernel) (Or.inl (by decide +kernel)) am_my_173 (by decide +kernel) rfl ⟨Nat.le_of_ble_eq_true rfl, rfl⟩ (by decide +kernel) hw hk
theorem e190_87 {ls : List (Option Value)} {st : List Value} {h : am_H} {l0 l1 l2 l3 : Option Value} {a : Int32} : am_ev 190 87 (l0 :: l1 :: l2 :: l3 :: some (.int a) :: ls) (st) h = am_ev 190 89 (l0 :: l1 :: l2 :: l3 :: some (.int a) :: ls) (.int a :: st) h := am_ev_step (q := (89, l0 :: l1 :: l2 :: l3 :: some (.int a) :: ls, .int a :: st, h)) _ (.iload 4) 2 am_my_190 (by decide +kernel) rfl
theorem e190_89 {ls : List (Option Value)} {st : List Value} {h : am_H} : am_ev 190 89 (ls) (st) h = am_ev 190 90 (ls) (.int (2) :: st) h := am_ev_step (q := (90, ls, .int (2) :: st, h)) _ (.iconst (2)) 1 am_my_190 (by decide +kernel) rfl
theorem e190_90 {ls : List (Option Value)} {st : List Value} {h : am_H} {a b : Int32} : am_ev 190 90 ls (.int b :: .int a :: st) h = if ¬ a = b then am_ev 190 107 ls st h else am_ev 190 93 ls st h := am_u_if2 (c := .ne) (off := 17) am_my_190 (by decide +kernel) (by decide)
theorem e190_93 {ls : List (Option Value)} {st : List Value} {h : am_H} {a : Nat} : am_ev 190 93 (some (.ref a) :: ls) (st) h = am_ev 190 94 (some (.ref a) :: ls) (.ref a :: st) h := am_ev_step (q := (94, some (.ref a) :: ls, .ref a :: st, h)) _ (.aload_n 0) 1 am_my_190 (by decide +kernel) rfl
theorem e190_94 {ls : List (Option Value)} {st : List Value} {h : am_H} : am_ev 190 94 (ls) (st) h = am_ev 190 95 (ls) (.int (0) :: st) h := am_ev_step (q := (95, ls, .int (0) :: st, h)) _ (.iconst (0)) 1 am_my_190 (by decide +kernel) rfl
theorem e190_95 {ls : List (Option Value)} {st : List Value} {h : am_H} : am_ev 190 95 (ls) (st) h = am_ev 190 96 (ls) (.int (0) :: st) h := am_ev_step (q := (96, ls, .int (0) :: st, h)) _ (.iconst (0)) 1 am_my_190 (by decide +kernel) rfl
theorem e190_96 {ls : List (Option Value)} {st : List Value} {h : am_H} : am_ev 190 96 (ls) (st) h = am_ev 190 98 (ls) (.int (99) :: st) h := am_ev_step (q := (98, ls, .int (99) :: st, h)) _ (.bipush (99)) 2 am_my_190 (by decide +kernel) rfl
theorem e190_98 {ls : List (Option Value)} {st : List Value} {h : am_H} {p0 : Int32} {p1 : Int32} {p2 : Int32} {o : Nat} (hw : am_w8 st ≤ 8) (hk : am_kd h o = some (.inl 11)) : am_ev 190 98 ls (.int p2 :: .int p1 :: .int p0 :: .ref o :: st) h = am_bd (am_den 185 [.ref o, .int p0, .int p1, .int p2] h) (fun v h1 => am_ev 190 101 ls (v.toList ++ st) h1) := am_u_cV (idx := 158) (wn := 6159) (as := [.int p0, .int p1, .int p2]) am_my_190 (by decide +kernel) (Or.inl (by decide +kernel)) am_my_185 (by decide +kernel) rfl ⟨Nat.le_of_ble_eq_true rfl, rfl⟩ (by decide +kernel) hw hk
theorem e190_101 {ls : List (Option Value)} {st : List Value} {h : am_H} {a : Int32} : am_ev 190 101 ls (.int a :: st) h = if ¬ a = 0 then am_ev 190 140 ls st h else am_ev 190 104 ls st h := am_u_if1 (c := .ne) (off := 39) am_my_190 (by decide +kernel) (by decide)
theorem e190_104 {ls : List (Option Value)} {st : List Value} {h : am_H} : am_ev 190 104 (ls) (st) h = am_ev 190 138 (ls) (st) h := am_ev_step (q := (138, ls, st, h)) _ (.goto (34)) 3 am_my_190 (by decide +kernel) rfl
theorem e190_107 {ls : List (Option Value)} {st : List Value} {h : am_H} {a : Nat} : am_ev 190 107 (some (.ref a) :: ls) (st) h = am_ev 190 108 (some (.ref a) :: ls) (.ref a :: st) h := am_ev_step (q := (108, some (.ref a) :: ls, .ref a :: st, h)) _ (.aload_n 0) 1 am_my_190 (by decide +kernel) rfl
theorem e190_108 {ls : List (Option Value)} {st : List Value} {h : am_H} : am_ev 190 108 (ls) (st) h = am_ev 190 109 (ls) (.int (0) :: st) h := am_ev_step (q := (109, ls, .int (0) :: st, h)) _ (.iconst (0)) 1 am_my_190 (by decide +kernel) rfl
theorem e190_109 {ls : List (Option Value)} {st : List Value} {h : am_H} : am_ev 190 109 (ls) (st) h = am_ev 190 110 (ls) (.int (1) :: st) h := am_ev_step (q := (110, ls, .int (1) :: st, h)) _ (.iconst (1)) 1 am_my_190 (by decide +kernel) rfl
theorem e190_110 {ls : List (Option Value)} {st : List Value} {h : am_H} : am_ev 190 110 (ls) (st) h = am_ev 190 112 (ls) (.int (9) :: st) h := am_ev_step (q := (112, ls, .int (9) :: st, h)) _ (.bipush (9)) 2 am_my_190 (by decide +kernel) rfl
theorem e190_112 {ls : List (Option Value)} {st : List Value} {h : am_H} {p0 : Int32} {p1 : Int32} {p2 : Int32} {o : Nat} (hw : am_w8 st ≤ 8) (hk : am_kd h o = some (.inl 11)) : am_ev 190 112 ls (.int p2 :: .int p1 :: .int p0 :: .ref o :: st) h = am_bd (am_den 185 [.ref o, .int p0, .int p1, .int p2] h) (fun v h1 => am_ev 190 115 ls (v.toList ++ st) h1) := am_u_cV (idx := 158) (wn := 6159) (as := [.int p0, .int p1, .int p2]) am_my_190 (by decide +kernel) (Or.inl (by decide +kernel)) am_my_185 (by decide +kernel) rfl ⟨Nat.le_of_ble_eq_true rfl, rfl⟩ (by decide +kernel) hw hk
theorem e190_115 {ls : List (Option Value)} {st : List Value} {h : am_H} {a : Int32} : am_ev 190 115 ls (.int a :: st) h = if a = 0 then am_ev 190 138 ls st h else am_ev 190 118 ls st h := am_u_if1 (c := .eq) (off := 23) am_my_190 (by decide +kernel) (by decide)
theorem e190_118 {ls : List (Option Value)} {st : List Value} {h : am_H} {a : Nat} : am_ev 190 118 (some (.ref a) :: ls) (st) h = am_ev 190 119 (some (.ref a) :: ls) (.ref a :: st) h := am_ev_step (q := (119, some (.ref a) :: ls, .ref a :: st, h)) _ (.aload_n 0) 1 am_my_190 (by decide +kernel) rfl
theorem e190_119 {ls : List (Option Value)} {st : List Value} {h : am_H} : am_ev 190 119 (ls) (st) h = am_ev 190 120 (ls) (.int (1) :: st) h := am_ev_step (q := (120, ls, .int (1) :: st, h)) _ (.iconst (1)) 1 am_my_190 (by decide +kernel) rfl
theorem e190_120 {ls : List (Option Value)} {st : List Value} {h : am_H} : am_ev 190 120 (ls) (st) h = am_ev 190 121 (ls) (.int (0) :: st) h := am_ev_step (q := (121, ls, .int (0) :: st, h)) _ (.iconst (0)) 1 am_my_190 (by decide +kernel) rfl
theorem e190_121 {ls : List (Option Value)} {st : List Value} {h : am_H} {l0 l1 l2 l3 : Option Value} {a : Int32} : am_ev 190 121 (l0 :: l1 :: l2 :: l3 :: some (.int a) :: ls) (st) h = am_ev 190 123 (l0 :: l1 :: l2 :: l3 :: some (.int a) :: ls) (.int a :: st) h := am_ev_step (q := (123, l0 :: l1 :: l2 :: l3 :: some (.int a) :: ls, .int a :: st, h)) _ (.iload 4) 2 am_my_190 (by decide +kernel) rfl
theorem e190_123 {ls : List (Option Value)} {st : List Value} {h : am_H} {a : Int32} : am_ev 190 123 ls (.int a :: st) h = if ¬ a = 0 then am_ev 190 130 ls st h else am_ev 190 126 ls st h := am_u_if1 (c := .ne) (off := 7) am_my_190 (by decide +kernel) (by decide)
theorem e190_126 {ls : List (Option Value)} {st : List Value} {h : am_H} : am_ev 190 126 (ls) (st) h = am_ev 190 127 (ls) (.int (3) :: st) h := am_ev_step (q := (127, ls, .int (3) :: st, h)) _ (.iconst (3)) 1 am_my_190 (by decide +kernel) rfl
theorem e190_127 {ls : List (Option Value)} {st : List Value} {h : am_H} : am_ev 190 127 (ls) (st) h = am_ev 190 132 (ls) (st) h := am_ev_step (q := (132, ls, st, h)) _ (.goto (5)) 3 am_my_190 (by decide +kernel) rfl
theorem e190_130 {ls : List (Option Value)} {st : List Value} {h : am_H} : am_ev 190 130 (ls) (st) h = am_ev 190 132 (ls) (.int (99) :: st) h := am_ev_step (q := (132, ls, .int (99) :: st, h)) _ (.bipush (99)) 2 am_my_190 (by decide +kernel) rfl
theorem e190_132 {ls : List (Option Value)} {st : List Value} {h : am_H} {p0 : Int32} {p1 : Int32} {p2 : Int32} {o : Nat} (hw : am_w8 st ≤ 8) (hk : am_kd h o = some (.inl 11)) : am_ev 190 132 ls (.int p2 :: .int p1 :: .int p0 :: .ref o :: st) h = am_bd (am_den 185 [.ref o, .int p0, .int p1, .int p2] h) (fun v h1 => am_ev 190 135 ls (v.toList ++ st) h1) := am_u_cV (idx := 158) (wn := 6159) (as := [.int p0, .int p1, .int p2]) am_my_190 (by decide +kernel) (Or.inl (by decide +kernel)) am_my_185 (by decide +kernel) rfl ⟨Nat.le_of_ble_eq_true rfl, rfl⟩ (by decide +kernel) hw hk
theorem e190_135 {ls : List (Option Value)} {st : List Value} {h : am_H} {a : Int32} : am_ev 190 135 ls (.int a :: st) h = if ¬ a = 0 then am_ev 190 140 ls st h else am_ev 190 138 ls st h := am_u_if1 (c := .ne) (off := 5) am_my_190 (by decide +kernel) (by decide)
theorem e190_138 {ls : List (Option Value)} {st : List Value} {h : am_H} : am_ev 190 138 (ls) (st) h = am_ev 190 139 (ls) (.int (0) :: st) h := am_ev_step (q := (139, ls, .int (0) :: st, h)) _ (.iconst (0)) 1 am_my_190 (by decide +kernel) rfl
theorem e190_139 {ls : List (Option Value)} {h : am_H} {v : Int32} (hv : v = 0 ∨ v = 1) : am_ev 190 139 ls [.int v] h = some (some (.int v), h) := am_u_rtZ am_my_190 (by decide +kernel) rfl hv
theorem e190_140 {ls : List (Option Value)} {st : List Value} {h : am_H} {a : Nat} : am_ev 190 140 (some (.ref a) :: ls) (st) h = am_ev 190 141 (some (.ref a) :: ls) (.ref a :: st) h := am_ev_step (q := (141, some (.ref a) :: ls, .ref a :: st, h)) _ (.aload_n 0) 1 am_my_190 (by decide +kernel) rfl
theorem e190_141 {ls : List (Option Value)} {st : List Value} {h : am_H} {o : Nat} (hk : am_kd h o = some (.inl 11)) : am_ev 190 141 ls (.ref o :: st) h = am_ev 190 144 ls (va_rf (h.2.2.1 o 19) :: st) h := am_u_gfR (idx := 38) (wn := 5151) (a := 0) am_my_190 (by decide +kernel) (by decide +kernel) (by decide +kernel) hk
theorem e190_144 {ls : List (Option Value)} {st : List Value} {h : am_H} {l0 l1 l2 l3 : Option Value} {a : Int32} : am_ev 190 144 (l0 :: l1 :: l2 :: l3 :: some (.int a) :: ls) (st) h = am_ev 190 146 (l0 :: l1 :: l2 :: l3 :: some (.int a) :: ls) (.int a :: st) h := am_ev_step (q := (146, l0 :: l1 :: l2 :: l3 :: some (.int a) :: ls, .int a :: st, h)) _ (.iload 4) 2 am_my_190 (by decide +kernel) rfl
theorem e190_146 {ls : List (Option Value)} {st : List Value} {h : am_H} {i : Int32} {a : Nat} (ht : am_tc h a = some 0) : am_ev 190 146 ls (.int i :: .ref a :: st) h = if am_ix i (am_len h a) = true then am_ev 190 147 ls (.int (h.1 a i.toNatClampNeg) :: st) h else none := am_u_rI am_my_190 (by decide +kernel) ht
theorem e190_147 {ls : List (Option Value)} {st : List Value} {h : am_H} {l0 l1 l2 l3 l4 l5 : Option Value} {z : Option Value} {a : Int32} : am_ev 190 147 (l0 :: l1 :: l2 :: l3 :: l4 :: l5 :: z :: ls) (.int a :: st) h = am_ev 190 149 (l0 :: l1 :: l2 :: l3 :: l4 :: l5 :: some (.int a) :: ls) (st) h := am_ev_step (q := (149, l0 :: l1 :: l2 :: l3 :: l4 :: l5 :: some (.int a) :: ls, st, h)) _ (.istore 6) 2 am_my_190 (by decide +kernel) rfl
theorem e190_149 {ls : List (Option Value)} {st : List Value} {h : am_H} {l0 l1 l2 l3 l4 l5 : Option Value} {a : Int32} : am_ev 190 149 (l0 :: l1 :: l2 :: l3 :: l4 :: l5 :: some (.int a) :: ls) (st) h = am_ev 190 151 (l0 :: l1 :: l2 :: l3 :: l4 :: l5 :: some (.int a) :: ls) (.int a :: st) h := am_ev_step (q := (151, l0 :: l1 :: l2 :: l3 :: l4 :: l5 :: some (.int a) :: ls, .int a :: st, h)) _ (.iload 6) 2 am_my_190 (by decide +kernel) rfl
theorem e190_151 {ls : List (Option Value)} {st : List Value} {h : am_H} {l0 l1 l2 l3 l4 : Option Value} {a : Int32} : am_ev 190 151 (l0 :: l1 :: l2 :: l3 :: l4 :: some (.int a) :: ls) (st) h = am_ev 190 153 (l0 :: l1 :: l2 :: l3 :: l4 :: some (.int a) :: ls) (.int a :: st) h := am_ev_step (q := (153, l0 :: l1 :: l2 :: l3 :: l4 :: some (.int a) :: ls, .int a :: st, h)) _ (.iload 5) 2 am_my_190 (by decide +kernel) rfl
theorem e190_153 {ls : List (Option Value)} {st : List Value} {h : am_H} {a b : Int32} : am_ev 190 153 ls (.int b :: .int a :: st) h = if b ≤ a then am_ev 190 235 ls st h else am_ev 190 156 ls st h := am_u_if2 (c := .ge) (off := 82) am_my_190 (by decide +kernel) (by decide)
theorem e190_156 {ls : List (Option Value)} {st : List Value} {h : am_H} {a : Nat} : am_ev 190 156 (some (.ref a) :: ls) (st) h = am_ev 190 157 (some (.ref a) :: ls) (.ref a :: st) h := am_ev_step (q := (157, some (.ref a) :: ls, .ref a :: st, h)) _ (.aload_n 0) 1 am_my_190 (by decide +kernel) rfl
theorem e190_157 {ls : List (Option Value)} {st : List Value} {h : am_H} {o : Nat} (hk : am_kd h o = some (.inl 11)) : am_ev 190 157 ls (.ref o :: st) h = am_ev 190 160 ls (va_rf (h.2.2.1 o 19) :: st) h := am_u_gfR (idx := 38) (wn := 5151) (a := 0) am_my_190 (by decide +kernel) (by decide +kernel) (by decide +kernel) hk
theorem e190_160 {ls : List (Option Value)} {st : List Value} {h : am_H} {l0 l1 l2 l3 : Option Value} {a : Int32} : am_ev 190 160 (l0 :: l1 :: l2 :: l3 :: some (.int a) :: ls) (st) h = am_ev 190 162 (l0 :: l1 :: l2 :: l3 :: some (.int a) :: ls) (.int a :: st) h := am_ev_step (q := (162, l0 :: l1 :: l2 :: l3 :: some (.int a) :: ls, .int a :: st, h)) _ (.iload 4) 2 am_my_190 (by decide +kernel) rfl
theorem e190_162 {ls : List (Option Value)} {st : List Value} {h : am_H} {a : Int32} : am_ev 190 162 ls (.int a :: st) h = if ¬ a = 0 then am_ev 190 169 ls st h else am_ev 190 165 ls st h := am_u_if1 (c := .ne) (off := 7) am_my_190 (by decide +kernel) (by decide)
theorem e190_165 {ls : List (Option Value)} {st : List Value} {h : am_H} : am_ev 190 165 (ls) (st) h = am_ev 190 166 (ls) (.int (3) :: st) h := am_ev_step (q := (166, ls, .int (3) :: st, h)) _ (.iconst (3)) 1 am_my_190 (by decide +kernel) rfl
theorem e190_166 {ls : List (Option Value)} {st : List Value} {h : am_H} : am_ev 190 166 (ls) (st) h = am_ev 190 182 (ls) (st) h := am_ev_step (q := (182, ls, st, h)) _ (.goto (16)) 3 am_my_190 (by decide +kernel) rfl
theorem e190_169 {ls : List (Option Value)} {st : List Value} {h : am_H} {l0 l1 l2 l3 : Option Value} {a : Int32} : am_ev 190 169 (l0 :: l1 :: l2 :: l3 :: some (.int a) :: ls) (st) h = am_ev 190 171 (l0 :: l1 :: l2 :: l3 :: some (.int a) :: ls) (.int a :: st) h := am_ev_step (q := (171, l0 :: l1 :: l2 :: l3 :: some (.int a) :: ls, .int a :: st, h)) _ (.iload 4) 2 am_my_190 (by decide +kernel) rfl
theorem e190_171 {ls : List (Option Value)} {st : List Value} {h : am_H} : am_ev 190 171 (ls) (st) h = am_ev 190 172 (ls) (.int (1) :: st) h := am_ev_step (q := (172, ls, .int (1) :: st, h)) _ (.iconst (1)) 1 am_my_190 (by decide +kernel) rfl
theorem e190_172 {ls : List (Option Value)} {st : List Value} {h : am_H} {a b : Int32} : am_ev 190 172 ls (.int b :: .int a :: st) h = if ¬ a = b then am_ev 190 180 ls st h else am_ev 190 175 ls st h := am_u_if2 (c := .ne) (off := 8) am_my_190 (by decide +kernel) (by decide)
theorem e190_175 {ls : List (Option Value)} {st : List Value} {h : am_H} : am_ev 190 175 (ls) (st) h = am_ev 190 177 (ls) (.int (13) :: st) h := am_ev_step (q := (177, ls, .int (13) :: st, h)) _ (.bipush (13)) 2 am_my_190 (by decide +kernel) rfl
theorem e190_177 {ls : List (Option Value)} {st : List Value} {h : am_H} : am_ev 190 177 (ls) (st) h = am_ev 190 182 (ls) (st) h := am_ev_step (q := (182, ls, st, h)) _ (.goto (5)) 3 am_my_190 (by decide +kernel) rfl
theorem e190_180 {ls : List (Option Value)} {st : List Value} {h : am_H} : am_ev 190 180 (ls) (st) h = am_ev 190 182 (ls) (.int (29) :: st) h := am_ev_step (q := (182, ls, .int (29) :: st, h)) _ (.bipush (29)) 2 am_my_190 (by decide +kernel) rfl
theorem e190_182 {ls : List (Option Value)} {st : List Value} {h : am_H} {l0 l1 l2 l3 l4 l5 : Option Value} {a : Int32} : am_ev 190 182 (l0 :: l1 :: l2 :: l3 :: l4 :: l5 :: some (.int a) :: ls) (st) h = am_ev 190 184 (l0 :: l1 :: l2 :: l3 :: l4 :: l5 :: some (.int a) :: ls) (.int a :: st) h := am_ev_step (q := (184, l0 :: l1 :: l2 :: l3 :: l4 :: l5 :: some (.int a) :: ls, .int a :: st, h)) _ (.iload 6) 2 am_my_190 (by decide +kernel) rfl
theorem e190_184 {ls : List (Option Value)} {st : List Value} {h : am_H} {a b : Int32} : am_ev 190 184 (ls) (.int b :: .int a :: st) h = am_ev 190 185 (ls) (.int (a + b) :: st) h := am_ev_step (q := (185, ls, .int (a + b) :: st, h)) _ (.iadd) 1 am_my_190 (by decide +kernel) rfl
theorem e190_185 {ls : List (Option Value)} {st : List Value} {h : am_H} {a : Nat} : am_ev 190 185 (some (.ref a) :: ls) (st) h = am_ev 190 186 (some (.ref a) :: ls) (.ref a :: st) h := am_ev_step (q := (186, some (.ref a) :: ls, .ref a :: st, h)) _ (.aload_n 0) 1 am_my_190 (by decide +kernel) rfl
theorem e190_186 {ls : List (Option Value)} {st : List Value} {h : am_H} {o : Nat} (hk : am_kd h o = some (.inl 11)) : am_ev 190 186 ls (.ref o :: st) h = am_ev 190 189 ls (va_rf (h.2.2.1 o 20) :: st) h := am_u_gfR (idx := 41) (wn := 5152) (a := 0) am_my_190 (by decide +kernel) (by decide +kernel) (by decide +kernel) hk
theorem e190_189 {ls : List (Option Value)} {st : List Value} {h : am_H} : am_ev 190 189 (ls) (st) h = am_ev 190 190 (ls) (.int (0) :: st) h := am_ev_step (q := (190, ls, .int (0) :: st, h)) _ (.iconst (0)) 1 am_my_190 (by decide +kernel) rfl
theorem e190_190 {ls : List (Option Value)} {st : List Value} {h : am_H} {i : Int32} {a : Nat} (ht : am_tc h a = some 0) : am_ev 190 190 ls (.int i :: .ref a :: st) h = if am_ix i (am_len h a) = true then am_ev 190 191 ls (.int (h.1 a i.toNatClampNeg) :: st) h else none := am_u_rI am_my_190 (by decide +kernel) ht
theorem e190_191 {ls : List (Option Value)} {st : List Value} {h : am_H} {v i : Int32} {a : Nat} (ht : am_tc h a = some 0) : am_ev 190 191 ls (.int v :: .int i :: .ref a :: st) h = if am_ix i (am_len h a) = true then am_ev 190 192 ls st (am_sI h a i.toNatClampNeg v) else none := am_u_wI am_my_190 (by decide +kernel) ht
theorem e190_192 {ls : List (Option Value)} {st : List Value} {h : am_H} {l0 l1 l2 l3 : Option Value} {a : Int32} : am_ev 190 192 (l0 :: l1 :: l2 :: l3 :: some (.int a) :: ls) (st) h = am_ev 190 194 (l0 :: l1 :: l2 :: l3 :: some (.int a) :: ls) (.int a :: st) h := am_ev_step (q := (194, l0 :: l1 :: l2 :: l3 :: some (.int a) :: ls, .int a :: st, h)) _ (.iload 4) 2 am_my_190 (by decide +kernel) rfl
theorem e190_194 {ls : List (Option Value)} {st : List Value} {h : am_H} : am_ev 190 194 (ls) (st) h = am_ev 190 195 (ls) (.int (2) :: st) h := am_ev_step (q := (195, ls, .int (2) :: st, h)) _ (.iconst (2)) 1 am_my_190 (by decide +kernel) rfl
theorem e190_195 {ls : List (Option Value)} {st : List Value} {h : am_H} {a b : Int32} : am_ev 190 195 ls (.int b :: .int a :: st) h = if b ≤ a then am_ev 190 224 ls st h else am_ev 190 198 ls st h := am_u_if2 (c := .ge) (off := 29) am_my_190 (by decide +kernel) (by decide)
theorem e190_198 {ls : List (Option Value)} {st : List Value} {h : am_H} {a : Nat} : am_ev 190 198 (some (.ref a) :: ls) (st) h = am_ev 190 199 (some (.ref a) :: ls) (.ref a :: st) h := am_ev_step (q := (199, some (.ref a) :: ls, .ref a :: st, h)) _ (.aload_n 0) 1 am_my_190 (by decide +kernel) rfl
theorem e190_199 {ls : List (Option Value)} {st : List Value} {h : am_H} {o : Nat} (hk : am_kd h o = some (.inl 11)) : am_ev 190 199 ls (.ref o :: st) h = am_ev 190 202 ls (va_rf (h.2.2.1 o 19) :: st) h := am_u_gfR (idx := 38) (wn := 5151) (a := 0) am_my_190 (by decide +kernel) (by decide +kernel) (by decide +kernel) hk
theorem e190_202 {ls : List (Option Value)} {st : List Value} {h : am_H} {l0 l1 l2 l3 : Option Value} {a : Int32} : am_ev 190 202 (l0 :: l1 :: l2 :: l3 :: some (.int a) :: ls) (st) h = am_ev 190 204 (l0 :: l1 :: l2 :: l3 :: some (.int a) :: ls) (.int a :: st) h := am_ev_step (q := (204, l0 :: l1 :: l2 :: l3 :: some (.int a) :: ls, .int a :: st, h)) _ (.iload 4) 2 am_my_190 (by decide +kernel) rfl
theorem e190_204 {ls : List (Option Value)} {st : List Value} {h : am_H} {a : Int32} : am_ev 190 204 ls (.int a :: st) h = if ¬ a = 0 then am_ev 190 212 ls st h else am_ev 190 207 ls st h := am_u_if1 (c := .ne) (off := 8) am_my_190 (by decide +kernel) (by decide)
theorem e190_207 {ls : List (Option Value)} {st : List Value} {h : am_H} : am_ev 190 207 (ls) (st) h = am_ev 190 209 (ls) (.int (8) :: st) h := am_ev_step (q := (209, ls, .int (8) :: st, h)) _ (.bipush (8)) 2 am_my_190 (by decide +kernel) rfl
theorem e190_209 {ls : List (Option Value)} {st : List Value} {h : am_H} : am_ev 190 209 (ls) (st) h = am_ev 190 214 (ls) (st) h := am_ev_step (q := (214, ls, st, h)) _ (.goto (5)) 3 am_my_190 (by decide +kernel) rfl
theorem e190_212 {ls : List (Option Value)} {st : List Value} {h : am_H} : am_ev 190 212 (ls) (st) h = am_ev 190 214 (ls) (.int (21) :: st) h := am_ev_step (q := (214, ls, .int (21) :: st, h)) _ (.bipush (21)) 2 am_my_190 (by decide +kernel) rfl
theorem e190_214 {ls : List (Option Value)} {st : List Value} {h : am_H} {l0 l1 l2 l3 l4 l5 : Option Value} {a : Int32} : am_ev 190 214 (l0 :: l1 :: l2 :: l3 :: l4 :: l5 :: some (.int a) :: ls) (st) h = am_ev 190 216 (l0 :: l1 :: l2 :: l3 :: l4 :: l5 :: some (.int a) :: ls) (.int a :: st) h := am_ev_step (q := (216, l0 :: l1 :: l2 :: l3 :: l4 :: l5 :: some (.int a) :: ls, .int a :: st, h)) _ (.iload 6) 2 am_my_190 (by decide +kernel) rfl
theorem e190_216 {ls : List (Option Value)} {st : List Value} {h : am_H} {a b : Int32} : am_ev 190 216 (ls) (.int b :: .int a :: st) h = am_ev 190 217 (ls) (.int (a + b) :: st) h := am_ev_step (q := (217, ls, .int (a + b) :: st, h)) _ (.iadd) 1 am_my_190 (by decide +kernel) rfl
theorem e190_217 {ls : List (Option Value)} {st : List Value} {h : am_H} {a : Nat} : am_ev 190 217 (some (.ref a) :: ls) (st) h = am_ev 190 218 (some (.ref a) :: ls) (.ref a :: st) h := am_ev_step (q := (218, some (.ref a) :: ls, .ref a :: st, h)) _ (.aload_n 0) 1 am_my_190 (by decide +kernel) rfl
theorem e190_218 {ls : List (Option Value)} {st : List Value} {h : am_H} {o : Nat} (hk : am_kd h o = some (.inl 11)) : am_ev 190 218 ls (.ref o :: st) h = am_ev 190 221 ls (va_rf (h.2.2.1 o 20) :: st) h := am_u_gfR (idx := 41) (wn := 5152) (a := 0) am_my_190 (by decide +kernel) (by decide +kernel) (by decide +kernel) hk
theorem e190_221 {ls : List (Option Value)} {st : List Value} {h : am_H} : am_ev 190 221 (ls) (st) h = am_ev 190 222 (ls) (.int (1) :: st) h := am_ev_step (q := (222, ls, .int (1) :: st, h)) _ (.iconst (1)) 1 am_my_190 (by decide +kernel) rfl
theorem e190_222 {ls : List (Option Value)} {st : List Value} {h : am_H} {i : Int32} {a : Nat} (ht : am_tc h a = some 0) : am_ev 190 222 ls (.int i :: .ref a :: st) h = if am_ix i (am_len h a) = true then am_ev 190 223 ls (.int (h.1 a i.toNatClampNeg) :: st) h else none := am_u_rI am_my_190 (by decide +kernel) ht
theorem e190_223 {ls : List (Option Value)} {st : List Value} {h : am_H} {v i : Int32} {a : Nat} (ht : am_tc h a = some 0) : am_ev 190 223 ls (.int v :: .int i :: .ref a :: st) h = if am_ix i (am_len h a) = true then am_ev 190 224 ls st (am_sI h a i.toNatClampNeg v) else none := am_u_wI am_my_190 (by decide +kernel) ht
theorem e190_224 {ls : List (Option Value)} {st : List Value} {h : am_H} {a : Nat} : am_ev 190 224 (some (.ref a) :: ls) (st) h = am_ev 190 225 (some (.ref a) :: ls) (.ref a :: st) h := am_ev_step (q := (225, some (.ref a) :: ls, .ref a :: st, h)) _ (.aload_n 0) 1 am_my_190 (by decide +kernel) rfl
theorem e190_225 {ls : List (Option Value)} {st : List Value} {h : am_H} {o : Nat} (hk : am_kd h o = some (.inl 11)) : am_ev 190 225 ls (.ref o :: st) h = am_ev 190 228 ls (va_rf (h.2.2.1 o 19) :: st) h := am_u_gfR (idx := 38) (wn := 5151) (a := 0) am_my_190 (by decide +kernel) (by decide +kernel) (by decide +kernel) hk
theorem e190_228 {ls : List (Option Value)} {st : List Value} {h : am_H} {l0 l1 l2 l3 : Option Value} {a : Int32} : am_ev 190 228 (l0 :: l1 :: l2 :: l3 :: some (.int a) :: ls) (st) h = am_ev 190 230 (l0 :: l1 :: l2 :: l3 :: some (.int a) :: ls) (.int a :: st) h := am_ev_step (q := (230, l0 :: l1 :: l2 :: l3 :: some (.int a) :: ls, .int a :: st, h)) _ (.iload 4) 2 am_my_190 (by decide +kernel) rfl
theorem e190_230 {ls : List (Option Value)} {st : List Value} {h : am_H} {a : Nat} {i : Int32} : am_ev 190 230 (ls) (.int i :: .ref a :: st) h = am_ev 190 231 (ls) (.int i :: .ref a :: .int i :: .ref a :: st) h := am_ev_step (q := (231, ls, .int i :: .ref a :: .int i :: .ref a :: st, h)) _ (.dup2) 1 am_my_190 (by decide +kernel) rfl
theorem e190_231 {ls : List (Option Value)} {st : List Value} {h : am_H} {i : Int32} {a : Nat} (ht : am_tc h a = some 0) : am_ev 190 231 ls (.int i :: .ref a :: st) h = if am_ix i (am_len h a) = true then am_ev 190 232 ls (.int (h.1 a i.toNatClampNeg) :: st) h else none := am_u_rI am_my_190 (by decide +kernel) ht
theorem e190_232 {ls : List (Option Value)} {st : List Value} {h : am_H} : am_ev 190 232 (ls) (st) h = am_ev 190 233 (ls) (.int (1) :: st) h := am_ev_step (q := (233, ls, .int (1) :: st, h)) _ (.iconst (1)) 1 am_my_190 (by decide +kernel) rfl
theorem e190_233 {ls : List (Option Value)} {st : List Value} {h : am_H} {a b : Int32} : am_ev 190 233 (ls) (.int b :: .int a :: st) h = am_ev 190 234 (ls) (.int (a + b) :: st) h := am_ev_step (q := (234, ls, .int (a + b) :: st, h)) _ (.iadd) 1 am_my_190 (by decide +kernel) rfl
theorem e190_234 {ls : List (Option Value)} {st : List Value} {h : am_H} {v i : Int32} {a : Nat} (ht : am_tc h a = some 0) : am_ev 190 234 ls (.int v :: .int i :: .ref a :: st) h = if am_ix i (am_len h a) = true then am_ev 190 235 ls st (am_sI h a i.toNatClampNeg v) else none := am_u_wI am_my_190 (by decide +kernel) ht
theorem e190_235 {ls : List (Option Value)} {st : List Value} {h : am_H} : am_ev 190 235 (ls) (st) h = am_ev 190 236 (ls) (.int (1) :: st) h := am_ev_step (q := (236, ls, .int (1) :: st, h)) _ (.iconst (1)) 1 am_my_190 (by decide +kernel) rfl
theorem e190_236 {ls : List (Option Value)} {h : am_H} {v : Int32} (hv : v = 0 ∨ v = 1) : am_ev 190 236 ls [.int v] h = some (some (.int v), h) := am_u_rtZ am_my_190 (by decide +kernel) rfl hv
def b_mm (T : Nat → Int32) (b : q_Bk) : Prop := T 0 = nI (B_d b) ∧ T 1 = nI (B_b b) ∧ T 2 = nI (B_f b) ∧ (∀ k, k < B_d b → T (3 + k) = nI (B_eye b k) ∧ T (8 + k) = nI (B_turns b k)) ∧ (∀ k, k < B_b b → T (13 + k) = nI (B_need b k) ∧ T (21 + k) = nI (B_worth b k)) ∧ (∀ k, k < B_f b → T (29 + k) = nI (B_field b k))
def b_mr (h : am_H) (b : q_Bk) : Prop := b_mm (fun k => h.1 221 k) b ∧ B_d b ≤ 5 ∧ B_b b ≤ 8 ∧ B_f b ≤ 10
def b_mw (h : am_H) : Prop := ∃ n0 n1 n2, (n0 ≤ 5 ∧ n1 ≤ 8 ∧ n2 ≤ 10) ∧ h.1 221 0 = nI n0 ∧ h.1 221 1 = nI n1 ∧ h.1 221 2 = nI n2
theorem b_kk : ∀ i, i < 18 → ln_s i = 2 → ln_k i = if ln_c i = 0 then 6582119 else if ln_c i = 1 then 27691691706247534 else 439854918756 := by decide +kernel
theorem b_r119 : ∀ i, i < 18 → ln_s i = 2 → (ln_c i = 1 → (ln_r i).getD 1 0 = 119) ∧ (ln_c i = 2 → (ln_r i).getD 0 0 = 119) := by decide +kernel
theorem b_k12 : ln_k 12 = 6582119 := by decide +kernel
theorem b_k13 : ln_k 13 = 27691691706247534 := by decide +kernel
theorem b_k14 : ln_k 14 = 439854918756 := by decide +kernel
theorem m_bl_n {t : Nat → Nat} {L : Nat} {g h : am_H} {s : Nat} {q : Nat × Nat} (H : m_st t L g h s q s) (W : Nat) (hW : W < 2 ^ 64) (hn : ∀ j, j < 18 → ln_s j = 2 → W ≠ ln_k j) : ∃ h' : am_H, am_den 190 [.ref 211, .long (lN W), .int (nI s)] h = some (some (.int 0), h') ∧ m_bk g h' s := by
  have ok := H.1.1
  obtain ⟨h', d, b⟩ := m_fails H
  have n0 : W ≠ 6582119 := b_k12 ▸ hn 12 (by decide) (by decide +kernel)
  have n1 : W ≠ 27691691706247534 := b_k13 ▸ hn 13 (by decide) (by decide +kernel)
  have n2 : W ≠ 439854918756 := b_k14 ▸ hn 14 (by decide) (by decide +kernel)
  have y : ((-1 : Int32) = -1) = True := eq_true rfl
  have c1 : (lg_cmp (lN W) 6582119 = 0) = False := eq_false (fun w => n0 ((m_lg (c := 6582119) hW (by decide)).mp w))
  have c2 : (lg_cmp (lN W) 27691691706247534 = 0) = False := eq_false (fun w => n1 ((m_lg (c := 27691691706247534) hW (by decide)).mp w))
  have c3 : (lg_cmp (lN W) 439854918756 = 0) = False := eq_false (fun w => n2 ((m_lg (c := 439854918756) hW (by decide)).mp w))
  have o0 : (0 : Int32) = 0 ∨ (0 : Int32) = 1 := Or.inl rfl
  refine ⟨h', ?_, b⟩
  show am_ev 190 0 [some (.ref 211), some (.long (lN W)), some (.retAddr 0), some (.int (nI s)), none, none, none] [] h = _
  simp only [e190_0, e190_1, e190_4, e190_5, e190_8, e190_9, e190_12, e190_13, e190_16, e190_17, e190_20, e190_21, e190_24, e190_25, e190_28, e190_29, e190_32, e190_33, e190_36, e190_37, e190_39, e190_41, e190_42, e190_45, e190_46, e190_49, e190_50, e190_52, e190_55, e190_56, e190_59, e190_61, e190_62, e190_65, e190_67, e190_70, e190_72, e190_74, e190_75, e190_77, e190_79, e190_80, e190_83, e190_84, e190_87, e190_89, e190_90, e190_93, e190_94, e190_95, e190_96, e190_98, e190_101, e190_104, e190_107, e190_108, e190_109, e190_110, e190_112, e190_115, e190_118, e190_119, e190_120, e190_121, e190_123, e190_126, e190_127, e190_130, e190_132, e190_135, e190_138, e190_139, e190_140, e190_141, e190_144, e190_146, e190_147, e190_149, e190_151, e190_153, e190_156, e190_157, e190_160, e190_162, e190_165, e190_166, e190_169, e190_171, e190_172, e190_175, e190_177, e190_180, e190_182, e190_184, e190_185, e190_186, e190_189, e190_190, e190_191, e190_192, e190_194, e190_195, e190_198, e190_199, e190_202, e190_204, e190_207, e190_209, e190_212, e190_214, e190_216, e190_217, e190_218, e190_221, e190_222, e190_223, e190_224, e190_225, e190_228, e190_230, e190_231, e190_232, e190_233, e190_234, e190_235, e190_236, am_bd_some, Option.toList_some, Option.toList_none, List.cons_append, List.nil_append, am_w8_0, am_w8_1, am_w8_2, am_w8_3, am_w8_4, eq_self, or_true, true_or, am_kd_sI, am_kd_sL, am_kd_sR, am_tc_sI, am_tc_sL, am_tc_sR, am_len_sI, am_len_sL, am_len_sR, am_rfs, if_true, if_false, am_rdL_sI, am_rR_sL, am_rt_cq, am_kd_cq, am_tc_cq, am_len_cq, am_rd_sL, am_rd_sR, am_rdL_sR, c1, c2, c3, not_false_eq_true, y, not_true, okK_211 ok, d, o0]
theorem m_bl_0 {t : Nat → Nat} {L : Nat} {g h : am_H} {s : Nat} {q : Nat × Nat} (H : m_st t L g h s q s) (hs : s < L) (G : h.1 211 23 = 1) (d : q_Bk) (R : q.1 = 0 → b_mr h d) (Rw : b_mw h) (i : Nat) (hi : i < 18) (is : ln_s i = 2) (c : ln_c i = 0) : m_lr b_mr b_mw b_full b_upd t L g 190 (ln_k i) h s q d i := by
  have ok := H.1.1
  obtain ⟨n0, n1, n2, ⟨l0, l1, l2⟩, e0, e1, e2⟩ := Rw
  have ek : ln_k i = 6582119 := by rw [b_kk i hi is]; exact if_pos c
  have f0 : (lg_cmp (lN 6582119) 6582119 = 0) = True := eq_true ((m_lg (c := 6582119) (by decide) (by decide)).mpr rfl)
  have f1 : (lg_cmp (lN 6582119) 27691691706247534 = 0) = False := eq_false (fun w => absurd ((m_lg (c := 27691691706247534) (by decide) (by decide)).mp w) (by decide))
  have f2 : (lg_cmp (lN 6582119) 439854918756 = 0) = False := eq_false (fun w => absurd ((m_lg (c := 439854918756) (by decide) (by decide)).mp w) (by decide))
  have y10 : ¬ (1 : Int32) = 0 := by decide
  have y20 : ¬ (2 : Int32) = 0 := by decide
  have y21 : ¬ (2 : Int32) = 1 := by decide
  have y02 : ¬ (0 : Int32) = 2 := by decide
  have y12 : ¬ (1 : Int32) = 2 := by decide
  have ym0 : ¬ (0 : Int32) = -1 := by decide
  have ym1 : ¬ (1 : Int32) = -1 := by decide
  have ym2 : ¬ (2 : Int32) = -1 := by decide
  have l02 : ¬ (2 : Int32) ≤ 0 := by decide
  have l12 : ¬ (2 : Int32) ≤ 1 := by decide
  have l22 : (2 : Int32) ≤ 2 := by decide
  have bf : b_full i d = decide (¬ B_d d < 5) := by unfold b_full; exact if_pos c
  have fi : q.1 = 0 → B_d d = n0 := fun w => by
    obtain ⟨⟨a0, a1, a2, -⟩, p0, p1, p2⟩ := R w
    exact (nI_eq (by omega) (by omega)).mp (a0.symm.trans e0)
  obtain ⟨h1, d1, S1, a1, a2, a3⟩ := m_full H 0 5 n0 (by decide) (by decide) l0 e0 (b_full i d) (fun w => by
    have := fi w
    have p := (R w).2
    rw [bf, decide_eq_true_eq]
    omega)
  have ok1 := S1.1.1
  obtain ⟨h2, d2, H2, -⟩ := m_beg S1 hs ((a3 23 (by decide)).trans G) (ln_r i) 0
  have ok2 := H2.1.1.1
  have d1' : am_den 180 [.ref 211, .int 0, .int 5, .int (nI s)] h = some (none, h1) := d1
  have s1 : am_ev 190 0 [some (.ref 211), some (.long (lN 6582119)), some (.retAddr 0), some (.int (nI s)), none, none, none] [] h = am_ev 190 87 [some (.ref 211), some (.long (lN 6582119)), some (.retAddr 0), some (.int (nI s)), some (.int 0), some (.int 5), none] [] h2 := by
    simp only [e190_0, e190_1, e190_4, e190_5, e190_8, e190_9, e190_12, e190_13, e190_16, e190_17, e190_20, e190_21, e190_24, e190_25, e190_28, e190_29, e190_32, e190_33, e190_36, e190_37, e190_39, e190_41, e190_42, e190_45, e190_46, e190_49, e190_50, e190_52, e190_55, e190_56, e190_59, e190_61, e190_62, e190_65, e190_67, e190_70, e190_72, e190_74, e190_75, e190_77, e190_79, e190_80, e190_83, e190_84, e190_89, e190_90, e190_93, e190_94, e190_95, e190_96, e190_98, e190_101, e190_104, e190_107, e190_108, e190_109, e190_110, e190_112, e190_115, e190_118, e190_119, e190_120, e190_121, e190_123, e190_126, e190_127, e190_130, e190_132, e190_135, e190_138, e190_139, e190_140, e190_141, e190_144, e190_146, e190_147, e190_149, e190_151, e190_153, e190_156, e190_157, e190_160, e190_162, e190_165, e190_166, e190_169, e190_171, e190_172, e190_175, e190_177, e190_180, e190_182, e190_184, e190_185, e190_186, e190_189, e190_190, e190_191, e190_192, e190_194, e190_195, e190_198, e190_199, e190_202, e190_204, e190_207, e190_209, e190_212, e190_214, e190_216, e190_217, e190_218, e190_221, e190_222, e190_223, e190_224, e190_225, e190_228, e190_230, e190_231, e190_232, e190_233, e190_234, e190_235, e190_236, am_bd_some, Option.toList_some, Option.toList_none, List.cons_append, List.nil_append, am_w8_0, am_w8_1, am_w8_2, am_w8_3, am_w8_4, eq_self, or_true, true_or, am_kd_sI, am_kd_sL, am_kd_sR, am_tc_sI, am_tc_sL, am_tc_sR, am_len_sI, am_len_sL, am_len_sR, am_rfs, if_true, if_false, am_rdL_sI, am_rR_sL, am_rt_cq, am_kd_cq, am_tc_cq, am_len_cq, am_rd_sL, am_rd_sR, am_rdL_sR, f0, f1, f2, y10, y20, y21, y02, y12, ym0, ym1, ym2, l02, l12, l22, not_true, not_false_eq_true, okK_211 ok, d1', okK_211 ok1, d2]
  have o0 : (0 : Int32) = 0 ∨ (0 : Int32) = 1 := Or.inl rfl
  have o1 : (1 : Int32) = 0 ∨ (1 : Int32) = 1 := Or.inr rfl
  have x0 : am_ix 0 6 = true := by decide
  have x1 : am_ix 1 6 = true := by decide
  have z0 : (0 : Int32).toNatClampNeg = 0 := rfl
  have z1 : (1 : Int32).toNatClampNeg = 1 := rfl
  have xc : am_ix 0 81 = true := by decide
  have zc : (0 : Int32).toNatClampNeg = 0 := rfl
  have fin : ∀ (h4 : am_H), m_nm t L g (t_E t L s) (ln_r i) (if b_full i d = true then t_nt q 3 s else q) 0 (fun k => h1.1 221 k) (h1.1 211 21) (h1.1 211 22) h4 2 → ∃ h' : am_H, am_ev 190 140 [some (.ref 211), some (.long (lN 6582119)), some (.retAddr 0), some (.int (nI s)), some (.int 0), some (.int 5), none] [] h4 = some (some (.int 1), h') ∧ m_st t L g h' (t_nx t L (t_E t L s) 2) (t_rq (ln_r i) (t_va t L (t_E t L s)) (t_nx t L (t_E t L s)) 2 (if b_full i d = true then t_nt q 3 s else q)) (t_nx t L (t_E t L s) 2) ∧ ((t_rq (ln_r i) (t_va t L (t_E t L s)) (t_nx t L (t_E t L s)) 2 (if b_full i d = true then t_nt q 3 s else q)).1 = 0 → b_mr h' (b_upd i (t_va t L (t_E t L s)) d)) ∧ b_mw h' := by
    intro h4 H4
    have ok4 := H4.1.1.1
    have E4 := H4.2.2.2.1
    have N0 : h4.1 222 0 = nI (t_va t L (t_E t L s) 0) := (H4.2.1 0 (by decide)).2
    have N1 : h4.1 222 1 = nI (t_va t L (t_E t L s) 1) := (H4.2.1 1 (by decide)).2
    have vc : h4.1 221 0 = nI n0 := (E4 0).trans ((a1 0).trans e0)
    by_cases k : n0 < 5
    · have k' : ¬ (5 : Int32) ≤ nI n0 := nI_ge (b := 5) k (by decide)
      have g1 : (3 : Int32) + nI n0 = nI (3 + n0) := nI_add 3 n0
      have i1 : am_ix (nI (3 + n0)) 81 = true := am_ix_nI (by omega) (by decide)
      have w1 : (nI (3 + n0)).toNatClampNeg = 3 + n0 := nI_clamp (by omega)
      have H5 := H4.w (3 + n0) (nI (t_va t L (t_E t L s) 0))
      have M1 : (am_sI h4 221 (3 + n0) (nI (t_va t L (t_E t L s) 0))).1 222 1 = nI (t_va t L (t_E t L s) 1) := (c_ne _ _ _ _ _ _ (by decide)).trans N1
      have g2 : (8 : Int32) + nI n0 = nI (8 + n0) := nI_add 8 n0
      have i2 : am_ix (nI (8 + n0)) 81 = true := am_ix_nI (by omega) (by decide)
      have w2 : (nI (8 + n0)).toNatClampNeg = 8 + n0 := nI_clamp (by omega)
      have H6 := H5.w (8 + n0) (nI (t_va t L (t_E t L s) 1))
      have Mc : (am_sI (am_sI h4 221 (3 + n0) (nI (t_va t L (t_E t L s) 0))) 221 (8 + n0) (nI (t_va t L (t_E t L s) 1))).1 221 0 = nI n0 := by rw [c_rw, if_neg (by omega), c_rw, if_neg (by omega)]; exact vc
      have H7 := H6.w 0 (nI (n0 + 1))
      have E7 := H7.2.2.2.1
      refine ⟨_, ?_, H7.1, fun z => ?_, ?_⟩
      · simp only [e190_0, e190_1, e190_4, e190_5, e190_8, e190_9, e190_12, e190_13, e190_16, e190_17, e190_20, e190_21, e190_24, e190_25, e190_28, e190_29, e190_32, e190_33, e190_36, e190_37, e190_39, e190_41, e190_42, e190_45, e190_46, e190_49, e190_50, e190_52, e190_55, e190_56, e190_59, e190_61, e190_62, e190_65, e190_67, e190_70, e190_72, e190_74, e190_75, e190_77, e190_79, e190_80, e190_83, e190_84, e190_87, e190_89, e190_90, e190_93, e190_94, e190_95, e190_96, e190_98, e190_101, e190_104, e190_107, e190_108, e190_109, e190_110, e190_112, e190_115, e190_118, e190_119, e190_120, e190_121, e190_123, e190_126, e190_127, e190_130, e190_132, e190_135, e190_138, e190_139, e190_140, e190_141, e190_144, e190_146, e190_147, e190_149, e190_151, e190_153, e190_156, e190_157, e190_160, e190_162, e190_165, e190_166, e190_169, e190_171, e190_172, e190_175, e190_177, e190_180, e190_182, e190_184, e190_185, e190_186, e190_189, e190_190, e190_191, e190_192, e190_194, e190_195, e190_198, e190_199, e190_202, e190_204, e190_207, e190_209, e190_212, e190_214, e190_216, e190_217, e190_218, e190_221, e190_222, e190_223, e190_224, e190_225, e190_228, e190_230, e190_231, e190_232, e190_233, e190_234, e190_235, e190_236, am_bd_some, Option.toList_some, Option.toList_none, List.cons_append, List.nil_append, am_w8_0, am_w8_1, am_w8_2, am_w8_3, am_w8_4, eq_self, or_true, true_or, am_kd_sI, am_kd_sL, am_kd_sR, am_tc_sI, am_tc_sL, am_tc_sR, am_len_sI, am_len_sL, am_len_sR, am_rfs, if_true, if_false, am_rdL_sI, am_rR_sL, am_rt_cq, am_kd_cq, am_tc_cq, am_len_cq, am_rd_sL, am_rd_sR, am_rdL_sR, okK_211 ok4, okR_211_19 ok4, okR_211_20 ok4, okT_221 ok4, okL_221 ok4, okT_222 ok4, okL_222 ok4, xc, zc, vc, k', y10, y20, y21, y02, y12, ym0, ym1, ym2, l02, l12, l22, not_true, not_false_eq_true, g1, i1, w1, x0, z0, N0, M1, g2, i2, w2, x1, z1, Mc, nI_1, o1]
      · obtain ⟨q1, -, q3⟩ := t_rq_0 z
        have ff := c_q0 q1
        rw [ff, if_neg (by decide)] at q1
        obtain ⟨⟨m0, m1, m2, m3, m4, m5⟩, p0, p1, p2⟩ := R q1
        have en := fi q1
        unfold b_upd
        rw [if_pos c]
        refine ⟨⟨(E7 _).trans (by show (if 0 = 0 then nI (n0 + 1) else if 0 = 8 + n0 then nI (t_va t L (t_E t L s) 1) else if 0 = 3 + n0 then nI (t_va t L (t_E t L s) 0) else h1.1 221 (0)) = _; rw [if_pos rfl, en]; rfl), (E7 _).trans (by show (if 1 = 0 then nI (n0 + 1) else if 1 = 8 + n0 then nI (t_va t L (t_E t L s) 1) else if 1 = 3 + n0 then nI (t_va t L (t_E t L s) 0) else h1.1 221 (1)) = _; rw [if_neg (by omega), if_neg (by omega), if_neg (by omega)]; exact (a1 _).trans (m1)), (E7 _).trans (by show (if 2 = 0 then nI (n0 + 1) else if 2 = 8 + n0 then nI (t_va t L (t_E t L s) 1) else if 2 = 3 + n0 then nI (t_va t L (t_E t L s) 0) else h1.1 221 (2)) = _; rw [if_neg (by omega), if_neg (by omega), if_neg (by omega)]; exact (a1 _).trans (m2)), fun k hk => ?_, fun k hk => ?_, fun k hk => ?_⟩, ?_, ?_, ?_⟩
        · have hk' : k < B_d d + 1 := hk
          refine ⟨(E7 _).trans ?_, (E7 _).trans ?_⟩
          · show (if 3 + k = 0 then nI (n0 + 1) else if 3 + k = 8 + n0 then nI (t_va t L (t_E t L s) 1) else if 3 + k = 3 + n0 then nI (t_va t L (t_E t L s) 0) else h1.1 221 (3 + k)) = nI (if k = B_d d then t_va t L (t_E t L s) 0 else B_eye d k)
            rw [if_neg (by omega), if_neg (by omega)]
            by_cases ck : k = B_d d
            · rw [if_pos (by omega), if_pos ck]
            · rw [if_neg (by omega), if_neg ck]; exact (a1 _).trans (m3 k (by omega)).1
          · show (if 8 + k = 0 then nI (n0 + 1) else if 8 + k = 8 + n0 then nI (t_va t L (t_E t L s) 1) else if 8 + k = 3 + n0 then nI (t_va t L (t_E t L s) 0) else h1.1 221 (8 + k)) = nI (if k = B_d d then t_va t L (t_E t L s) 1 else B_turns d k)
            rw [if_neg (by omega)]
            by_cases ck : k = B_d d
            · rw [if_pos (by omega), if_pos ck]
            · rw [if_neg (by omega), if_neg (by omega), if_neg ck]; exact (a1 _).trans (m3 k (by omega)).2
        · exact ⟨(E7 _).trans (by show (if 13 + k = 0 then nI (n0 + 1) else if 13 + k = 8 + n0 then nI (t_va t L (t_E t L s) 1) else if 13 + k = 3 + n0 then nI (t_va t L (t_E t L s) 0) else h1.1 221 (13 + k)) = _; rw [if_neg (by have hk' : k < B_b d := hk; omega), if_neg (by have hk' : k < B_b d := hk; omega), if_neg (by have hk' : k < B_b d := hk; omega)]; exact (a1 _).trans ((m4 k hk).1)), (E7 _).trans (by show (if 21 + k = 0 then nI (n0 + 1) else if 21 + k = 8 + n0 then nI (t_va t L (t_E t L s) 1) else if 21 + k = 3 + n0 then nI (t_va t L (t_E t L s) 0) else h1.1 221 (21 + k)) = _; rw [if_neg (by have hk' : k < B_b d := hk; omega), if_neg (by have hk' : k < B_b d := hk; omega), if_neg (by have hk' : k < B_b d := hk; omega)]; exact (a1 _).trans ((m4 k hk).2))⟩
        · exact (E7 _).trans (by show (if 29 + k = 0 then nI (n0 + 1) else if 29 + k = 8 + n0 then nI (t_va t L (t_E t L s) 1) else if 29 + k = 3 + n0 then nI (t_va t L (t_E t L s) 0) else h1.1 221 (29 + k)) = _; rw [if_neg (by have hk' : k < B_f d := hk; omega), if_neg (by have hk' : k < B_f d := hk; omega), if_neg (by have hk' : k < B_f d := hk; omega)]; exact (a1 _).trans (m5 k hk))
        · show B_d d + 1 ≤ 5; omega
        · show B_b d ≤ 8; omega
        · show B_f d ≤ 10; omega
      · exact ⟨n0 + 1, n1, n2, ⟨by omega, by omega, by omega⟩, (E7 _).trans (by show (if 0 = 0 then nI (n0 + 1) else if 0 = 8 + n0 then nI (t_va t L (t_E t L s) 1) else if 0 = 3 + n0 then nI (t_va t L (t_E t L s) 0) else h1.1 221 (0)) = _; rw [if_pos rfl]), (E7 _).trans (by show (if 1 = 0 then nI (n0 + 1) else if 1 = 8 + n0 then nI (t_va t L (t_E t L s) 1) else if 1 = 3 + n0 then nI (t_va t L (t_E t L s) 0) else h1.1 221 (1)) = _; rw [if_neg (by omega), if_neg (by omega), if_neg (by omega)]; exact (a1 _).trans (e1)), (E7 _).trans (by show (if 2 = 0 then nI (n0 + 1) else if 2 = 8 + n0 then nI (t_va t L (t_E t L s) 1) else if 2 = 3 + n0 then nI (t_va t L (t_E t L s) 0) else h1.1 221 (2)) = _; rw [if_neg (by omega), if_neg (by omega), if_neg (by omega)]; exact (a1 _).trans (e2))⟩
    · have k' : (5 : Int32) ≤ nI n0 := (nI_leI (a := 5) (by decide) (by omega)).mpr (by omega)
      refine ⟨h4, ?_, H4.1, fun z => ?_, ?_⟩
      · simp only [e190_0, e190_1, e190_4, e190_5, e190_8, e190_9, e190_12, e190_13, e190_16, e190_17, e190_20, e190_21, e190_24, e190_25, e190_28, e190_29, e190_32, e190_33, e190_36, e190_37, e190_39, e190_41, e190_42, e190_45, e190_46, e190_49, e190_50, e190_52, e190_55, e190_56, e190_59, e190_61, e190_62, e190_65, e190_67, e190_70, e190_72, e190_74, e190_75, e190_77, e190_79, e190_80, e190_83, e190_84, e190_87, e190_89, e190_90, e190_93, e190_94, e190_95, e190_96, e190_98, e190_101, e190_104, e190_107, e190_108, e190_109, e190_110, e190_112, e190_115, e190_118, e190_119, e190_120, e190_121, e190_123, e190_126, e190_127, e190_130, e190_132, e190_135, e190_138, e190_139, e190_140, e190_141, e190_144, e190_146, e190_147, e190_149, e190_151, e190_153, e190_156, e190_157, e190_160, e190_162, e190_165, e190_166, e190_169, e190_171, e190_172, e190_175, e190_177, e190_180, e190_182, e190_184, e190_185, e190_186, e190_189, e190_190, e190_191, e190_192, e190_194, e190_195, e190_198, e190_199, e190_202, e190_204, e190_207, e190_209, e190_212, e190_214, e190_216, e190_217, e190_218, e190_221, e190_222, e190_223, e190_224, e190_225, e190_228, e190_230, e190_231, e190_232, e190_233, e190_234, e190_235, e190_236, am_bd_some, Option.toList_some, Option.toList_none, List.cons_append, List.nil_append, am_w8_0, am_w8_1, am_w8_2, am_w8_3, am_w8_4, eq_self, or_true, true_or, am_kd_sI, am_kd_sL, am_kd_sR, am_tc_sI, am_tc_sL, am_tc_sR, am_len_sI, am_len_sL, am_len_sR, am_rfs, if_true, if_false, am_rdL_sI, am_rR_sL, am_rt_cq, am_kd_cq, am_tc_cq, am_len_cq, am_rd_sL, am_rd_sR, am_rdL_sR, okK_211 ok4, okR_211_19 ok4, okT_221 ok4, okL_221 ok4, xc, zc, vc, k', o1]
      · obtain ⟨q1, -, -⟩ := t_rq_0 z
        have ff := c_q0 q1
        rw [ff, if_neg (by decide)] at q1
        have en := fi q1
        rw [bf] at ff
        exact absurd (of_decide_eq_false ff) (by omega)
      · exact ⟨n0, n1, n2, ⟨l0, l1, l2⟩, (E4 _).trans ((a1 _).trans e0), (E4 _).trans ((a1 _).trans e1), (E4 _).trans ((a1 _).trans e2)⟩
  unfold m_lr
  obtain ⟨ln2, r0, r1⟩ := b_r0 i hi is c
  rw [ln2, ek]
  show (match (if t_K t L (t_nx t L (t_E t L s) 0) = 3 then (if t_K t L (t_nx t L (t_E t L s) 1) = 3 then none else some (t_nx t L (t_E t L s) 1)) else some (t_nx t L (t_E t L s) 0) : Option Nat) with
    | some p => _
    | none => _)
  obtain ⟨A0, B0⟩ := m_nu H2 (by decide) 1 9 (-1) (by decide) (by decide) (fun c => r_e r0 (t_v_lt c))
  by_cases k0 : t_K t L (t_nx t L (t_E t L s) 0) = 3
  · rw [if_pos k0]
    obtain ⟨h3, d3, H3, -⟩ := B0 k0
    have ok3 := H3.1.1.1
    have d3' := den_take h2 ok2 0 1 9 1 h3 d3 o1
    obtain ⟨A1, B1⟩ := m_nu H3 (by decide) 0 3 (-1) (by decide) (by decide) (fun c => r_d r1 (t_v_lt c))
    by_cases k1 : t_K t L (t_nx t L (t_E t L s) 1) = 3
    · rw [if_pos k1]
      obtain ⟨h4, d4, H4, -⟩ := B1 k1
      have d4' := den_take h3 ok3 1 0 3 1 h4 d4 o1
      obtain ⟨h5, s5, r5⟩ := fin h4 H4
      refine ⟨h5, ?_, r5⟩
      show am_ev 190 0 [some (.ref 211), some (.long (lN 6582119)), some (.retAddr 0), some (.int (nI s)), none, none, none] [] h = _
      rw [s1, ← s5]
      simp only [e190_0, e190_1, e190_4, e190_5, e190_8, e190_9, e190_12, e190_13, e190_16, e190_17, e190_20, e190_21, e190_24, e190_25, e190_28, e190_29, e190_32, e190_33, e190_36, e190_37, e190_39, e190_41, e190_42, e190_45, e190_46, e190_49, e190_50, e190_52, e190_55, e190_56, e190_59, e190_61, e190_62, e190_65, e190_67, e190_70, e190_72, e190_74, e190_75, e190_77, e190_79, e190_80, e190_83, e190_84, e190_87, e190_89, e190_90, e190_93, e190_94, e190_95, e190_96, e190_98, e190_101, e190_104, e190_107, e190_108, e190_109, e190_110, e190_112, e190_115, e190_118, e190_119, e190_120, e190_121, e190_123, e190_126, e190_127, e190_130, e190_132, e190_135, e190_138, e190_139, e190_141, e190_144, e190_146, e190_147, e190_149, e190_151, e190_153, e190_156, e190_157, e190_160, e190_162, e190_165, e190_166, e190_169, e190_171, e190_172, e190_175, e190_177, e190_180, e190_182, e190_184, e190_185, e190_186, e190_189, e190_190, e190_191, e190_192, e190_194, e190_195, e190_198, e190_199, e190_202, e190_204, e190_207, e190_209, e190_212, e190_214, e190_216, e190_217, e190_218, e190_221, e190_222, e190_223, e190_224, e190_225, e190_228, e190_230, e190_231, e190_232, e190_233, e190_234, e190_235, e190_236, am_bd_some, Option.toList_some, Option.toList_none, List.cons_append, List.nil_append, am_w8_0, am_w8_1, am_w8_2, am_w8_3, am_w8_4, eq_self, or_true, true_or, am_kd_sI, am_kd_sL, am_kd_sR, am_tc_sI, am_tc_sL, am_tc_sR, am_len_sI, am_len_sL, am_len_sR, am_rfs, if_true, if_false, am_rdL_sI, am_rR_sL, am_rt_cq, am_kd_cq, am_tc_cq, am_len_cq, am_rd_sL, am_rd_sR, am_rdL_sR, y10, y20, y21, y02, y12, ym0, ym1, ym2, l02, l12, l22, not_true, not_false_eq_true, okK_211 ok2, d3', okK_211 ok3, d4']
    · rw [if_neg k1]
      obtain ⟨h4, d4, b4⟩ := A1 k1
      have d4' := den_take h3 ok3 1 0 3 0 h4 d4 o0
      refine ⟨h4, ?_, b4⟩
      show am_ev 190 0 [some (.ref 211), some (.long (lN 6582119)), some (.retAddr 0), some (.int (nI s)), none, none, none] [] h = _
      rw [s1]
      simp only [e190_0, e190_1, e190_4, e190_5, e190_8, e190_9, e190_12, e190_13, e190_16, e190_17, e190_20, e190_21, e190_24, e190_25, e190_28, e190_29, e190_32, e190_33, e190_36, e190_37, e190_39, e190_41, e190_42, e190_45, e190_46, e190_49, e190_50, e190_52, e190_55, e190_56, e190_59, e190_61, e190_62, e190_65, e190_67, e190_70, e190_72, e190_74, e190_75, e190_77, e190_79, e190_80, e190_83, e190_84, e190_87, e190_89, e190_90, e190_93, e190_94, e190_95, e190_96, e190_98, e190_101, e190_104, e190_107, e190_108, e190_109, e190_110, e190_112, e190_115, e190_118, e190_119, e190_120, e190_121, e190_123, e190_126, e190_127, e190_130, e190_132, e190_135, e190_138, e190_139, e190_140, e190_141, e190_144, e190_146, e190_147, e190_149, e190_151, e190_153, e190_156, e190_157, e190_160, e190_162, e190_165, e190_166, e190_169, e190_171, e190_172, e190_175, e190_177, e190_180, e190_182, e190_184, e190_185, e190_186, e190_189, e190_190, e190_191, e190_192, e190_194, e190_195, e190_198, e190_199, e190_202, e190_204, e190_207, e190_209, e190_212, e190_214, e190_216, e190_217, e190_218, e190_221, e190_222, e190_223, e190_224, e190_225, e190_228, e190_230, e190_231, e190_232, e190_233, e190_234, e190_235, e190_236, am_bd_some, Option.toList_some, Option.toList_none, List.cons_append, List.nil_append, am_w8_0, am_w8_1, am_w8_2, am_w8_3, am_w8_4, eq_self, or_true, true_or, am_kd_sI, am_kd_sL, am_kd_sR, am_tc_sI, am_tc_sL, am_tc_sR, am_len_sI, am_len_sL, am_len_sR, am_rfs, if_true, if_false, am_rdL_sI, am_rR_sL, am_rt_cq, am_kd_cq, am_tc_cq, am_len_cq, am_rd_sL, am_rd_sR, am_rdL_sR, y10, y20, y21, y02, y12, ym0, ym1, ym2, l02, l12, l22, not_true, not_false_eq_true, okK_211 ok2, d3', okK_211 ok3, d4', o0]
  · rw [if_neg k0]
    obtain ⟨h3, d3, b3⟩ := A0 k0
    have d3' := den_take h2 ok2 0 1 9 0 h3 d3 o0
    refine ⟨h3, ?_, b3⟩
    show am_ev 190 0 [some (.ref 211), some (.long (lN 6582119)), some (.retAddr 0), some (.int (nI s)), none, none, none] [] h = _
    rw [s1]
    simp only [e190_0, e190_1, e190_4, e190_5, e190_8, e190_9, e190_12, e190_13, e190_16, e190_17, e190_20, e190_21, e190_24, e190_25, e190_28, e190_29, e190_32, e190_33, e190_36, e190_37, e190_39, e190_41, e190_42, e190_45, e190_46, e190_49, e190_50, e190_52, e190_55, e190_56, e190_59, e190_61, e190_62, e190_65, e190_67, e190_70, e190_72, e190_74, e190_75, e190_77, e190_79, e190_80, e190_83, e190_84, e190_87, e190_89, e190_90, e190_93, e190_94, e190_95, e190_96, e190_98, e190_101, e190_104, e190_107, e190_108, e190_109, e190_110, e190_112, e190_115, e190_118, e190_119, e190_120, e190_121, e190_123, e190_126, e190_127, e190_130, e190_132, e190_135, e190_138, e190_139, e190_140, e190_141, e190_144, e190_146, e190_147, e190_149, e190_151, e190_153, e190_156, e190_157, e190_160, e190_162, e190_165, e190_166, e190_169, e190_171, e190_172, e190_175, e190_177, e190_180, e190_182, e190_184, e190_185, e190_186, e190_189, e190_190, e190_191, e190_192, e190_194, e190_195, e190_198, e190_199, e190_202, e190_204, e190_207, e190_209, e190_212, e190_214, e190_216, e190_217, e190_218, e190_221, e190_222, e190_223, e190_224, e190_225, e190_228, e190_230, e190_231, e190_232, e190_233, e190_234, e190_235, e190_236, am_bd_some, Option.toList_some, Option.toList_none, List.cons_append, List.nil_append, am_w8_0, am_w8_1, am_w8_2, am_w8_3, am_w8_4, eq_self, or_true, true_or, am_kd_sI, am_kd_sL, am_kd_sR, am_tc_sI, am_tc_sL, am_tc_sR, am_len_sI, am_len_sL, am_len_sR, am_rfs, if_true, if_false, am_rdL_sI, am_rR_sL, am_rt_cq, am_kd_cq, am_tc_cq, am_len_cq, am_rd_sL, am_rd_sR, am_rdL_sR, y10, y20, y21, y02, y12, ym0, ym1, ym2, l02, l12, l22, not_true, not_false_eq_true, okK_211 ok2, d3', o0]
theorem m_bl_1 {t : Nat → Nat} {L : Nat} {g h : am_H} {s : Nat} {q : Nat × Nat} (H : m_st t L g h s q s) (hs : s < L) (G : h.1 211 23 = 1) (d : q_Bk) (R : q.1 = 0 → b_mr h d) (Rw : b_mw h) (i : Nat) (hi : i < 18) (is : ln_s i = 2) (c : ln_c i = 1) : m_lr b_mr b_mw b_full b_upd t L g 190 (ln_k i) h s q d i := by
  have ok := H.1.1
  obtain ⟨n0, n1, n2, ⟨l0, l1, l2⟩, e0, e1, e2⟩ := Rw
  have ek : ln_k i = 27691691706247534 := by rw [b_kk i hi is]; rw [if_neg (by omega)]; exact if_pos c
  have f0 : (lg_cmp (lN 27691691706247534) 6582119 = 0) = False := eq_false (fun w => absurd ((m_lg (c := 6582119) (by decide) (by decide)).mp w) (by decide))
  have f1 : (lg_cmp (lN 27691691706247534) 27691691706247534 = 0) = True := eq_true ((m_lg (c := 27691691706247534) (by decide) (by decide)).mpr rfl)
  have f2 : (lg_cmp (lN 27691691706247534) 439854918756 = 0) = False := eq_false (fun w => absurd ((m_lg (c := 439854918756) (by decide) (by decide)).mp w) (by decide))
  have y10 : ¬ (1 : Int32) = 0 := by decide
  have y20 : ¬ (2 : Int32) = 0 := by decide
  have y21 : ¬ (2 : Int32) = 1 := by decide
  have y02 : ¬ (0 : Int32) = 2 := by decide
  have y12 : ¬ (1 : Int32) = 2 := by decide
  have ym0 : ¬ (0 : Int32) = -1 := by decide
  have ym1 : ¬ (1 : Int32) = -1 := by decide
  have ym2 : ¬ (2 : Int32) = -1 := by decide
  have l02 : ¬ (2 : Int32) ≤ 0 := by decide
  have l12 : ¬ (2 : Int32) ≤ 1 := by decide
  have l22 : (2 : Int32) ≤ 2 := by decide
  have bf : b_full i d = decide (¬ B_b d < 8) := by unfold b_full; rw [if_neg (by omega)]; exact if_pos c
  have fi : q.1 = 0 → B_b d = n1 := fun w => by
    obtain ⟨⟨a0, a1, a2, -⟩, p0, p1, p2⟩ := R w
    exact (nI_eq (by omega) (by omega)).mp (a1.symm.trans e1)
  obtain ⟨h1, d1, S1, a1, a2, a3⟩ := m_full H 1 8 n1 (by decide) (by decide) l1 e1 (b_full i d) (fun w => by
    have := fi w
    have p := (R w).2
    rw [bf, decide_eq_true_eq]
    omega)
  have ok1 := S1.1.1
  obtain ⟨h2, d2, H2, -⟩ := m_beg S1 hs ((a3 23 (by decide)).trans G) (ln_r i) 0
  have ok2 := H2.1.1.1
  have d1' : am_den 180 [.ref 211, .int 1, .int 8, .int (nI s)] h = some (none, h1) := d1
  have s1 : am_ev 190 0 [some (.ref 211), some (.long (lN 27691691706247534)), some (.retAddr 0), some (.int (nI s)), none, none, none] [] h = am_ev 190 87 [some (.ref 211), some (.long (lN 27691691706247534)), some (.retAddr 0), some (.int (nI s)), some (.int 1), some (.int 8), none] [] h2 := by
    simp only [e190_0, e190_1, e190_4, e190_5, e190_8, e190_9, e190_12, e190_13, e190_16, e190_17, e190_20, e190_21, e190_24, e190_25, e190_28, e190_29, e190_32, e190_33, e190_36, e190_37, e190_39, e190_41, e190_42, e190_45, e190_46, e190_49, e190_50, e190_52, e190_55, e190_56, e190_59, e190_61, e190_62, e190_65, e190_67, e190_70, e190_72, e190_74, e190_75, e190_77, e190_79, e190_80, e190_83, e190_84, e190_89, e190_90, e190_93, e190_94, e190_95, e190_96, e190_98, e190_101, e190_104, e190_107, e190_108, e190_109, e190_110, e190_112, e190_115, e190_118, e190_119, e190_120, e190_121, e190_123, e190_126, e190_127, e190_130, e190_132, e190_135, e190_138, e190_139, e190_140, e190_141, e190_144, e190_146, e190_147, e190_149, e190_151, e190_153, e190_156, e190_157, e190_160, e190_162, e190_165, e190_166, e190_169, e190_171, e190_172, e190_175, e190_177, e190_180, e190_182, e190_184, e190_185, e190_186, e190_189, e190_190, e190_191, e190_192, e190_194, e190_195, e190_198, e190_199, e190_202, e190_204, e190_207, e190_209, e190_212, e190_214, e190_216, e190_217, e190_218, e190_221, e190_222, e190_223, e190_224, e190_225, e190_228, e190_230, e190_231, e190_232, e190_233, e190_234, e190_235, e190_236, am_bd_some, Option.toList_some, Option.toList_none, List.cons_append, List.nil_append, am_w8_0, am_w8_1, am_w8_2, am_w8_3, am_w8_4, eq_self, or_true, true_or, am_kd_sI, am_kd_sL, am_kd_sR, am_tc_sI, am_tc_sL, am_tc_sR, am_len_sI, am_len_sL, am_len_sR, am_rfs, if_true, if_false, am_rdL_sI, am_rR_sL, am_rt_cq, am_kd_cq, am_tc_cq, am_len_cq, am_rd_sL, am_rd_sR, am_rdL_sR, f0, f1, f2, y10, y20, y21, y02, y12, ym0, ym1, ym2, l02, l12, l22, not_true, not_false_eq_true, okK_211 ok, d1', okK_211 ok1, d2]
  have o0 : (0 : Int32) = 0 ∨ (0 : Int32) = 1 := Or.inl rfl
  have o1 : (1 : Int32) = 0 ∨ (1 : Int32) = 1 := Or.inr rfl
  have x0 : am_ix 0 6 = true := by decide
  have x1 : am_ix 1 6 = true := by decide
  have z0 : (0 : Int32).toNatClampNeg = 0 := rfl
  have z1 : (1 : Int32).toNatClampNeg = 1 := rfl
  have xc : am_ix 1 81 = true := by decide
  have zc : (1 : Int32).toNatClampNeg = 1 := rfl
  have fin : ∀ (h4 : am_H), m_nm t L g (t_E t L s) (ln_r i) (if b_full i d = true then t_nt q 3 s else q) 0 (fun k => h1.1 221 k) (h1.1 211 21) (h1.1 211 22) h4 2 → ∃ h' : am_H, am_ev 190 140 [some (.ref 211), some (.long (lN 27691691706247534)), some (.retAddr 0), some (.int (nI s)), some (.int 1), some (.int 8), none] [] h4 = some (some (.int 1), h') ∧ m_st t L g h' (t_nx t L (t_E t L s) 2) (t_rq (ln_r i) (t_va t L (t_E t L s)) (t_nx t L (t_E t L s)) 2 (if b_full i d = true then t_nt q 3 s else q)) (t_nx t L (t_E t L s) 2) ∧ ((t_rq (ln_r i) (t_va t L (t_E t L s)) (t_nx t L (t_E t L s)) 2 (if b_full i d = true then t_nt q 3 s else q)).1 = 0 → b_mr h' (b_upd i (t_va t L (t_E t L s)) d)) ∧ b_mw h' := by
    intro h4 H4
    have ok4 := H4.1.1.1
    have E4 := H4.2.2.2.1
    have N0 : h4.1 222 0 = nI (t_va t L (t_E t L s) 0) := (H4.2.1 0 (by decide)).2
    have N1 : h4.1 222 1 = nI (t_va t L (t_E t L s) 1) := (H4.2.1 1 (by decide)).2
    have vc : h4.1 221 1 = nI n1 := (E4 1).trans ((a1 1).trans e1)
    by_cases k : n1 < 8
    · have k' : ¬ (8 : Int32) ≤ nI n1 := nI_ge (b := 8) k (by decide)
      have g1 : (13 : Int32) + nI n1 = nI (13 + n1) := nI_add 13 n1
      have i1 : am_ix (nI (13 + n1)) 81 = true := am_ix_nI (by omega) (by decide)
      have w1 : (nI (13 + n1)).toNatClampNeg = 13 + n1 := nI_clamp (by omega)
      have H5 := H4.w (13 + n1) (nI (t_va t L (t_E t L s) 0))
      have M1 : (am_sI h4 221 (13 + n1) (nI (t_va t L (t_E t L s) 0))).1 222 1 = nI (t_va t L (t_E t L s) 1) := (c_ne _ _ _ _ _ _ (by decide)).trans N1
      have g2 : (21 : Int32) + nI n1 = nI (21 + n1) := nI_add 21 n1
      have i2 : am_ix (nI (21 + n1)) 81 = true := am_ix_nI (by omega) (by decide)
      have w2 : (nI (21 + n1)).toNatClampNeg = 21 + n1 := nI_clamp (by omega)
      have H6 := H5.w (21 + n1) (nI (t_va t L (t_E t L s) 1))
      have Mc : (am_sI (am_sI h4 221 (13 + n1) (nI (t_va t L (t_E t L s) 0))) 221 (21 + n1) (nI (t_va t L (t_E t L s) 1))).1 221 1 = nI n1 := by rw [c_rw, if_neg (by omega), c_rw, if_neg (by omega)]; exact vc
      have H7 := H6.w 1 (nI (n1 + 1))
      have E7 := H7.2.2.2.1
      refine ⟨_, ?_, H7.1, fun z => ?_, ?_⟩
      · simp only [e190_0, e190_1, e190_4, e190_5, e190_8, e190_9, e190_12, e190_13, e190_16, e190_17, e190_20, e190_21, e190_24, e190_25, e190_28, e190_29, e190_32, e190_33, e190_36, e190_37, e190_39, e190_41, e190_42, e190_45, e190_46, e190_49, e190_50, e190_52, e190_55, e190_56, e190_59, e190_61, e190_62, e190_65, e190_67, e190_70, e190_72, e190_74, e190_75, e190_77, e190_79, e190_80, e190_83, e190_84, e190_87, e190_89, e190_90, e190_93, e190_94, e190_95, e190_96, e190_98, e190_101, e190_104, e190_107, e190_108, e190_109, e190_110, e190_112, e190_115, e190_118, e190_119, e190_120, e190_121, e190_123, e190_126, e190_127, e190_130, e190_132, e190_135, e190_138, e190_139, e190_140, e190_141, e190_144, e190_146, e190_147, e190_149, e190_151, e190_153, e190_156, e190_157, e190_160, e190_162, e190_165, e190_166, e190_169, e190_171, e190_172, e190_175, e190_177, e190_180, e190_182, e190_184, e190_185, e190_186, e190_189, e190_190, e190_191, e190_192, e190_194, e190_195, e190_198, e190_199, e190_202, e190_204, e190_207, e190_209, e190_212, e190_214, e190_216, e190_217, e190_218, e190_221, e190_222, e190_223, e190_224, e190_225, e190_228, e190_230, e190_231, e190_232, e190_233, e190_234, e190_235, e190_236, am_bd_some, Option.toList_some, Option.toList_none, List.cons_append, List.nil_append, am_w8_0, am_w8_1, am_w8_2, am_w8_3, am_w8_4, eq_self, or_true, true_or, am_kd_sI, am_kd_sL, am_kd_sR, am_tc_sI, am_tc_sL, am_tc_sR, am_len_sI, am_len_sL, am_len_sR, am_rfs, if_true, if_false, am_rdL_sI, am_rR_sL, am_rt_cq, am_kd_cq, am_tc_cq, am_len_cq, am_rd_sL, am_rd_sR, am_rdL_sR, okK_211 ok4, okR_211_19 ok4, okR_211_20 ok4, okT_221 ok4, okL_221 ok4, okT_222 ok4, okL_222 ok4, xc, zc, vc, k', y10, y20, y21, y02, y12, ym0, ym1, ym2, l02, l12, l22, not_true, not_false_eq_true, g1, i1, w1, x0, z0, N0, M1, g2, i2, w2, x1, z1, Mc, nI_1, o1]
      · obtain ⟨q1, -, q3⟩ := t_rq_0 z
        have ff := c_q0 q1
        rw [ff, if_neg (by decide)] at q1
        obtain ⟨⟨m0, m1, m2, m3, m4, m5⟩, p0, p1, p2⟩ := R q1
        have en := fi q1
        unfold b_upd
        rw [if_neg (by omega), if_pos c]
        refine ⟨⟨(E7 _).trans (by show (if 0 = 1 then nI (n1 + 1) else if 0 = 21 + n1 then nI (t_va t L (t_E t L s) 1) else if 0 = 13 + n1 then nI (t_va t L (t_E t L s) 0) else h1.1 221 (0)) = _; rw [if_neg (by omega), if_neg (by omega), if_neg (by omega)]; exact (a1 _).trans (m0)), (E7 _).trans (by show (if 1 = 1 then nI (n1 + 1) else if 1 = 21 + n1 then nI (t_va t L (t_E t L s) 1) else if 1 = 13 + n1 then nI (t_va t L (t_E t L s) 0) else h1.1 221 (1)) = _; rw [if_pos rfl, en]; rfl), (E7 _).trans (by show (if 2 = 1 then nI (n1 + 1) else if 2 = 21 + n1 then nI (t_va t L (t_E t L s) 1) else if 2 = 13 + n1 then nI (t_va t L (t_E t L s) 0) else h1.1 221 (2)) = _; rw [if_neg (by omega), if_neg (by omega), if_neg (by omega)]; exact (a1 _).trans (m2)), fun k hk => ?_, fun k hk => ?_, fun k hk => ?_⟩, ?_, ?_, ?_⟩
        · exact ⟨(E7 _).trans (by show (if 3 + k = 1 then nI (n1 + 1) else if 3 + k = 21 + n1 then nI (t_va t L (t_E t L s) 1) else if 3 + k = 13 + n1 then nI (t_va t L (t_E t L s) 0) else h1.1 221 (3 + k)) = _; rw [if_neg (by have hk' : k < B_d d := hk; omega), if_neg (by have hk' : k < B_d d := hk; omega), if_neg (by have hk' : k < B_d d := hk; omega)]; exact (a1 _).trans ((m3 k hk).1)), (E7 _).trans (by show (if 8 + k = 1 then nI (n1 + 1) else if 8 + k = 21 + n1 then nI (t_va t L (t_E t L s) 1) else if 8 + k = 13 + n1 then nI (t_va t L (t_E t L s) 0) else h1.1 221 (8 + k)) = _; rw [if_neg (by have hk' : k < B_d d := hk; omega), if_neg (by have hk' : k < B_d d := hk; omega), if_neg (by have hk' : k < B_d d := hk; omega)]; exact (a1 _).trans ((m3 k hk).2))⟩
        · have hk' : k < B_b d + 1 := hk
          refine ⟨(E7 _).trans ?_, (E7 _).trans ?_⟩
          · show (if 13 + k = 1 then nI (n1 + 1) else if 13 + k = 21 + n1 then nI (t_va t L (t_E t L s) 1) else if 13 + k = 13 + n1 then nI (t_va t L (t_E t L s) 0) else h1.1 221 (13 + k)) = nI (if k = B_b d then t_va t L (t_E t L s) 0 else B_need d k)
            rw [if_neg (by omega), if_neg (by omega)]
            by_cases ck : k = B_b d
            · rw [if_pos (by omega), if_pos ck]
            · rw [if_neg (by omega), if_neg ck]; exact (a1 _).trans (m4 k (by omega)).1
          · show (if 21 + k = 1 then nI (n1 + 1) else if 21 + k = 21 + n1 then nI (t_va t L (t_E t L s) 1) else if 21 + k = 13 + n1 then nI (t_va t L (t_E t L s) 0) else h1.1 221 (21 + k)) = nI (if k = B_b d then t_va t L (t_E t L s) 1 else B_worth d k)
            rw [if_neg (by omega)]
            by_cases ck : k = B_b d
            · rw [if_pos (by omega), if_pos ck]
            · rw [if_neg (by omega), if_neg (by omega), if_neg ck]; exact (a1 _).trans (m4 k (by omega)).2
        · exact (E7 _).trans (by show (if 29 + k = 1 then nI (n1 + 1) else if 29 + k = 21 + n1 then nI (t_va t L (t_E t L s) 1) else if 29 + k = 13 + n1 then nI (t_va t L (t_E t L s) 0) else h1.1 221 (29 + k)) = _; rw [if_neg (by have hk' : k < B_f d := hk; omega), if_neg (by have hk' : k < B_f d := hk; omega), if_neg (by have hk' : k < B_f d := hk; omega)]; exact (a1 _).trans (m5 k hk))
        · show B_d d ≤ 5; omega
        · show B_b d + 1 ≤ 8; omega
        · show B_f d ≤ 10; omega
      · exact ⟨n0, n1 + 1, n2, ⟨by omega, by omega, by omega⟩, (E7 _).trans (by show (if 0 = 1 then nI (n1 + 1) else if 0 = 21 + n1 then nI (t_va t L (t_E t L s) 1) else if 0 = 13 + n1 then nI (t_va t L (t_E t L s) 0) else h1.1 221 (0)) = _; rw [if_neg (by omega), if_neg (by omega), if_neg (by omega)]; exact (a1 _).trans (e0)), (E7 _).trans (by show (if 1 = 1 then nI (n1 + 1) else if 1 = 21 + n1 then nI (t_va t L (t_E t L s) 1) else if 1 = 13 + n1 then nI (t_va t L (t_E t L s) 0) else h1.1 221 (1)) = _; rw [if_pos rfl]), (E7 _).trans (by show (if 2 = 1 then nI (n1 + 1) else if 2 = 21 + n1 then nI (t_va t L (t_E t L s) 1) else if 2 = 13 + n1 then nI (t_va t L (t_E t L s) 0) else h1.1 221 (2)) = _; rw [if_neg (by omega), if_neg (by omega), if_neg (by omega)]; exact (a1 _).trans (e2))⟩
    · have k' : (8 : Int32) ≤ nI n1 := (nI_leI (a := 8) (by decide) (by omega)).mpr (by omega)
      refine ⟨h4, ?_, H4.1, fun z => ?_, ?_⟩
      · simp only [e190_0, e190_1, e190_4, e190_5, e190_8, e190_9, e190_12, e190_13, e190_16, e190_17, e190_20, e190_21, e190_24, e190_25, e190_28, e190_29, e190_32, e190_33, e190_36, e190_37, e190_39, e190_41, e190_42, e190_45, e190_46, e190_49, e190_50, e190_52, e190_55, e190_56, e190_59, e190_61, e190_62, e190_65, e190_67, e190_70, e190_72, e190_74, e190_75, e190_77, e190_79, e190_80, e190_83, e190_84, e190_87, e190_89, e190_90, e190_93, e190_94, e190_95, e190_96, e190_98, e190_101, e190_104, e190_107, e190_108, e190_109, e190_110, e190_112, e190_115, e190_118, e190_119, e190_120, e190_121, e190_123, e190_126, e190_127, e190_130, e190_132, e190_135, e190_138, e190_139, e190_140, e190_141, e190_144, e190_146, e190_147, e190_149, e190_151, e190_153, e190_156, e190_157, e190_160, e190_162, e190_165, e190_166, e190_169, e190_171, e190_172, e190_175, e190_177, e190_180, e190_182, e190_184, e190_185, e190_186, e190_189, e190_190, e190_191, e190_192, e190_194, e190_195, e190_198, e190_199, e190_202, e190_204, e190_207, e190_209, e190_212, e190_214, e190_216, e190_217, e190_218, e190_221, e190_222, e190_223, e190_224, e190_225, e190_228, e190_230, e190_231, e190_232, e190_233, e190_234, e190_235, e190_236, am_bd_some, Option.toList_some, Option.toList_none, List.cons_append, List.nil_append, am_w8_0, am_w8_1, am_w8_2, am_w8_3, am_w8_4, eq_self, or_true, true_or, am_kd_sI, am_kd_sL, am_kd_sR, am_tc_sI, am_tc_sL, am_tc_sR, am_len_sI, am_len_sL, am_len_sR, am_rfs, if_true, if_false, am_rdL_sI, am_rR_sL, am_rt_cq, am_kd_cq, am_tc_cq, am_len_cq, am_rd_sL, am_rd_sR, am_rdL_sR, okK_211 ok4, okR_211_19 ok4, okT_221 ok4, okL_221 ok4, xc, zc, vc, k', o1]
      · obtain ⟨q1, -, -⟩ := t_rq_0 z
        have ff := c_q0 q1
        rw [ff, if_neg (by decide)] at q1
        have en := fi q1
        rw [bf] at ff
        exact absurd (of_decide_eq_false ff) (by omega)
      · exact ⟨n0, n1, n2, ⟨l0, l1, l2⟩, (E4 _).trans ((a1 _).trans e0), (E4 _).trans ((a1 _).trans e1), (E4 _).trans ((a1 _).trans e2)⟩
  unfold m_lr
  obtain ⟨ln2, r0⟩ := b_r1 i hi is c
  have r1 := (b_r119 i hi is).1 c
  rw [ln2, ek]
  show (match (if t_K t L (t_nx t L (t_E t L s) 0) = 3 then (if t_K t L (t_nx t L (t_E t L s) 1) = 3 then none else some (t_nx t L (t_E t L s) 1)) else some (t_nx t L (t_E t L s) 0) : Option Nat) with
    | some p => _
    | none => _)
  obtain ⟨A0, B0⟩ := m_nu H2 (by decide) 1 9 (-1) (by decide) (by decide) (fun c => r_e r0 (t_v_lt c))
  by_cases k0 : t_K t L (t_nx t L (t_E t L s) 0) = 3
  · rw [if_pos k0]
    obtain ⟨h3, d3, H3, -⟩ := B0 k0
    have ok3 := H3.1.1.1
    have d3' := den_take h2 ok2 0 1 9 1 h3 d3 o1
    obtain ⟨A1, B1⟩ := m_nu H3 (by decide) 0 99 (-1) (by decide) (by decide) (fun c => r_w r1 (t_v_lt c))
    by_cases k1 : t_K t L (t_nx t L (t_E t L s) 1) = 3
    · rw [if_pos k1]
      obtain ⟨h4, d4, H4, -⟩ := B1 k1
      have d4' := den_take h3 ok3 1 0 99 1 h4 d4 o1
      obtain ⟨h5, s5, r5⟩ := fin h4 H4
      refine ⟨h5, ?_, r5⟩
      show am_ev 190 0 [some (.ref 211), some (.long (lN 27691691706247534)), some (.retAddr 0), some (.int (nI s)), none, none, none] [] h = _
      rw [s1, ← s5]
      simp only [e190_0, e190_1, e190_4, e190_5, e190_8, e190_9, e190_12, e190_13, e190_16, e190_17, e190_20, e190_21, e190_24, e190_25, e190_28, e190_29, e190_32, e190_33, e190_36, e190_37, e190_39, e190_41, e190_42, e190_45, e190_46, e190_49, e190_50, e190_52, e190_55, e190_56, e190_59, e190_61, e190_62, e190_65, e190_67, e190_70, e190_72, e190_74, e190_75, e190_77, e190_79, e190_80, e190_83, e190_84, e190_87, e190_89, e190_90, e190_93, e190_94, e190_95, e190_96, e190_98, e190_101, e190_104, e190_107, e190_108, e190_109, e190_110, e190_112, e190_115, e190_118, e190_119, e190_120, e190_121, e190_123, e190_126, e190_127, e190_130, e190_132, e190_135, e190_138, e190_139, e190_141, e190_144, e190_146, e190_147, e190_149, e190_151, e190_153, e190_156, e190_157, e190_160, e190_162, e190_165, e190_166, e190_169, e190_171, e190_172, e190_175, e190_177, e190_180, e190_182, e190_184, e190_185, e190_186, e190_189, e190_190, e190_191, e190_192, e190_194, e190_195, e190_198, e190_199, e190_202, e190_204, e190_207, e190_209, e190_212, e190_214, e190_216, e190_217, e190_218, e190_221, e190_222, e190_223, e190_224, e190_225, e190_228, e190_230, e190_231, e190_232, e190_233, e190_234, e190_235, e190_236, am_bd_some, Option.toList_some, Option.toList_none, List.cons_append, List.nil_append, am_w8_0, am_w8_1, am_w8_2, am_w8_3, am_w8_4, eq_self, or_true, true_or, am_kd_sI, am_kd_sL, am_kd_sR, am_tc_sI, am_tc_sL, am_tc_sR, am_len_sI, am_len_sL, am_len_sR, am_rfs, if_true, if_false, am_rdL_sI, am_rR_sL, am_rt_cq, am_kd_cq, am_tc_cq, am_len_cq, am_rd_sL, am_rd_sR, am_rdL_sR, y10, y20, y21, y02, y12, ym0, ym1, ym2, l02, l12, l22, not_true, not_false_eq_true, okK_211 ok2, d3', okK_211 ok3, d4']
    · rw [if_neg k1]
      obtain ⟨h4, d4, b4⟩ := A1 k1
      have d4' := den_take h3 ok3 1 0 99 0 h4 d4 o0
      refine ⟨h4, ?_, b4⟩
      show am_ev 190 0 [some (.ref 211), some (.long (lN 27691691706247534)), some (.retAddr 0), some (.int (nI s)), none, none, none] [] h = _
      rw [s1]
      simp only [e190_0, e190_1, e190_4, e190_5, e190_8, e190_9, e190_12, e190_13, e190_16, e190_17, e190_20, e190_21, e190_24, e190_25, e190_28, e190_29, e190_32, e190_33, e190_36, e190_37, e190_39, e190_41, e190_42, e190_45, e190_46, e190_49, e190_50, e190_52, e190_55, e190_56, e190_59, e190_61, e190_62, e190_65, e190_67, e190_70, e190_72, e190_74, e190_75, e190_77, e190_79, e190_80, e190_83, e190_84, e190_87, e190_89, e190_90, e190_93, e190_94, e190_95, e190_96, e190_98, e190_101, e190_104, e190_107, e190_108, e190_109, e190_110, e190_112, e190_115, e190_118, e190_119, e190_120, e190_121, e190_123, e190_126, e190_127, e190_130, e190_132, e190_135, e190_138, e190_139, e190_140, e190_141, e190_144, e190_146, e190_147, e190_149, e190_151, e190_153, e190_156, e190_157, e190_160, e190_162, e190_165, e190_166, e190_169, e190_171, e190_172, e190_175, e190_177, e190_180, e190_182, e190_184, e190_185, e190_186, e190_189, e190_190, e190_191, e190_192, e190_194, e190_195, e190_198, e190_199, e190_202, e190_204, e190_207, e190_209, e190_212, e190_214, e190_216, e190_217, e190_218, e190_221, e190_222, e190_223, e190_224, e190_225, e190_228, e190_230, e190_231, e190_232, e190_233, e190_234, e190_235, e190_236, am_bd_some, Option.toList_some, Option.toList_none, List.cons_append, List.nil_append, am_w8_0, am_w8_1, am_w8_2, am_w8_3, am_w8_4, eq_self, or_true, true_or, am_kd_sI, am_kd_sL, am_kd_sR, am_tc_sI, am_tc_sL, am_tc_sR, am_len_sI, am_len_sL, am_len_sR, am_rfs, if_true, if_false, am_rdL_sI, am_rR_sL, am_rt_cq, am_kd_cq, am_tc_cq, am_len_cq, am_rd_sL, am_rd_sR, am_rdL_sR, y10, y20, y21, y02, y12, ym0, ym1, ym2, l02, l12, l22, not_true, not_false_eq_true, okK_211 ok2, d3', okK_211 ok3, d4', o0]
  · rw [if_neg k0]
    obtain ⟨h3, d3, b3⟩ := A0 k0
    have d3' := den_take h2 ok2 0 1 9 0 h3 d3 o0
    refine ⟨h3, ?_, b3⟩
    show am_ev 190 0 [some (.ref 211), some (.long (lN 27691691706247534)), some (.retAddr 0), some (.int (nI s)), none, none, none] [] h = _
    rw [s1]
    simp only [e190_0, e190_1, e190_4, e190_5, e190_8, e190_9, e190_12, e190_13, e190_16, e190_17, e190_20, e190_21, e190_24, e190_25, e190_28, e190_29, e190_32, e190_33, e190_36, e190_37, e190_39, e190_41, e190_42, e190_45, e190_46, e190_49, e190_50, e190_52, e190_55, e190_56, e190_59, e190_61, e190_62, e190_65, e190_67, e190_70, e190_72, e190_74, e190_75, e190_77, e190_79, e190_80, e190_83, e190_84, e190_87, e190_89, e190_90, e190_93, e190_94, e190_95, e190_96, e190_98, e190_101, e190_104, e190_107, e190_108, e190_109, e190_110, e190_112, e190_115, e190_118, e190_119, e190_120, e190_121, e190_123, e190_126, e190_127, e190_130, e190_132, e190_135, e190_138, e190_139, e190_140, e190_141, e190_144, e190_146, e190_147, e190_149, e190_151, e190_153, e190_156, e190_157, e190_160, e190_162, e190_165, e190_166, e190_169, e190_171, e190_172, e190_175, e190_177, e190_180, e190_182, e190_184, e190_185, e190_186, e190_189, e190_190, e190_191, e190_192, e190_194, e190_195, e190_198, e190_199, e190_202, e190_204, e190_207, e190_209, e190_212, e190_214, e190_216, e190_217, e190_218, e190_221, e190_222, e190_223, e190_224, e190_225, e190_228, e190_230, e190_231, e190_232, e190_233, e190_234, e190_235, e190_236, am_bd_some, Option.toList_some, Option.toList_none, List.cons_append, List.nil_append, am_w8_0, am_w8_1, am_w8_2, am_w8_3, am_w8_4, eq_self, or_true, true_or, am_kd_sI, am_kd_sL, am_kd_sR, am_tc_sI, am_tc_sL, am_tc_sR, am_len_sI, am_len_sL, am_len_sR, am_rfs, if_true, if_false, am_rdL_sI, am_rR_sL, am_rt_cq, am_kd_cq, am_tc_cq, am_len_cq, am_rd_sL, am_rd_sR, am_rdL_sR, y10, y20, y21, y02, y12, ym0, ym1, ym2, l02, l12, l22, not_true, not_false_eq_true, okK_211 ok2, d3', o0]
theorem m_bl_2 {t : Nat → Nat} {L : Nat} {g h : am_H} {s : Nat} {q : Nat × Nat} (H : m_st t L g h s q s) (hs : s < L) (G : h.1 211 23 = 1) (d : q_Bk) (R : q.1 = 0 → b_mr h d) (Rw : b_mw h) (i : Nat) (hi : i < 18) (is : ln_s i = 2) (c : ln_c i = 2) : m_lr b_mr b_mw b_full b_upd t L g 190 (ln_k i) h s q d i := by
  have ok := H.1.1
  obtain ⟨n0, n1, n2, ⟨l0, l1, l2⟩, e0, e1, e2⟩ := Rw
  have ek : ln_k i = 439854918756 := by rw [b_kk i hi is]; rw [if_neg (by omega)]; exact if_neg (by omega)
  have f0 : (lg_cmp (lN 439854918756) 6582119 = 0) = False := eq_false (fun w => absurd ((m_lg (c := 6582119) (by decide) (by decide)).mp w) (by decide))
  have f1 : (lg_cmp (lN 439854918756) 27691691706247534 = 0) = False := eq_false (fun w => absurd ((m_lg (c := 27691691706247534) (by decide) (by decide)).mp w) (by decide))
  have f2 : (lg_cmp (lN 439854918756) 439854918756 = 0) = True := eq_true ((m_lg (c := 439854918756) (by decide) (by decide)).mpr rfl)
  have y10 : ¬ (1 : Int32) = 0 := by decide
  have y20 : ¬ (2 : Int32) = 0 := by decide
  have y21 : ¬ (2 : Int32) = 1 := by decide
  have y02 : ¬ (0 : Int32) = 2 := by decide
  have y12 : ¬ (1 : Int32) = 2 := by decide
  have ym0 : ¬ (0 : Int32) = -1 := by decide
  have ym1 : ¬ (1 : Int32) = -1 := by decide
  have ym2 : ¬ (2 : Int32) = -1 := by decide
  have l02 : ¬ (2 : Int32) ≤ 0 := by decide
  have l12 : ¬ (2 : Int32) ≤ 1 := by decide
  have l22 : (2 : Int32) ≤ 2 := by decide
  have bf : b_full i d = decide (¬ B_f d < 10) := by unfold b_full; rw [if_neg (by omega)]; exact if_neg (by omega)
  have fi : q.1 = 0 → B_f d = n2 := fun w => by
    obtain ⟨⟨a0, a1, a2, -⟩, p0, p1, p2⟩ := R w
    exact (nI_eq (by omega) (by omega)).mp (a2.symm.trans e2)
  obtain ⟨h1, d1, S1, a1, a2, a3⟩ := m_full H 2 10 n2 (by decide) (by decide) l2 e2 (b_full i d) (fun w => by
    have := fi w
    have p := (R w).2
    rw [bf, decide_eq_true_eq]
    omega)
  have ok1 := S1.1.1
  obtain ⟨h2, d2, H2, -⟩ := m_beg S1 hs ((a3 23 (by decide)).trans G) (ln_r i) 0
  have ok2 := H2.1.1.1
  have d1' : am_den 180 [.ref 211, .int 2, .int 10, .int (nI s)] h = some (none, h1) := d1
  have s1 : am_ev 190 0 [some (.ref 211), some (.long (lN 439854918756)), some (.retAddr 0), some (.int (nI s)), none, none, none] [] h = am_ev 190 87 [some (.ref 211), some (.long (lN 439854918756)), some (.retAddr 0), some (.int (nI s)), some (.int 2), some (.int 10), none] [] h2 := by
    simp only [e190_0, e190_1, e190_4, e190_5, e190_8, e190_9, e190_12, e190_13, e190_16, e190_17, e190_20, e190_21, e190_24, e190_25, e190_28, e190_29, e190_32, e190_33, e190_36, e190_37, e190_39, e190_41, e190_42, e190_45, e190_46, e190_49, e190_50, e190_52, e190_55, e190_56, e190_59, e190_61, e190_62, e190_65, e190_67, e190_70, e190_72, e190_74, e190_75, e190_77, e190_79, e190_80, e190_83, e190_84, e190_89, e190_90, e190_93, e190_94, e190_95, e190_96, e190_98, e190_101, e190_104, e190_107, e190_108, e190_109, e190_110, e190_112, e190_115, e190_118, e190_119, e190_120, e190_121, e190_123, e190_126, e190_127, e190_130, e190_132, e190_135, e190_138, e190_139, e190_140, e190_141, e190_144, e190_146, e190_147, e190_149, e190_151, e190_153, e190_156, e190_157, e190_160, e190_162, e190_165, e190_166, e190_169, e190_171, e190_172, e190_175, e190_177, e190_180, e190_182, e190_184, e190_185, e190_186, e190_189, e190_190, e190_191, e190_192, e190_194, e190_195, e190_198, e190_199, e190_202, e190_204, e190_207, e190_209, e190_212, e190_214, e190_216, e190_217, e190_218, e190_221, e190_222, e190_223, e190_224, e190_225, e190_228, e190_230, e190_231, e190_232, e190_233, e190_234, e190_235, e190_236, am_bd_some, Option.toList_some, Option.toList_none, List.cons_append, List.nil_append, am_w8_0, am_w8_1, am_w8_2, am_w8_3, am_w8_4, eq_self, or_true, true_or, am_kd_sI, am_kd_sL, am_kd_sR, am_tc_sI, am_tc_sL, am_tc_sR, am_len_sI, am_len_sL, am_len_sR, am_rfs, if_true, if_false, am_rdL_sI, am_rR_sL, am_rt_cq, am_kd_cq, am_tc_cq, am_len_cq, am_rd_sL, am_rd_sR, am_rdL_sR, f0, f1, f2, y10, y20, y21, y02, y12, ym0, ym1, ym2, l02, l12, l22, not_true, not_false_eq_true, okK_211 ok, d1', okK_211 ok1, d2]
  have o0 : (0 : Int32) = 0 ∨ (0 : Int32) = 1 := Or.inl rfl
  have o1 : (1 : Int32) = 0 ∨ (1 : Int32) = 1 := Or.inr rfl
  have x0 : am_ix 0 6 = true := by decide
  have x1 : am_ix 1 6 = true := by decide
  have z0 : (0 : Int32).toNatClampNeg = 0 := rfl
  have z1 : (1 : Int32).toNatClampNeg = 1 := rfl
  have xc : am_ix 2 81 = true := by decide
  have zc : (2 : Int32).toNatClampNeg = 2 := rfl
  have fin : ∀ (h4 : am_H), m_nm t L g (t_E t L s) (ln_r i) (if b_full i d = true then t_nt q 3 s else q) 0 (fun k => h1.1 221 k) (h1.1 211 21) (h1.1 211 22) h4 1 → ∃ h' : am_H, am_ev 190 140 [some (.ref 211), some (.long (lN 439854918756)), some (.retAddr 0), some (.int (nI s)), some (.int 2), some (.int 10), none] [] h4 = some (some (.int 1), h') ∧ m_st t L g h' (t_nx t L (t_E t L s) 1) (t_rq (ln_r i) (t_va t L (t_E t L s)) (t_nx t L (t_E t L s)) 1 (if b_full i d = true then t_nt q 3 s else q)) (t_nx t L (t_E t L s) 1) ∧ ((t_rq (ln_r i) (t_va t L (t_E t L s)) (t_nx t L (t_E t L s)) 1 (if b_full i d = true then t_nt q 3 s else q)).1 = 0 → b_mr h' (b_upd i (t_va t L (t_E t L s)) d)) ∧ b_mw h' := by
    intro h4 H4
    have ok4 := H4.1.1.1
    have E4 := H4.2.2.2.1
    have N0 : h4.1 222 0 = nI (t_va t L (t_E t L s) 0) := (H4.2.1 0 (by decide)).2
    have vc : h4.1 221 2 = nI n2 := (E4 2).trans ((a1 2).trans e2)
    by_cases k : n2 < 10
    · have k' : ¬ (10 : Int32) ≤ nI n2 := nI_ge (b := 10) k (by decide)
      have g1 : (29 : Int32) + nI n2 = nI (29 + n2) := nI_add 29 n2
      have i1 : am_ix (nI (29 + n2)) 81 = true := am_ix_nI (by omega) (by decide)
      have w1 : (nI (29 + n2)).toNatClampNeg = 29 + n2 := nI_clamp (by omega)
      have H5 := H4.w (29 + n2) (nI (t_va t L (t_E t L s) 0))
      have Mc : (am_sI h4 221 (29 + n2) (nI (t_va t L (t_E t L s) 0))).1 221 2 = nI n2 := by rw [c_rw, if_neg (by omega)]; exact vc
      have H7 := H5.w 2 (nI (n2 + 1))
      have E7 := H7.2.2.2.1
      refine ⟨_, ?_, H7.1, fun z => ?_, ?_⟩
      · simp only [e190_0, e190_1, e190_4, e190_5, e190_8, e190_9, e190_12, e190_13, e190_16, e190_17, e190_20, e190_21, e190_24, e190_25, e190_28, e190_29, e190_32, e190_33, e190_36, e190_37, e190_39, e190_41, e190_42, e190_45, e190_46, e190_49, e190_50, e190_52, e190_55, e190_56, e190_59, e190_61, e190_62, e190_65, e190_67, e190_70, e190_72, e190_74, e190_75, e190_77, e190_79, e190_80, e190_83, e190_84, e190_87, e190_89, e190_90, e190_93, e190_94, e190_95, e190_96, e190_98, e190_101, e190_104, e190_107, e190_108, e190_109, e190_110, e190_112, e190_115, e190_118, e190_119, e190_120, e190_121, e190_123, e190_126, e190_127, e190_130, e190_132, e190_135, e190_138, e190_139, e190_140, e190_141, e190_144, e190_146, e190_147, e190_149, e190_151, e190_153, e190_156, e190_157, e190_160, e190_162, e190_165, e190_166, e190_169, e190_171, e190_172, e190_175, e190_177, e190_180, e190_182, e190_184, e190_185, e190_186, e190_189, e190_190, e190_191, e190_192, e190_194, e190_195, e190_198, e190_199, e190_202, e190_204, e190_207, e190_209, e190_212, e190_214, e190_216, e190_217, e190_218, e190_221, e190_222, e190_223, e190_224, e190_225, e190_228, e190_230, e190_231, e190_232, e190_233, e190_234, e190_235, e190_236, am_bd_some, Option.toList_some, Option.toList_none, List.cons_append, List.nil_append, am_w8_0, am_w8_1, am_w8_2, am_w8_3, am_w8_4, eq_self, or_true, true_or, am_kd_sI, am_kd_sL, am_kd_sR, am_tc_sI, am_tc_sL, am_tc_sR, am_len_sI, am_len_sL, am_len_sR, am_rfs, if_true, if_false, am_rdL_sI, am_rR_sL, am_rt_cq, am_kd_cq, am_tc_cq, am_len_cq, am_rd_sL, am_rd_sR, am_rdL_sR, okK_211 ok4, okR_211_19 ok4, okR_211_20 ok4, okT_221 ok4, okL_221 ok4, okT_222 ok4, okL_222 ok4, xc, zc, vc, k', y10, y20, y21, y02, y12, ym0, ym1, ym2, l02, l12, l22, not_true, not_false_eq_true, g1, i1, w1, x0, z0, N0, Mc, nI_1, o1]
      · obtain ⟨q1, -, q3⟩ := t_rq_0 z
        have ff := c_q0 q1
        rw [ff, if_neg (by decide)] at q1
        obtain ⟨⟨m0, m1, m2, m3, m4, m5⟩, p0, p1, p2⟩ := R q1
        have en := fi q1
        unfold b_upd
        rw [if_neg (by omega), if_neg (by omega)]
        refine ⟨⟨(E7 _).trans (by show (if 0 = 2 then nI (n2 + 1) else if 0 = 29 + n2 then nI (t_va t L (t_E t L s) 0) else h1.1 221 (0)) = _; rw [if_neg (by omega), if_neg (by omega)]; exact (a1 _).trans (m0)), (E7 _).trans (by show (if 1 = 2 then nI (n2 + 1) else if 1 = 29 + n2 then nI (t_va t L (t_E t L s) 0) else h1.1 221 (1)) = _; rw [if_neg (by omega), if_neg (by omega)]; exact (a1 _).trans (m1)), (E7 _).trans (by show (if 2 = 2 then nI (n2 + 1) else if 2 = 29 + n2 then nI (t_va t L (t_E t L s) 0) else h1.1 221 (2)) = _; rw [if_pos rfl, en]; rfl), fun k hk => ?_, fun k hk => ?_, fun k hk => ?_⟩, ?_, ?_, ?_⟩
        · exact ⟨(E7 _).trans (by show (if 3 + k = 2 then nI (n2 + 1) else if 3 + k = 29 + n2 then nI (t_va t L (t_E t L s) 0) else h1.1 221 (3 + k)) = _; rw [if_neg (by have hk' : k < B_d d := hk; omega), if_neg (by have hk' : k < B_d d := hk; omega)]; exact (a1 _).trans ((m3 k hk).1)), (E7 _).trans (by show (if 8 + k = 2 then nI (n2 + 1) else if 8 + k = 29 + n2 then nI (t_va t L (t_E t L s) 0) else h1.1 221 (8 + k)) = _; rw [if_neg (by have hk' : k < B_d d := hk; omega), if_neg (by have hk' : k < B_d d := hk; omega)]; exact (a1 _).trans ((m3 k hk).2))⟩
        · exact ⟨(E7 _).trans (by show (if 13 + k = 2 then nI (n2 + 1) else if 13 + k = 29 + n2 then nI (t_va t L (t_E t L s) 0) else h1.1 221 (13 + k)) = _; rw [if_neg (by have hk' : k < B_b d := hk; omega), if_neg (by have hk' : k < B_b d := hk; omega)]; exact (a1 _).trans ((m4 k hk).1)), (E7 _).trans (by show (if 21 + k = 2 then nI (n2 + 1) else if 21 + k = 29 + n2 then nI (t_va t L (t_E t L s) 0) else h1.1 221 (21 + k)) = _; rw [if_neg (by have hk' : k < B_b d := hk; omega), if_neg (by have hk' : k < B_b d := hk; omega)]; exact (a1 _).trans ((m4 k hk).2))⟩
        · have hk' : k < B_f d + 1 := hk
          refine (E7 _).trans ?_
          show (if 29 + k = 2 then nI (n2 + 1) else if 29 + k = 29 + n2 then nI (t_va t L (t_E t L s) 0) else h1.1 221 (29 + k)) = nI (if k = B_f d then t_va t L (t_E t L s) 0 else B_field d k)
          rw [if_neg (by omega)]
          by_cases ck : k = B_f d
          · rw [if_pos (by omega), if_pos ck]
          · rw [if_neg (by omega), if_neg ck]; exact (a1 _).trans (m5 k (by omega))
        · show B_d d ≤ 5; omega
        · show B_b d ≤ 8; omega
        · show B_f d + 1 ≤ 10; omega
      · exact ⟨n0, n1, n2 + 1, ⟨by omega, by omega, by omega⟩, (E7 _).trans (by show (if 0 = 2 then nI (n2 + 1) else if 0 = 29 + n2 then nI (t_va t L (t_E t L s) 0) else h1.1 221 (0)) = _; rw [if_neg (by omega), if_neg (by omega)]; exact (a1 _).trans (e0)), (E7 _).trans (by show (if 1 = 2 then nI (n2 + 1) else if 1 = 29 + n2 then nI (t_va t L (t_E t L s) 0) else h1.1 221 (1)) = _; rw [if_neg (by omega), if_neg (by omega)]; exact (a1 _).trans (e1)), (E7 _).trans (by show (if 2 = 2 then nI (n2 + 1) else if 2 = 29 + n2 then nI (t_va t L (t_E t L s) 0) else h1.1 221 (2)) = _; rw [if_pos rfl])⟩
    · have k' : (10 : Int32) ≤ nI n2 := (nI_leI (a := 10) (by decide) (by omega)).mpr (by omega)
      refine ⟨h4, ?_, H4.1, fun z => ?_, ?_⟩
      · simp only [e190_0, e190_1, e190_4, e190_5, e190_8, e190_9, e190_12, e190_13, e190_16, e190_17, e190_20, e190_21, e190_24, e190_25, e190_28, e190_29, e190_32, e190_33, e190_36, e190_37, e190_39, e190_41, e190_42, e190_45, e190_46, e190_49, e190_50, e190_52, e190_55, e190_56, e190_59, e190_61, e190_62, e190_65, e190_67, e190_70, e190_72, e190_74, e190_75, e190_77, e190_79, e190_80, e190_83, e190_84, e190_87, e190_89, e190_90, e190_93, e190_94, e190_95, e190_96, e190_98, e190_101, e190_104, e190_107, e190_108, e190_109, e190_110, e190_112, e190_115, e190_118, e190_119, e190_120, e190_121, e190_123, e190_126, e190_127, e190_130, e190_132, e190_135, e190_138, e190_139, e190_140, e190_141, e190_144, e190_146, e190_147, e190_149, e190_151, e190_153, e190_156, e190_157, e190_160, e190_162, e190_165, e190_166, e190_169, e190_171, e190_172, e190_175, e190_177, e190_180, e190_182, e190_184, e190_185, e190_186, e190_189, e190_190, e190_191, e190_192, e190_194, e190_195, e190_198, e190_199, e190_202, e190_204, e190_207, e190_209, e190_212, e190_214, e190_216, e190_217, e190_218, e190_221, e190_222, e190_223, e190_224, e190_225, e190_228, e190_230, e190_231, e190_232, e190_233, e190_234, e190_235, e190_236, am_bd_some, Option.toList_some, Option.toList_none, List.cons_append, List.nil_append, am_w8_0, am_w8_1, am_w8_2, am_w8_3, am_w8_4, eq_self, or_true, true_or, am_kd_sI, am_kd_sL, am_kd_sR, am_tc_sI, am_tc_sL, am_tc_sR, am_len_sI, am_len_sL, am_len_sR, am_rfs, if_true, if_false, am_rdL_sI, am_rR_sL, am_rt_cq, am_kd_cq, am_tc_cq, am_len_cq, am_rd_sL, am_rd_sR, am_rdL_sR, okK_211 ok4, okR_211_19 ok4, okT_221 ok4, okL_221 ok4, xc, zc, vc, k', o1]
      · obtain ⟨q1, -, -⟩ := t_rq_0 z
        have ff := c_q0 q1
        rw [ff, if_neg (by decide)] at q1
        have en := fi q1
        rw [bf] at ff
        exact absurd (of_decide_eq_false ff) (by omega)
      · exact ⟨n0, n1, n2, ⟨l0, l1, l2⟩, (E4 _).trans ((a1 _).trans e0), (E4 _).trans ((a1 _).trans e1), (E4 _).trans ((a1 _).trans e2)⟩
  unfold m_lr
  have ln1 := b_r2 i hi is c
  have r0 := (b_r119 i hi is).2 c
  rw [ln1, ek]
  show (match (if t_K t L (t_nx t L (t_E t L s) 0) = 3 then none else some (t_nx t L (t_E t L s) 0) : Option Nat) with
    | some p => _
    | none => _)
  obtain ⟨A0, B0⟩ := m_nu H2 (by decide) 0 99 (-1) (by decide) (by decide) (fun c => r_w r0 (t_v_lt c))
  by_cases k0 : t_K t L (t_nx t L (t_E t L s) 0) = 3
  · rw [if_pos k0]
    obtain ⟨h3, d3, H3, -⟩ := B0 k0
    have d3' := den_take h2 ok2 0 0 99 1 h3 d3 o1
    obtain ⟨h5, s5, r5⟩ := fin h3 H3
    refine ⟨h5, ?_, r5⟩
    show am_ev 190 0 [some (.ref 211), some (.long (lN 439854918756)), some (.retAddr 0), some (.int (nI s)), none, none, none] [] h = _
    rw [s1, ← s5]
    simp only [e190_0, e190_1, e190_4, e190_5, e190_8, e190_9, e190_12, e190_13, e190_16, e190_17, e190_20, e190_21, e190_24, e190_25, e190_28, e190_29, e190_32, e190_33, e190_36, e190_37, e190_39, e190_41, e190_42, e190_45, e190_46, e190_49, e190_50, e190_52, e190_55, e190_56, e190_59, e190_61, e190_62, e190_65, e190_67, e190_70, e190_72, e190_74, e190_75, e190_77, e190_79, e190_80, e190_83, e190_84, e190_87, e190_89, e190_90, e190_93, e190_94, e190_95, e190_96, e190_98, e190_101, e190_104, e190_107, e190_108, e190_109, e190_110, e190_112, e190_115, e190_118, e190_119, e190_120, e190_121, e190_123, e190_126, e190_127, e190_130, e190_132, e190_135, e190_138, e190_139, e190_141, e190_144, e190_146, e190_147, e190_149, e190_151, e190_153, e190_156, e190_157, e190_160, e190_162, e190_165, e190_166, e190_169, e190_171, e190_172, e190_175, e190_177, e190_180, e190_182, e190_184, e190_185, e190_186, e190_189, e190_190, e190_191, e190_192, e190_194, e190_195, e190_198, e190_199, e190_202, e190_204, e190_207, e190_209, e190_212, e190_214, e190_216, e190_217, e190_218, e190_221, e190_222, e190_223, e190_224, e190_225, e190_228, e190_230, e190_231, e190_232, e190_233, e190_234, e190_235, e190_236, am_bd_some, Option.toList_some, Option.toList_none, List.cons_append, List.nil_append, am_w8_0, am_w8_1, am_w8_2, am_w8_3, am_w8_4, eq_self, or_true, true_or, am_kd_sI, am_kd_sL, am_kd_sR, am_tc_sI, am_tc_sL, am_tc_sR, am_len_sI, am_len_sL, am_len_sR, am_rfs, if_true, if_false, am_rdL_sI, am_rR_sL, am_rt_cq, am_kd_cq, am_tc_cq, am_len_cq, am_rd_sL, am_rd_sR, am_rdL_sR, y10, y20, y21, y02, y12, ym0, ym1, ym2, l02, l12, l22, not_true, not_false_eq_true, okK_211 ok2, d3']
  · rw [if_neg k0]
    obtain ⟨h3, d3, b3⟩ := A0 k0
    have d3' := den_take h2 ok2 0 0 99 0 h3 d3 o0
    refine ⟨h3, ?_, b3⟩
    show am_ev 190 0 [some (.ref 211), some (.long (lN 439854918756)), some (.retAddr 0), some (.int (nI s)), none, none, none] [] h = _
    rw [s1]
    simp only [e190_0, e190_1, e190_4, e190_5, e190_8, e190_9, e190_12, e190_13, e190_16, e190_17, e190_20, e190_21, e190_24, e190_25, e190_28, e190_29, e190_32, e190_33, e190_36, e190_37, e190_39, e190_41, e190_42, e190_45, e190_46, e190_49, e190_50, e190_52, e190_55, e190_56, e190_59, e190_61, e190_62, e190_65, e190_67, e190_70, e190_72, e190_74, e190_75, e190_77, e190_79, e190_80, e190_83, e190_84, e190_87, e190_89, e190_90, e190_93, e190_94, e190_95, e190_96, e190_98, e190_101, e190_104, e190_107, e190_108, e190_109, e190_110, e190_112, e190_115, e190_118, e190_119, e190_120, e190_121, e190_123, e190_126, e190_127, e190_130, e190_132, e190_135, e190_138, e190_139, e190_140, e190_141, e190_144, e190_146, e190_147, e190_149, e190_151, e190_153, e190_156, e190_157, e190_160, e190_162, e190_165, e190_166, e190_169, e190_171, e190_172, e190_175, e190_177, e190_180, e190_182, e190_184, e190_185, e190_186, e190_189, e190_190, e190_191, e190_192, e190_194, e190_195, e190_198, e190_199, e190_202, e190_204, e190_207, e190_209, e190_212, e190_214, e190_216, e190_217, e190_218, e190_221, e190_222, e190_223, e190_224, e190_225, e190_228, e190_230, e190_231, e190_232, e190_233, e190_234, e190_235, e190_236, am_bd_some, Option.toList_some, Option.toList_none, List.cons_append, List.nil_append, am_w8_0, am_w8_1, am_w8_2, am_w8_3, am_w8_4, eq_self, or_true, true_or, am_kd_sI, am_kd_sL, am_kd_sR, am_tc_sI, am_tc_sL, am_tc_sR, am_len_sI, am_len_sL, am_len_sR, am_rfs, if_true, if_false, am_rdL_sI, am_rR_sL, am_rt_cq, am_kd_cq, am_tc_cq, am_len_cq, am_rd_sL, am_rd_sR, am_rdL_sR, y10, y20, y21, y02, y12, ym0, ym1, ym2, l02, l12, l22, not_true, not_false_eq_true, okK_211 ok2, d3', o0]
theorem m_bl {t : Nat → Nat} {L : Nat} {g h : am_H} {s : Nat} {q : Nat × Nat} (H : m_st t L g h s q s) (hs : s < L) (G : h.1 211 23 = 1) (d : q_Bk) (R : q.1 = 0 → b_mr h d) (Rw : b_mw h) (i : Nat) (hi : i < 18) (is : ln_s i = 2) : m_lr b_mr b_mw b_full b_upd t L g 190 (ln_k i) h s q d i := by
  rcases b_r3 i hi is with c | c | c
  · exact m_bl_0 H hs G d R Rw i hi is c
  · exact m_bl_1 H hs G d R Rw i hi is c
  · exact m_bl_2 H hs G d R Rw i hi is c
