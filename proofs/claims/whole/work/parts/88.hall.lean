/-! part 88: dogs for bargains: what is meant; who is enough for one need is so for all that need less -/
theorem e129_0 {ls : List (Option Value)} {st : List Value} {h : am_H} {l0 : Option Value} {a : Nat} : am_ev 129 0 (l0 :: some (.ref a) :: ls) (st) h = am_ev 129 1 (l0 :: some (.ref a) :: ls) (.ref a :: st) h := am_ev_step (q := (1, l0 :: some (.ref a) :: ls, .ref a :: st, h)) _ (.aload_n 1) 1 am_my_129 (by decide +kernel) rfl
theorem e129_1 {ls : List (Option Value)} {st : List Value} {h : am_H} {o : Nat} (hk : am_kd h o = some (.inl 0)) : am_ev 129 1 ls (.ref o :: st) h = am_ev 129 4 ls (va_rf (h.2.2.1 o 4) :: st) h := am_u_gfR (idx := 27) (wn := 1132) (a := 0) am_my_129 (by decide +kernel) (by decide +kernel) (by decide +kernel) hk
theorem e129_4 {ls : List (Option Value)} {st : List Value} {h : am_H} : am_ev 129 4 (ls) (st) h = am_ev 129 5 (ls) (.int (0) :: st) h := am_ev_step (q := (5, ls, .int (0) :: st, h)) _ (.iconst (0)) 1 am_my_129 (by decide +kernel) rfl
theorem e129_5 {ls : List (Option Value)} {st : List Value} {h : am_H} {a : Nat} : am_ev 129 5 (some (.ref a) :: ls) (st) h = am_ev 129 6 (some (.ref a) :: ls) (.ref a :: st) h := am_ev_step (q := (6, some (.ref a) :: ls, .ref a :: st, h)) _ (.aload_n 0) 1 am_my_129 (by decide +kernel) rfl
theorem e129_6 {ls : List (Option Value)} {st : List Value} {h : am_H} {o : Nat} (hk : am_kd h o = some (.inl 6)) : am_ev 129 6 ls (.ref o :: st) h = am_ev 129 9 ls (va_rf (h.2.2.1 o 1) :: st) h := am_u_gfR (idx := 15) (wn := 2131) (a := 0) am_my_129 (by decide +kernel) (by decide +kernel) (by decide +kernel) hk
theorem e129_9 {ls : List (Option Value)} {st : List Value} {h : am_H} : am_ev 129 9 (ls) (st) h = am_ev 129 10 (ls) (.int (0) :: st) h := am_ev_step (q := (10, ls, .int (0) :: st, h)) _ (.iconst (0)) 1 am_my_129 (by decide +kernel) rfl
theorem e129_10 {ls : List (Option Value)} {st : List Value} {h : am_H} : am_ev 129 10 (ls) (st) h = am_ev 129 11 (ls) (.int (5) :: st) h := am_ev_step (q := (11, ls, .int (5) :: st, h)) _ (.iconst (5)) 1 am_my_129 (by decide +kernel) rfl
theorem e129_11i {ls : List (Option Value)} {st : List Value} {h : am_H} {s0 d : Nat} (hw : am_w8 st ≤ 8) (ht : am_tc h s0 = some 0) (ht2 : am_tc h d = some 0) (h1 : 5 ≤ am_len h s0) (h2 : 5 ≤ am_len h d) : am_ev 129 11 ls (.int 5 :: .int 0 :: .ref d :: .int 0 :: .ref s0 :: st) h = am_ev 129 14 ls st (am_cq h s0 d 5) := am_u_ac (idx := 30) (wn := (0, 4224)) 5 0 am_my_129 (by decide +kernel) (by decide +kernel) (by decide +kernel) (by decide) (by decide) hw ht ht2 h1 h2
theorem e129_11b {ls : List (Option Value)} {st : List Value} {h : am_H} {s0 d : Nat} (hw : am_w8 st ≤ 8) (ht : am_tc h s0 = some 1) (ht2 : am_tc h d = some 1) (h1 : 5 ≤ am_len h s0) (h2 : 5 ≤ am_len h d) : am_ev 129 11 ls (.int 5 :: .int 0 :: .ref d :: .int 0 :: .ref s0 :: st) h = am_ev 129 14 ls st (am_cq h s0 d 5) := am_u_ac (idx := 30) (wn := (0, 4224)) 5 1 am_my_129 (by decide +kernel) (by decide +kernel) (by decide +kernel) (by decide) (by decide) hw ht ht2 h1 h2
theorem e129_14 {ls : List (Option Value)} {st : List Value} {h : am_H} {l0 l1 : Option Value} {a : Int32} : am_ev 129 14 (l0 :: l1 :: some (.int a) :: ls) (st) h = am_ev 129 15 (l0 :: l1 :: some (.int a) :: ls) (.int a :: st) h := am_ev_step (q := (15, l0 :: l1 :: some (.int a) :: ls, .int a :: st, h)) _ (.iload_n 2) 1 am_my_129 (by decide +kernel) rfl
theorem e129_15 {ls : List (Option Value)} {st : List Value} {h : am_H} {a : Int32} : am_ev 129 15 ls (.int a :: st) h = if a < 0 then am_ev 129 30 ls st h else am_ev 129 18 ls st h := am_u_if1 (c := .lt) (off := 15) am_my_129 (by decide +kernel) (by decide)
theorem e129_18 {ls : List (Option Value)} {st : List Value} {h : am_H} {l0 l1 : Option Value} {a : Int32} : am_ev 129 18 (l0 :: l1 :: some (.int a) :: ls) (st) h = am_ev 129 19 (l0 :: l1 :: some (.int a) :: ls) (.int a :: st) h := am_ev_step (q := (19, l0 :: l1 :: some (.int a) :: ls, .int a :: st, h)) _ (.iload_n 2) 1 am_my_129 (by decide +kernel) rfl
theorem e129_19 {ls : List (Option Value)} {st : List Value} {h : am_H} : am_ev 129 19 (ls) (st) h = am_ev 129 20 (ls) (.int (5) :: st) h := am_ev_step (q := (20, ls, .int (5) :: st, h)) _ (.iconst (5)) 1 am_my_129 (by decide +kernel) rfl
theorem e129_20 {ls : List (Option Value)} {st : List Value} {h : am_H} {a b : Int32} : am_ev 129 20 ls (.int b :: .int a :: st) h = if b ≤ a then am_ev 129 30 ls st h else am_ev 129 23 ls st h := am_u_if2 (c := .ge) (off := 10) am_my_129 (by decide +kernel) (by decide)
theorem e129_23 {ls : List (Option Value)} {st : List Value} {h : am_H} {a : Nat} : am_ev 129 23 (some (.ref a) :: ls) (st) h = am_ev 129 24 (some (.ref a) :: ls) (.ref a :: st) h := am_ev_step (q := (24, some (.ref a) :: ls, .ref a :: st, h)) _ (.aload_n 0) 1 am_my_129 (by decide +kernel) rfl
theorem e129_24 {ls : List (Option Value)} {st : List Value} {h : am_H} {o : Nat} (hk : am_kd h o = some (.inl 6)) : am_ev 129 24 ls (.ref o :: st) h = am_ev 129 27 ls (va_rf (h.2.2.1 o 1) :: st) h := am_u_gfR (idx := 15) (wn := 2131) (a := 0) am_my_129 (by decide +kernel) (by decide +kernel) (by decide +kernel) hk
theorem e129_27 {ls : List (Option Value)} {st : List Value} {h : am_H} {l0 l1 : Option Value} {a : Int32} : am_ev 129 27 (l0 :: l1 :: some (.int a) :: ls) (st) h = am_ev 129 28 (l0 :: l1 :: some (.int a) :: ls) (.int a :: st) h := am_ev_step (q := (28, l0 :: l1 :: some (.int a) :: ls, .int a :: st, h)) _ (.iload_n 2) 1 am_my_129 (by decide +kernel) rfl
theorem e129_28 {ls : List (Option Value)} {st : List Value} {h : am_H} : am_ev 129 28 (ls) (st) h = am_ev 129 29 (ls) (.int (0) :: st) h := am_ev_step (q := (29, ls, .int (0) :: st, h)) _ (.iconst (0)) 1 am_my_129 (by decide +kernel) rfl
theorem e129_29 {ls : List (Option Value)} {st : List Value} {h : am_H} {v i : Int32} {a : Nat} (ht : am_tc h a = some 0) : am_ev 129 29 ls (.int v :: .int i :: .ref a :: st) h = if am_ix i (am_len h a) = true then am_ev 129 30 ls st (am_sI h a i.toNatClampNeg v) else none := am_u_wI am_my_129 (by decide +kernel) ht
theorem e129_30 {ls : List (Option Value)} {st : List Value} {h : am_H} {a : Nat} : am_ev 129 30 (some (.ref a) :: ls) (st) h = am_ev 129 31 (some (.ref a) :: ls) (.ref a :: st) h := am_ev_step (q := (31, some (.ref a) :: ls, .ref a :: st, h)) _ (.aload_n 0) 1 am_my_129 (by decide +kernel) rfl
theorem e129_31 {ls : List (Option Value)} {st : List Value} {h : am_H} {l0 : Option Value} {a : Nat} : am_ev 129 31 (l0 :: some (.ref a) :: ls) (st) h = am_ev 129 32 (l0 :: some (.ref a) :: ls) (.ref a :: st) h := am_ev_step (q := (32, l0 :: some (.ref a) :: ls, .ref a :: st, h)) _ (.aload_n 1) 1 am_my_129 (by decide +kernel) rfl
theorem e129_32 {ls : List (Option Value)} {st : List Value} {h : am_H} : am_ev 129 32 (ls) (st) h = am_ev 129 33 (ls) (.int (0) :: st) h := am_ev_step (q := (33, ls, .int (0) :: st, h)) _ (.iconst (0)) 1 am_my_129 (by decide +kernel) rfl
theorem e129_33 {ls : List (Option Value)} {st : List Value} {h : am_H} {p0 : Nat} {p1 : Int32} {o : Nat} (hw : am_w8 st ≤ 8) (hk : am_kd h o = some (.inl 6)) : am_ev 129 33 ls (.int p1 :: .ref p0 :: .ref o :: st) h = am_bd (am_den 130 [.ref o, .ref p0, .int p1] h) (fun v h1 => am_ev 129 36 ls (v.toList ++ st) h1) := am_u_cV (idx := 36) (wn := 4225) (as := [.ref p0, .int p1]) am_my_129 (by decide +kernel) (Or.inl (by decide +kernel)) am_my_130 (by decide +kernel) rfl ⟨Nat.le_of_ble_eq_true rfl, rfl⟩ (by decide +kernel) hw hk
theorem e129_36 {ls : List (Option Value)} {h : am_H} {v : Int32} : am_ev 129 36 ls [.int v] h = some (some (.int v), h) := am_u_rtI am_my_129 (by decide +kernel) rfl
theorem e130_0 {ls : List (Option Value)} {st : List Value} {h : am_H} {a : Nat} : am_ev 130 0 (some (.ref a) :: ls) (st) h = am_ev 130 1 (some (.ref a) :: ls) (.ref a :: st) h := am_ev_step (q := (1, some (.ref a) :: ls, .ref a :: st, h)) _ (.aload_n 0) 1 am_my_130 (by decide +kernel) rfl
theorem e130_1 {ls : List (Option Value)} {st : List Value} {h : am_H} {l0 : Option Value} {a : Nat} : am_ev 130 1 (l0 :: some (.ref a) :: ls) (st) h = am_ev 130 2 (l0 :: some (.ref a) :: ls) (.ref a :: st) h := am_ev_step (q := (2, l0 :: some (.ref a) :: ls, .ref a :: st, h)) _ (.aload_n 1) 1 am_my_130 (by decide +kernel) rfl
theorem e130_2 {ls : List (Option Value)} {st : List Value} {h : am_H} {l0 l1 : Option Value} {a : Int32} : am_ev 130 2 (l0 :: l1 :: some (.int a) :: ls) (st) h = am_ev 130 3 (l0 :: l1 :: some (.int a) :: ls) (.int a :: st) h := am_ev_step (q := (3, l0 :: l1 :: some (.int a) :: ls, .int a :: st, h)) _ (.iload_n 2) 1 am_my_130 (by decide +kernel) rfl
theorem e130_3 {ls : List (Option Value)} {st : List Value} {h : am_H} {p0 : Nat} {p1 : Int32} {o : Nat} (hw : am_w8 st ≤ 8) (hk : am_kd h o = some (.inl 6)) : am_ev 130 3 ls (.int p1 :: .ref p0 :: .ref o :: st) h = am_bd (am_den 131 [.ref o, .ref p0, .int p1] h) (fun v h1 => am_ev 130 6 ls (v.toList ++ st) h1) := am_u_cV (idx := 40) (wn := 4229) (as := [.ref p0, .int p1]) am_my_130 (by decide +kernel) (Or.inl (by decide +kernel)) am_my_131 (by decide +kernel) rfl ⟨Nat.le_of_ble_eq_true rfl, rfl⟩ (by decide +kernel) hw hk
theorem e130_6 {ls : List (Option Value)} {st : List Value} {h : am_H} : am_ev 130 6 (ls) (st) h = am_ev 130 7 (ls) (.int (0) :: st) h := am_ev_step (q := (7, ls, .int (0) :: st, h)) _ (.iconst (0)) 1 am_my_130 (by decide +kernel) rfl
theorem e130_7 {ls : List (Option Value)} {st : List Value} {h : am_H} {l0 l1 l2 : Option Value} {z : Option Value} {a : Int32} : am_ev 130 7 (l0 :: l1 :: l2 :: z :: ls) (.int a :: st) h = am_ev 130 8 (l0 :: l1 :: l2 :: some (.int a) :: ls) (st) h := am_ev_step (q := (8, l0 :: l1 :: l2 :: some (.int a) :: ls, st, h)) _ (.istore_n 3) 1 am_my_130 (by decide +kernel) rfl
theorem e130_8 {ls : List (Option Value)} {st : List Value} {h : am_H} : am_ev 130 8 (ls) (st) h = am_ev 130 9 (ls) (.int (1) :: st) h := am_ev_step (q := (9, ls, .int (1) :: st, h)) _ (.iconst (1)) 1 am_my_130 (by decide +kernel) rfl
theorem e130_9 {ls : List (Option Value)} {st : List Value} {h : am_H} {l0 : Option Value} {a : Nat} : am_ev 130 9 (l0 :: some (.ref a) :: ls) (st) h = am_ev 130 10 (l0 :: some (.ref a) :: ls) (.ref a :: st) h := am_ev_step (q := (10, l0 :: some (.ref a) :: ls, .ref a :: st, h)) _ (.aload_n 1) 1 am_my_130 (by decide +kernel) rfl
theorem e130_10 {ls : List (Option Value)} {st : List Value} {h : am_H} {o : Nat} (hk : am_kd h o = some (.inl 0)) : am_ev 130 10 ls (.ref o :: st) h = am_ev 130 13 ls (.int (h.1 o 1) :: st) h := am_u_gfI (idx := 44) (wn := 1124) am_my_130 (by decide +kernel) (by decide +kernel) (by decide +kernel) hk
theorem e130_13 {ls : List (Option Value)} {st : List Value} {h : am_H} {l0 l1 : Option Value} {a : Int32} : am_ev 130 13 (l0 :: l1 :: some (.int a) :: ls) (st) h = am_ev 130 14 (l0 :: l1 :: some (.int a) :: ls) (.int a :: st) h := am_ev_step (q := (14, l0 :: l1 :: some (.int a) :: ls, .int a :: st, h)) _ (.iload_n 2) 1 am_my_130 (by decide +kernel) rfl
theorem e130_14 {ls : List (Option Value)} {st : List Value} {h : am_H} {a b : Int32} : am_ev 130 14 (ls) (.int b :: .int a :: st) h = am_ev 130 15 (ls) (.int (a - b) :: st) h := am_ev_step (q := (15, ls, .int (a - b) :: st, h)) _ (.isub) 1 am_my_130 (by decide +kernel) rfl
theorem e130_15 {ls : List (Option Value)} {st : List Value} {h : am_H} {a b : Int32} : am_ev 130 15 (ls) (.int b :: .int a :: st) h = am_ev 130 16 (ls) (.int (a <<< (b &&& 31)) :: st) h := am_ev_step (q := (16, ls, .int (a <<< (b &&& 31)) :: st, h)) _ (.ishl) 1 am_my_130 (by decide +kernel) rfl
theorem e130_16 {ls : List (Option Value)} {st : List Value} {h : am_H} {l0 l1 l2 l3 : Option Value} {z : Option Value} {a : Int32} : am_ev 130 16 (l0 :: l1 :: l2 :: l3 :: z :: ls) (.int a :: st) h = am_ev 130 18 (l0 :: l1 :: l2 :: l3 :: some (.int a) :: ls) (st) h := am_ev_step (q := (18, l0 :: l1 :: l2 :: l3 :: some (.int a) :: ls, st, h)) _ (.istore 4) 2 am_my_130 (by decide +kernel) rfl
theorem e130_18 {ls : List (Option Value)} {st : List Value} {h : am_H} : am_ev 130 18 (ls) (st) h = am_ev 130 19 (ls) (.int (0) :: st) h := am_ev_step (q := (19, ls, .int (0) :: st, h)) _ (.iconst (0)) 1 am_my_130 (by decide +kernel) rfl
theorem e130_19 {ls : List (Option Value)} {st : List Value} {h : am_H} {l0 l1 l2 l3 l4 : Option Value} {z : Option Value} {a : Int32} : am_ev 130 19 (l0 :: l1 :: l2 :: l3 :: l4 :: z :: ls) (.int a :: st) h = am_ev 130 21 (l0 :: l1 :: l2 :: l3 :: l4 :: some (.int a) :: ls) (st) h := am_ev_step (q := (21, l0 :: l1 :: l2 :: l3 :: l4 :: some (.int a) :: ls, st, h)) _ (.istore 5) 2 am_my_130 (by decide +kernel) rfl
theorem e130_21 {ls : List (Option Value)} {st : List Value} {h : am_H} {l0 l1 l2 l3 l4 : Option Value} {a : Int32} : am_ev 130 21 (l0 :: l1 :: l2 :: l3 :: l4 :: some (.int a) :: ls) (st) h = am_ev 130 23 (l0 :: l1 :: l2 :: l3 :: l4 :: some (.int a) :: ls) (.int a :: st) h := am_ev_step (q := (23, l0 :: l1 :: l2 :: l3 :: l4 :: some (.int a) :: ls, .int a :: st, h)) _ (.iload 5) 2 am_my_130 (by decide +kernel) rfl
theorem e130_23 {ls : List (Option Value)} {st : List Value} {h : am_H} {l0 l1 l2 l3 : Option Value} {a : Int32} : am_ev 130 23 (l0 :: l1 :: l2 :: l3 :: some (.int a) :: ls) (st) h = am_ev 130 25 (l0 :: l1 :: l2 :: l3 :: some (.int a) :: ls) (.int a :: st) h := am_ev_step (q := (25, l0 :: l1 :: l2 :: l3 :: some (.int a) :: ls, .int a :: st, h)) _ (.iload 4) 2 am_my_130 (by decide +kernel) rfl
theorem e130_25 {ls : List (Option Value)} {st : List Value} {h : am_H} {a b : Int32} : am_ev 130 25 ls (.int b :: .int a :: st) h = if b ≤ a then am_ev 130 68 ls st h else am_ev 130 28 ls st h := am_u_if2 (c := .ge) (off := 43) am_my_130 (by decide +kernel) (by decide)
theorem e130_28 {ls : List (Option Value)} {st : List Value} {h : am_H} {l0 l1 l2 l3 l4 : Option Value} {a : Int32} : am_ev 130 28 (l0 :: l1 :: l2 :: l3 :: l4 :: some (.int a) :: ls) (st) h = am_ev 130 30 (l0 :: l1 :: l2 :: l3 :: l4 :: some (.int a) :: ls) (.int a :: st) h := am_ev_step (q := (30, l0 :: l1 :: l2 :: l3 :: l4 :: some (.int a) :: ls, .int a :: st, h)) _ (.iload 5) 2 am_my_130 (by decide +kernel) rfl
theorem e130_30 {ls : List (Option Value)} {st : List Value} {h : am_H} {l0 l1 : Option Value} {a : Int32} : am_ev 130 30 (l0 :: l1 :: some (.int a) :: ls) (st) h = am_ev 130 31 (l0 :: l1 :: some (.int a) :: ls) (.int a :: st) h := am_ev_step (q := (31, l0 :: l1 :: some (.int a) :: ls, .int a :: st, h)) _ (.iload_n 2) 1 am_my_130 (by decide +kernel) rfl
theorem e130_31 {ls : List (Option Value)} {st : List Value} {h : am_H} {a b : Int32} : am_ev 130 31 (ls) (.int b :: .int a :: st) h = am_ev 130 32 (ls) (.int (a <<< (b &&& 31)) :: st) h := am_ev_step (q := (32, ls, .int (a <<< (b &&& 31)) :: st, h)) _ (.ishl) 1 am_my_130 (by decide +kernel) rfl
theorem e130_32 {ls : List (Option Value)} {st : List Value} {h : am_H} {l0 l1 l2 l3 l4 l5 : Option Value} {z : Option Value} {a : Int32} : am_ev 130 32 (l0 :: l1 :: l2 :: l3 :: l4 :: l5 :: z :: ls) (.int a :: st) h = am_ev 130 34 (l0 :: l1 :: l2 :: l3 :: l4 :: l5 :: some (.int a) :: ls) (st) h := am_ev_step (q := (34, l0 :: l1 :: l2 :: l3 :: l4 :: l5 :: some (.int a) :: ls, st, h)) _ (.istore 6) 2 am_my_130 (by decide +kernel) rfl
theorem e130_34 {ls : List (Option Value)} {st : List Value} {h : am_H} {l0 : Option Value} {a : Nat} : am_ev 130 34 (l0 :: some (.ref a) :: ls) (st) h = am_ev 130 35 (l0 :: some (.ref a) :: ls) (.ref a :: st) h := am_ev_step (q := (35, l0 :: some (.ref a) :: ls, .ref a :: st, h)) _ (.aload_n 1) 1 am_my_130 (by decide +kernel) rfl
theorem e130_35 {ls : List (Option Value)} {st : List Value} {h : am_H} {l0 l1 l2 l3 l4 l5 : Option Value} {a : Int32} : am_ev 130 35 (l0 :: l1 :: l2 :: l3 :: l4 :: l5 :: some (.int a) :: ls) (st) h = am_ev 130 37 (l0 :: l1 :: l2 :: l3 :: l4 :: l5 :: some (.int a) :: ls) (.int a :: st) h := am_ev_step (q := (37, l0 :: l1 :: l2 :: l3 :: l4 :: l5 :: some (.int a) :: ls, .int a :: st, h)) _ (.iload 6) 2 am_my_130 (by decide +kernel) rfl
theorem e130_37 {ls : List (Option Value)} {st : List Value} {h : am_H} {p0 : Nat} {p1 : Int32} (hw : am_w8 st ≤ 8) : am_ev 130 37 ls (.int p1 :: .ref p0 :: st) h = am_bd (am_den 132 [.ref p0, .int p1] h) (fun v h1 => am_ev 130 40 ls (v.toList ++ st) h1) := am_u_cS (idx := 48) (wn := 4233) (as := [.ref p0, .int p1]) am_my_130 (by decide +kernel) (by decide +kernel) am_my_132 (by decide +kernel) rfl ⟨Nat.le_of_ble_eq_true rfl, rfl⟩ hw
theorem e130_40 {ls : List (Option Value)} {st : List Value} {h : am_H} {l0 l1 l2 l3 l4 l5 l6 : Option Value} {z : Option Value} {a : Int32} : am_ev 130 40 (l0 :: l1 :: l2 :: l3 :: l4 :: l5 :: l6 :: z :: ls) (.int a :: st) h = am_ev 130 42 (l0 :: l1 :: l2 :: l3 :: l4 :: l5 :: l6 :: some (.int a) :: ls) (st) h := am_ev_step (q := (42, l0 :: l1 :: l2 :: l3 :: l4 :: l5 :: l6 :: some (.int a) :: ls, st, h)) _ (.istore 7) 2 am_my_130 (by decide +kernel) rfl
theorem e130_42 {ls : List (Option Value)} {st : List Value} {h : am_H} {l0 l1 l2 l3 l4 l5 l6 : Option Value} {a : Int32} : am_ev 130 42 (l0 :: l1 :: l2 :: l3 :: l4 :: l5 :: l6 :: some (.int a) :: ls) (st) h = am_ev 130 44 (l0 :: l1 :: l2 :: l3 :: l4 :: l5 :: l6 :: some (.int a) :: ls) (.int a :: st) h := am_ev_step (q := (44, l0 :: l1 :: l2 :: l3 :: l4 :: l5 :: l6 :: some (.int a) :: ls, .int a :: st, h)) _ (.iload 7) 2 am_my_130 (by decide +kernel) rfl
theorem e130_44 {ls : List (Option Value)} {st : List Value} {h : am_H} {l0 l1 l2 : Option Value} {a : Int32} : am_ev 130 44 (l0 :: l1 :: l2 :: some (.int a) :: ls) (st) h = am_ev 130 45 (l0 :: l1 :: l2 :: some (.int a) :: ls) (.int a :: st) h := am_ev_step (q := (45, l0 :: l1 :: l2 :: some (.int a) :: ls, .int a :: st, h)) _ (.iload_n 3) 1 am_my_130 (by decide +kernel) rfl
theorem e130_45 {ls : List (Option Value)} {st : List Value} {h : am_H} {a b : Int32} : am_ev 130 45 ls (.int b :: .int a :: st) h = if a ≤ b then am_ev 130 62 ls st h else am_ev 130 48 ls st h := am_u_if2 (c := .le) (off := 17) am_my_130 (by decide +kernel) (by decide)
theorem e130_48 {ls : List (Option Value)} {st : List Value} {h : am_H} {a : Nat} : am_ev 130 48 (some (.ref a) :: ls) (st) h = am_ev 130 49 (some (.ref a) :: ls) (.ref a :: st) h := am_ev_step (q := (49, some (.ref a) :: ls, .ref a :: st, h)) _ (.aload_n 0) 1 am_my_130 (by decide +kernel) rfl
theorem e130_49 {ls : List (Option Value)} {st : List Value} {h : am_H} {l0 : Option Value} {a : Nat} : am_ev 130 49 (l0 :: some (.ref a) :: ls) (st) h = am_ev 130 50 (l0 :: some (.ref a) :: ls) (.ref a :: st) h := am_ev_step (q := (50, l0 :: some (.ref a) :: ls, .ref a :: st, h)) _ (.aload_n 1) 1 am_my_130 (by decide +kernel) rfl
theorem e130_50 {ls : List (Option Value)} {st : List Value} {h : am_H} {l0 l1 : Option Value} {a : Int32} : am_ev 130 50 (l0 :: l1 :: some (.int a) :: ls) (st) h = am_ev 130 51 (l0 :: l1 :: some (.int a) :: ls) (.int a :: st) h := am_ev_step (q := (51, l0 :: l1 :: some (.int a) :: ls, .int a :: st, h)) _ (.iload_n 2) 1 am_my_130 (by decide +kernel) rfl
theorem e130_51 {ls : List (Option Value)} {st : List Value} {h : am_H} {l0 l1 l2 l3 l4 l5 : Option Value} {a : Int32} : am_ev 130 51 (l0 :: l1 :: l2 :: l3 :: l4 :: l5 :: some (.int a) :: ls) (st) h = am_ev 130 53 (l0 :: l1 :: l2 :: l3 :: l4 :: l5 :: some (.int a) :: ls) (.int a :: st) h := am_ev_step (q := (53, l0 :: l1 :: l2 :: l3 :: l4 :: l5 :: some (.int a) :: ls, .int a :: st, h)) _ (.iload 6) 2 am_my_130 (by decide +kernel) rfl
theorem e130_53 {ls : List (Option Value)} {st : List Value} {h : am_H} {p0 : Nat} {p1 : Int32} {p2 : Int32} {o : Nat} (hw : am_w8 st ≤ 8) (hk : am_kd h o = some (.inl 6)) : am_ev 130 53 ls (.int p2 :: .int p1 :: .ref p0 :: .ref o :: st) h = am_bd (am_den 133 [.ref o, .ref p0, .int p1, .int p2] h) (fun v h1 => am_ev 130 56 ls (v.toList ++ st) h1) := am_u_cV (idx := 51) (wn := 4236) (as := [.ref p0, .int p1, .int p2]) am_my_130 (by decide +kernel) (Or.inl (by decide +kernel)) am_my_133 (by decide +kernel) rfl ⟨Nat.le_of_ble_eq_true rfl, rfl⟩ (by decide +kernel) hw hk
theorem e130_56 {ls : List (Option Value)} {st : List Value} {h : am_H} {a : Int32} : am_ev 130 56 ls (.int a :: st) h = if a = 0 then am_ev 130 62 ls st h else am_ev 130 59 ls st h := am_u_if1 (c := .eq) (off := 6) am_my_130 (by decide +kernel) (by decide)
theorem e130_59 {ls : List (Option Value)} {st : List Value} {h : am_H} {l0 l1 l2 l3 l4 l5 l6 : Option Value} {a : Int32} : am_ev 130 59 (l0 :: l1 :: l2 :: l3 :: l4 :: l5 :: l6 :: some (.int a) :: ls) (st) h = am_ev 130 61 (l0 :: l1 :: l2 :: l3 :: l4 :: l5 :: l6 :: some (.int a) :: ls) (.int a :: st) h := am_ev_step (q := (61, l0 :: l1 :: l2 :: l3 :: l4 :: l5 :: l6 :: some (.int a) :: ls, .int a :: st, h)) _ (.iload 7) 2 am_my_130 (by decide +kernel) rfl
theorem e130_61 {ls : List (Option Value)} {st : List Value} {h : am_H} {l0 l1 l2 : Option Value} {z : Option Value} {a : Int32} : am_ev 130 61 (l0 :: l1 :: l2 :: z :: ls) (.int a :: st) h = am_ev 130 62 (l0 :: l1 :: l2 :: some (.int a) :: ls) (st) h := am_ev_step (q := (62, l0 :: l1 :: l2 :: some (.int a) :: ls, st, h)) _ (.istore_n 3) 1 am_my_130 (by decide +kernel) rfl
theorem e130_62 {ls : List (Option Value)} {st : List Value} {h : am_H} {l0 l1 l2 l3 l4 : Option Value} {a : Int32} : am_ev 130 62 (l0 :: l1 :: l2 :: l3 :: l4 :: some (.int a) :: ls) (st) h = am_ev 130 65 (l0 :: l1 :: l2 :: l3 :: l4 :: some (.int (a + (1))) :: ls) (st) h := am_ev_step (q := (65, l0 :: l1 :: l2 :: l3 :: l4 :: some (.int (a + (1))) :: ls, st, h)) _ (.iinc 5 (1)) 3 am_my_130 (by decide +kernel) rfl
theorem e130_65 {ls : List (Option Value)} {st : List Value} {h : am_H} : am_ev 130 65 (ls) (st) h = am_ev 130 21 (ls) (st) h := am_ev_step (q := (21, ls, st, h)) _ (.goto (-44)) 3 am_my_130 (by decide +kernel) rfl
theorem e130_68 {ls : List (Option Value)} {st : List Value} {h : am_H} {l0 l1 l2 : Option Value} {a : Int32} : am_ev 130 68 (l0 :: l1 :: l2 :: some (.int a) :: ls) (st) h = am_ev 130 69 (l0 :: l1 :: l2 :: some (.int a) :: ls) (.int a :: st) h := am_ev_step (q := (69, l0 :: l1 :: l2 :: some (.int a) :: ls, .int a :: st, h)) _ (.iload_n 3) 1 am_my_130 (by decide +kernel) rfl
theorem e130_69 {ls : List (Option Value)} {h : am_H} {v : Int32} : am_ev 130 69 ls [.int v] h = some (some (.int v), h) := am_u_rtI am_my_130 (by decide +kernel) rfl
theorem e131_0 {ls : List (Option Value)} {st : List Value} {h : am_H} {l0 l1 : Option Value} {a : Int32} : am_ev 131 0 (l0 :: l1 :: some (.int a) :: ls) (st) h = am_ev 131 1 (l0 :: l1 :: some (.int a) :: ls) (.int a :: st) h := am_ev_step (q := (1, l0 :: l1 :: some (.int a) :: ls, .int a :: st, h)) _ (.iload_n 2) 1 am_my_131 (by decide +kernel) rfl
theorem e131_1 {ls : List (Option Value)} {st : List Value} {h : am_H} {l0 l1 l2 : Option Value} {z : Option Value} {a : Int32} : am_ev 131 1 (l0 :: l1 :: l2 :: z :: ls) (.int a :: st) h = am_ev 131 2 (l0 :: l1 :: l2 :: some (.int a) :: ls) (st) h := am_ev_step (q := (2, l0 :: l1 :: l2 :: some (.int a) :: ls, st, h)) _ (.istore_n 3) 1 am_my_131 (by decide +kernel) rfl
theorem e131_2 {ls : List (Option Value)} {st : List Value} {h : am_H} {l0 l1 l2 : Option Value} {a : Int32} : am_ev 131 2 (l0 :: l1 :: l2 :: some (.int a) :: ls) (st) h = am_ev 131 3 (l0 :: l1 :: l2 :: some (.int a) :: ls) (.int a :: st) h := am_ev_step (q := (3, l0 :: l1 :: l2 :: some (.int a) :: ls, .int a :: st, h)) _ (.iload_n 3) 1 am_my_131 (by decide +kernel) rfl
theorem e131_3 {ls : List (Option Value)} {st : List Value} {h : am_H} {l0 : Option Value} {a : Nat} : am_ev 131 3 (l0 :: some (.ref a) :: ls) (st) h = am_ev 131 4 (l0 :: some (.ref a) :: ls) (.ref a :: st) h := am_ev_step (q := (4, l0 :: some (.ref a) :: ls, .ref a :: st, h)) _ (.aload_n 1) 1 am_my_131 (by decide +kernel) rfl
theorem e131_4 {ls : List (Option Value)} {st : List Value} {h : am_H} {o : Nat} (hk : am_kd h o = some (.inl 0)) : am_ev 131 4 ls (.ref o :: st) h = am_ev 131 7 ls (.int (h.1 o 1) :: st) h := am_u_gfI (idx := 44) (wn := 1124) am_my_131 (by decide +kernel) (by decide +kernel) (by decide +kernel) hk
theorem e131_7 {ls : List (Option Value)} {st : List Value} {h : am_H} {a b : Int32} : am_ev 131 7 ls (.int b :: .int a :: st) h = if b ≤ a then am_ev 131 135 ls st h else am_ev 131 10 ls st h := am_u_if2 (c := .ge) (off := 128) am_my_131 (by decide +kernel) (by decide)
theorem e131_10 {ls : List (Option Value)} {st : List Value} {h : am_H} {a : Nat} : am_ev 131 10 (some (.ref a) :: ls) (st) h = am_ev 131 11 (some (.ref a) :: ls) (.ref a :: st) h := am_ev_step (q := (11, some (.ref a) :: ls, .ref a :: st, h)) _ (.aload_n 0) 1 am_my_131 (by decide +kernel) rfl
theorem e131_11 {ls : List (Option Value)} {st : List Value} {h : am_H} {o : Nat} (hk : am_kd h o = some (.inl 6)) : am_ev 131 11 ls (.ref o :: st) h = am_ev 131 14 ls (va_rf (h.2.2.1 o 2) :: st) h := am_u_gfR (idx := 18) (wn := 2132) (a := 0) am_my_131 (by decide +kernel) (by decide +kernel) (by decide +kernel) hk
theorem e131_14 {ls : List (Option Value)} {st : List Value} {h : am_H} {l0 l1 l2 : Option Value} {a : Int32} : am_ev 131 14 (l0 :: l1 :: l2 :: some (.int a) :: ls) (st) h = am_ev 131 15 (l0 :: l1 :: l2 :: some (.int a) :: ls) (.int a :: st) h := am_ev_step (q := (15, l0 :: l1 :: l2 :: some (.int a) :: ls, .int a :: st, h)) _ (.iload_n 3) 1 am_my_131 (by decide +kernel) rfl
theorem e131_15 {ls : List (Option Value)} {st : List Value} {h : am_H} : am_ev 131 15 (ls) (st) h = am_ev 131 16 (ls) (.int (0) :: st) h := am_ev_step (q := (16, ls, .int (0) :: st, h)) _ (.iconst (0)) 1 am_my_131 (by decide +kernel) rfl
theorem e131_16 {ls : List (Option Value)} {st : List Value} {h : am_H} {v i : Int32} {a : Nat} (ht : am_tc h a = some 0) : am_ev 131 16 ls (.int v :: .int i :: .ref a :: st) h = if am_ix i (am_len h a) = true then am_ev 131 17 ls st (am_sI h a i.toNatClampNeg v) else none := am_u_wI am_my_131 (by decide +kernel) ht
theorem e131_17 {ls : List (Option Value)} {st : List Value} {h : am_H} {a : Nat} : am_ev 131 17 (some (.ref a) :: ls) (st) h = am_ev 131 18 (some (.ref a) :: ls) (.ref a :: st) h := am_ev_step (q := (18, some (.ref a) :: ls, .ref a :: st, h)) _ (.aload_n 0) 1 am_my_131 (by decide +kernel) rfl
theorem e131_18 {ls : List (Option Value)} {st : List Value} {h : am_H} {o : Nat} (hk : am_kd h o = some (.inl 6)) : am_ev 131 18 ls (.ref o :: st) h = am_ev 131 21 ls (va_rf (h.2.2.1 o 3) :: st) h := am_u_gfR (idx := 21) (wn := 2133) (a := 0) am_my_131 (by decide +kernel) (by decide +kernel) (by decide +kernel) hk
theorem e131_21 {ls : List (Option Value)} {st : List Value} {h : am_H} {l0 l1 l2 : Option Value} {a : Int32} : am_ev 131 21 (l0 :: l1 :: l2 :: some (.int a) :: ls) (st) h = am_ev 131 22 (l0 :: l1 :: l2 :: some (.int a) :: ls) (.int a :: st) h := am_ev_step (q := (22, l0 :: l1 :: l2 :: some (.int a) :: ls, .int a :: st, h)) _ (.iload_n 3) 1 am_my_131 (by decide +kernel) rfl
theorem e131_22 {ls : List (Option Value)} {st : List Value} {h : am_H} : am_ev 131 22 (ls) (st) h = am_ev 131 23 (ls) (.int (0) :: st) h := am_ev_step (q := (23, ls, .int (0) :: st, h)) _ (.iconst (0)) 1 am_my_131 (by decide +kernel) rfl
theorem e131_23 {ls : List (Option Value)} {st : List Value} {h : am_H} {v i : Int32} {a : Nat} (ht : am_tc h a = some 0) : am_ev 131 23 ls (.int v :: .int i :: .ref a :: st) h = if am_ix i (am_len h a) = true then am_ev 131 24 ls st (am_sI h a i.toNatClampNeg v) else none := am_u_wI am_my_131 (by decide +kernel) ht
theorem e131_24 {ls : List (Option Value)} {st : List Value} {h : am_H} : am_ev 131 24 (ls) (st) h = am_ev 131 25 (ls) (.int (0) :: st) h := am_ev_step (q := (25, ls, .int (0) :: st, h)) _ (.iconst (0)) 1 am_my_131 (by decide +kernel) rfl
theorem e131_25 {ls : List (Option Value)} {st : List Value} {h : am_H} {l0 l1 l2 l3 : Option Value} {z : Option Value} {a : Int32} : am_ev 131 25 (l0 :: l1 :: l2 :: l3 :: z :: ls) (.int a :: st) h = am_ev 131 27 (l0 :: l1 :: l2 :: l3 :: some (.int a) :: ls) (st) h := am_ev_step (q := (27, l0 :: l1 :: l2 :: l3 :: some (.int a) :: ls, st, h)) _ (.istore 4) 2 am_my_131 (by decide +kernel) rfl
theorem e131_27 {ls : List (Option Value)} {st : List Value} {h : am_H} {l0 l1 l2 l3 : Option Value} {a : Int32} : am_ev 131 27 (l0 :: l1 :: l2 :: l3 :: some (.int a) :: ls) (st) h = am_ev 131 29 (l0 :: l1 :: l2 :: l3 :: some (.int a) :: ls) (.int a :: st) h := am_ev_step (q := (29, l0 :: l1 :: l2 :: l3 :: some (.int a) :: ls, .int a :: st, h)) _ (.iload 4) 2 am_my_131 (by decide +kernel) rfl
theorem e131_29 {ls : List (Option Value)} {st : List Value} {h : am_H} {l0 : Option Value} {a : Nat} : am_ev 131 29 (l0 :: some (.ref a) :: ls) (st) h = am_ev 131 30 (l0 :: some (.ref a) :: ls) (.ref a :: st) h := am_ev_step (q := (30, l0 :: some (.ref a) :: ls, .ref a :: st, h)) _ (.aload_n 1) 1 am_my_131 (by decide +kernel) rfl
theorem e131_30 {ls : List (Option Value)} {st : List Value} {h : am_H} {o : Nat} (hk : am_kd h o = some (.inl 0)) : am_ev 131 30 ls (.ref o :: st) h = am_ev 131 33 ls (.int (h.1 o 0) :: st) h := am_u_gfI (idx := 55) (wn := 1121) am_my_131 (by decide +kernel) (by decide +kernel) (by decide +kernel) hk
theorem e131_33 {ls : List (Option Value)} {st : List Value} {h : am_H} {a b : Int32} : am_ev 131 33 ls (.int b :: .int a :: st) h = if b ≤ a then am_ev 131 78 ls st h else am_ev 131 36 ls st h := am_u_if2 (c := .ge) (off := 45) am_my_131 (by decide +kernel) (by decide)
theorem e131_36 {ls : List (Option Value)} {st : List Value} {h : am_H} {a : Nat} : am_ev 131 36 (some (.ref a) :: ls) (st) h = am_ev 131 37 (some (.ref a) :: ls) (.ref a :: st) h := am_ev_step (q := (37, some (.ref a) :: ls, .ref a :: st, h)) _ (.aload_n 0) 1 am_my_131 (by decide +kernel) rfl
theorem e131_37 {ls : List (Option Value)} {st : List Value} {h : am_H} {o : Nat} (hk : am_kd h o = some (.inl 6)) : am_ev 131 37 ls (.ref o :: st) h = am_ev 131 40 ls (va_rf (h.2.2.1 o 2) :: st) h := am_u_gfR (idx := 18) (wn := 2132) (a := 0) am_my_131 (by decide +kernel) (by decide +kernel) (by decide +kernel) hk
theorem e131_40 {ls : List (Option Value)} {st : List Value} {h : am_H} {l0 l1 l2 : Option Value} {a : Int32} : am_ev 131 40 (l0 :: l1 :: l2 :: some (.int a) :: ls) (st) h = am_ev 131 41 (l0 :: l1 :: l2 :: some (.int a) :: ls) (.int a :: st) h := am_ev_step (q := (41, l0 :: l1 :: l2 :: some (.int a) :: ls, .int a :: st, h)) _ (.iload_n 3) 1 am_my_131 (by decide +kernel) rfl
theorem e131_41 {ls : List (Option Value)} {st : List Value} {h : am_H} {a : Nat} {i : Int32} : am_ev 131 41 (ls) (.int i :: .ref a :: st) h = am_ev 131 42 (ls) (.int i :: .ref a :: .int i :: .ref a :: st) h := am_ev_step (q := (42, ls, .int i :: .ref a :: .int i :: .ref a :: st, h)) _ (.dup2) 1 am_my_131 (by decide +kernel) rfl
theorem e131_42 {ls : List (Option Value)} {st : List Value} {h : am_H} {i : Int32} {a : Nat} (ht : am_tc h a = some 0) : am_ev 131 42 ls (.int i :: .ref a :: st) h = if am_ix i (am_len h a) = true then am_ev 131 43 ls (.int (h.1 a i.toNatClampNeg) :: st) h else none := am_u_rI am_my_131 (by decide +kernel) ht
theorem e131_43 {ls : List (Option Value)} {st : List Value} {h : am_H} {l0 : Option Value} {a : Nat} : am_ev 131 43 (l0 :: some (.ref a) :: ls) (st) h = am_ev 131 44 (l0 :: some (.ref a) :: ls) (.ref a :: st) h := am_ev_step (q := (44, l0 :: some (.ref a) :: ls, .ref a :: st, h)) _ (.aload_n 1) 1 am_my_131 (by decide +kernel) rfl
theorem e131_44 {ls : List (Option Value)} {st : List Value} {h : am_H} {o : Nat} (hk : am_kd h o = some (.inl 0)) : am_ev 131 44 ls (.ref o :: st) h = am_ev 131 47 ls (va_rf (h.2.2.1 o 3) :: st) h := am_u_gfR (idx := 58) (wn := 1130) (a := 0) am_my_131 (by decide +kernel) (by decide +kernel) (by decide +kernel) hk
theorem e131_47 {ls : List (Option Value)} {st : List Value} {h : am_H} {l0 l1 l2 l3 : Option Value} {a : Int32} : am_ev 131 47 (l0 :: l1 :: l2 :: l3 :: some (.int a) :: ls) (st) h = am_ev 131 49 (l0 :: l1 :: l2 :: l3 :: some (.int a) :: ls) (.int a :: st) h := am_ev_step (q := (49, l0 :: l1 :: l2 :: l3 :: some (.int a) :: ls, .int a :: st, h)) _ (.iload 4) 2 am_my_131 (by decide +kernel) rfl
theorem e131_49 {ls : List (Option Value)} {st : List Value} {h : am_H} {i : Int32} {a : Nat} (ht : am_tc h a = some 0) : am_ev 131 49 ls (.int i :: .ref a :: st) h = if am_ix i (am_len h a) = true then am_ev 131 50 ls (.int (h.1 a i.toNatClampNeg) :: st) h else none := am_u_rI am_my_131 (by decide +kernel) ht
theorem e131_50 {ls : List (Option Value)} {st : List Value} {h : am_H} {l0 : Option Value} {a : Nat} : am_ev 131 50 (l0 :: some (.ref a) :: ls) (st) h = am_ev 131 51 (l0 :: some (.ref a) :: ls) (.ref a :: st) h := am_ev_step (q := (51, l0 :: some (.ref a) :: ls, .ref a :: st, h)) _ (.aload_n 1) 1 am_my_131 (by decide +kernel) rfl
theorem e131_51 {ls : List (Option Value)} {st : List Value} {h : am_H} {o : Nat} (hk : am_kd h o = some (.inl 0)) : am_ev 131 51 ls (.ref o :: st) h = am_ev 131 54 ls (va_rf (h.2.2.1 o 5) :: st) h := am_u_gfR (idx := 61) (wn := 1134) (a := 0) am_my_131 (by decide +kernel) (by decide +kernel) (by decide +kernel) hk
theorem e131_54 {ls : List (Option Value)} {st : List Value} {h : am_H} {l0 l1 l2 : Option Value} {a : Int32} : am_ev 131 54 (l0 :: l1 :: l2 :: some (.int a) :: ls) (st) h = am_ev 131 55 (l0 :: l1 :: l2 :: some (.int a) :: ls) (.int a :: st) h := am_ev_step (q := (55, l0 :: l1 :: l2 :: some (.int a) :: ls, .int a :: st, h)) _ (.iload_n 3) 1 am_my_131 (by decide +kernel) rfl
theorem e131_55 {ls : List (Option Value)} {st : List Value} {h : am_H} {i : Int32} {a : Nat} (ht : am_tc h a = some 0) : am_ev 131 55 ls (.int i :: .ref a :: st) h = if am_ix i (am_len h a) = true then am_ev 131 56 ls (.int (h.1 a i.toNatClampNeg) :: st) h else none := am_u_rI am_my_131 (by decide +kernel) ht
theorem e131_56 {ls : List (Option Value)} {st : List Value} {h : am_H} {a b : Int32} : am_ev 131 56 ls (.int b :: .int a :: st) h = if a < b then am_ev 131 69 ls st h else am_ev 131 59 ls st h := am_u_if2 (c := .lt) (off := 13) am_my_131 (by decide +kernel) (by decide)
theorem e131_59 {ls : List (Option Value)} {st : List Value} {h : am_H} {a : Nat} : am_ev 131 59 (some (.ref a) :: ls) (st) h = am_ev 131 60 (some (.ref a) :: ls) (.ref a :: st) h := am_ev_step (q := (60, some (.ref a) :: ls, .ref a :: st, h)) _ (.aload_n 0) 1 am_my_131 (by decide +kernel) rfl
theorem e131_60 {ls : List (Option Value)} {st : List Value} {h : am_H} {o : Nat} (hk : am_kd h o = some (.inl 6)) : am_ev 131 60 ls (.ref o :: st) h = am_ev 131 63 ls (va_rf (h.2.2.1 o 1) :: st) h := am_u_gfR (idx := 15) (wn := 2131) (a := 0) am_my_131 (by decide +kernel) (by decide +kernel) (by decide +kernel) hk
theorem e131_63 {ls : List (Option Value)} {st : List Value} {h : am_H} {l0 l1 l2 l3 : Option Value} {a : Int32} : am_ev 131 63 (l0 :: l1 :: l2 :: l3 :: some (.int a) :: ls) (st) h = am_ev 131 65 (l0 :: l1 :: l2 :: l3 :: some (.int a) :: ls) (.int a :: st) h := am_ev_step (q := (65, l0 :: l1 :: l2 :: l3 :: some (.int a) :: ls, .int a :: st, h)) _ (.iload 4) 2 am_my_131 (by decide +kernel) rfl
theorem e131_65 {ls : List (Option Value)} {st : List Value} {h : am_H} {i : Int32} {a : Nat} (ht : am_tc h a = some 0) : am_ev 131 65 ls (.int i :: .ref a :: st) h = if am_ix i (am_len h a) = true then am_ev 131 66 ls (.int (h.1 a i.toNatClampNeg) :: st) h else none := am_u_rI am_my_131 (by decide +kernel) ht
theorem e131_66 {ls : List (Option Value)} {st : List Value} {h : am_H} : am_ev 131 66 (ls) (st) h = am_ev 131 70 (ls) (st) h := am_ev_step (q := (70, ls, st, h)) _ (.goto (4)) 3 am_my_131 (by decide +kernel) rfl
theorem e131_69 {ls : List (Option Value)} {st : List Value} {h : am_H} : am_ev 131 69 (ls) (st) h = am_ev 131 70 (ls) (.int (0) :: st) h := am_ev_step (q := (70, ls, .int (0) :: st, h)) _ (.iconst (0)) 1 am_my_131 (by decide +kernel) rfl
theorem e131_70 {ls : List (Option Value)} {st : List Value} {h : am_H} {a b : Int32} : am_ev 131 70 (ls) (.int b :: .int a :: st) h = am_ev 131 71 (ls) (.int (a + b) :: st) h := am_ev_step (q := (71, ls, .int (a + b) :: st, h)) _ (.iadd) 1 am_my_131 (by decide +kernel) rfl
theorem e131_71 {ls : List (Option Value)} {st : List Value} {h : am_H} {v i : Int32} {a : Nat} (ht : am_tc h a = some 0) : am_ev 131 71 ls (.int v :: .int i :: .ref a :: st) h = if am_ix i (am_len h a) = true then am_ev 131 72 ls st (am_sI h a i.toNatClampNeg v) else none := am_u_wI am_my_131 (by decide +kernel) ht
theorem e131_72 {ls : List (Option Value)} {st : List Value} {h : am_H} {l0 l1 l2 l3 : Option Value} {a : Int32} : am_ev 131 72 (l0 :: l1 :: l2 :: l3 :: some (.int a) :: ls) (st) h = am_ev 131 75 (l0 :: l1 :: l2 :: l3 :: some (.int (a + (1))) :: ls) (st) h := am_ev_step (q := (75, l0 :: l1 :: l2 :: l3 :: some (.int (a + (1))) :: ls, st, h)) _ (.iinc 4 (1)) 3 am_my_131 (by decide +kernel) rfl
theorem e131_75 {ls : List (Option Value)} {st : List Value} {h : am_H} : am_ev 131 75 (ls) (st) h = am_ev 131 27 (ls) (st) h := am_ev_step (q := (27, ls, st, h)) _ (.goto (-48)) 3 am_my_131 (by decide +kernel) rfl
theorem e131_78 {ls : List (Option Value)} {st : List Value} {h : am_H} {l0 l1 : Option Value} {a : Int32} : am_ev 131 78 (l0 :: l1 :: some (.int a) :: ls) (st) h = am_ev 131 79 (l0 :: l1 :: some (.int a) :: ls) (.int a :: st) h := am_ev_step (q := (79, l0 :: l1 :: some (.int a) :: ls, .int a :: st, h)) _ (.iload_n 2) 1 am_my_131 (by decide +kernel) rfl
theorem e131_79 {ls : List (Option Value)} {st : List Value} {h : am_H} {l0 l1 l2 l3 : Option Value} {z : Option Value} {a : Int32} : am_ev 131 79 (l0 :: l1 :: l2 :: l3 :: z :: ls) (.int a :: st) h = am_ev 131 81 (l0 :: l1 :: l2 :: l3 :: some (.int a) :: ls) (st) h := am_ev_step (q := (81, l0 :: l1 :: l2 :: l3 :: some (.int a) :: ls, st, h)) _ (.istore 4) 2 am_my_131 (by decide +kernel) rfl
theorem e131_81 {ls : List (Option Value)} {st : List Value} {h : am_H} {l0 l1 l2 l3 : Option Value} {a : Int32} : am_ev 131 81 (l0 :: l1 :: l2 :: l3 :: some (.int a) :: ls) (st) h = am_ev 131 83 (l0 :: l1 :: l2 :: l3 :: some (.int a) :: ls) (.int a :: st) h := am_ev_step (q := (83, l0 :: l1 :: l2 :: l3 :: some (.int a) :: ls, .int a :: st, h)) _ (.iload 4) 2 am_my_131 (by decide +kernel) rfl
theorem e131_83 {ls : List (Option Value)} {st : List Value} {h : am_H} {l0 : Option Value} {a : Nat} : am_ev 131 83 (l0 :: some (.ref a) :: ls) (st) h = am_ev 131 84 (l0 :: some (.ref a) :: ls) (.ref a :: st) h := am_ev_step (q := (84, l0 :: some (.ref a) :: ls, .ref a :: st, h)) _ (.aload_n 1) 1 am_my_131 (by decide +kernel) rfl
theorem e131_84 {ls : List (Option Value)} {st : List Value} {h : am_H} {o : Nat} (hk : am_kd h o = some (.inl 0)) : am_ev 131 84 ls (.ref o :: st) h = am_ev 131 87 ls (.int (h.1 o 1) :: st) h := am_u_gfI (idx := 44) (wn := 1124) am_my_131 (by decide +kernel) (by decide +kernel) (by decide +kernel) hk
theorem e131_87 {ls : List (Option Value)} {st : List Value} {h : am_H} {a b : Int32} : am_ev 131 87 ls (.int b :: .int a :: st) h = if b ≤ a then am_ev 131 129 ls st h else am_ev 131 90 ls st h := am_u_if2 (c := .ge) (off := 42) am_my_131 (by decide +kernel) (by decide)
theorem e131_90 {ls : List (Option Value)} {st : List Value} {h : am_H} {a : Nat} : am_ev 131 90 (some (.ref a) :: ls) (st) h = am_ev 131 91 (some (.ref a) :: ls) (.ref a :: st) h := am_ev_step (q := (91, some (.ref a) :: ls, .ref a :: st, h)) _ (.aload_n 0) 1 am_my_131 (by decide +kernel) rfl
theorem e131_91 {ls : List (Option Value)} {st : List Value} {h : am_H} {o : Nat} (hk : am_kd h o = some (.inl 6)) : am_ev 131 91 ls (.ref o :: st) h = am_ev 131 94 ls (va_rf (h.2.2.1 o 3) :: st) h := am_u_gfR (idx := 21) (wn := 2133) (a := 0) am_my_131 (by decide +kernel) (by decide +kernel) (by decide +kernel) hk
theorem e131_94 {ls : List (Option Value)} {st : List Value} {h : am_H} {l0 l1 l2 : Option Value} {a : Int32} : am_ev 131 94 (l0 :: l1 :: l2 :: some (.int a) :: ls) (st) h = am_ev 131 95 (l0 :: l1 :: l2 :: some (.int a) :: ls) (.int a :: st) h := am_ev_step (q := (95, l0 :: l1 :: l2 :: some (.int a) :: ls, .int a :: st, h)) _ (.iload_n 3) 1 am_my_131 (by decide +kernel) rfl
theorem e131_95 {ls : List (Option Value)} {st : List Value} {h : am_H} {a : Nat} {i : Int32} : am_ev 131 95 (ls) (.int i :: .ref a :: st) h = am_ev 131 96 (ls) (.int i :: .ref a :: .int i :: .ref a :: st) h := am_ev_step (q := (96, ls, .int i :: .ref a :: .int i :: .ref a :: st, h)) _ (.dup2) 1 am_my_131 (by decide +kernel) rfl
theorem e131_96 {ls : List (Option Value)} {st : List Value} {h : am_H} {i : Int32} {a : Nat} (ht : am_tc h a = some 0) : am_ev 131 96 ls (.int i :: .ref a :: st) h = if am_ix i (am_len h a) = true then am_ev 131 97 ls (.int (h.1 a i.toNatClampNeg) :: st) h else none := am_u_rI am_my_131 (by decide +kernel) ht
theorem e131_97 {ls : List (Option Value)} {st : List Value} {h : am_H} {l0 : Option Value} {a : Nat} : am_ev 131 97 (l0 :: some (.ref a) :: ls) (st) h = am_ev 131 98 (l0 :: some (.ref a) :: ls) (.ref a :: st) h := am_ev_step (q := (98, l0 :: some (.ref a) :: ls, .ref a :: st, h)) _ (.aload_n 1) 1 am_my_131 (by decide +kernel) rfl
theorem e131_98 {ls : List (Option Value)} {st : List Value} {h : am_H} {o : Nat} (hk : am_kd h o = some (.inl 0)) : am_ev 131 98 ls (.ref o :: st) h = am_ev 131 101 ls (va_rf (h.2.2.1 o 5) :: st) h := am_u_gfR (idx := 61) (wn := 1134) (a := 0) am_my_131 (by decide +kernel) (by decide +kernel) (by decide +kernel) hk
theorem e131_101 {ls : List (Option Value)} {st : List Value} {h : am_H} {l0 l1 l2 l3 : Option Value} {a : Int32} : am_ev 131 101 (l0 :: l1 :: l2 :: l3 :: some (.int a) :: ls) (st) h = am_ev 131 103 (l0 :: l1 :: l2 :: l3 :: some (.int a) :: ls) (.int a :: st) h := am_ev_step (q := (103, l0 :: l1 :: l2 :: l3 :: some (.int a) :: ls, .int a :: st, h)) _ (.iload 4) 2 am_my_131 (by decide +kernel) rfl
theorem e131_103 {ls : List (Option Value)} {st : List Value} {h : am_H} {i : Int32} {a : Nat} (ht : am_tc h a = some 0) : am_ev 131 103 ls (.int i :: .ref a :: st) h = if am_ix i (am_len h a) = true then am_ev 131 104 ls (.int (h.1 a i.toNatClampNeg) :: st) h else none := am_u_rI am_my_131 (by decide +kernel) ht
theorem e131_104 {ls : List (Option Value)} {st : List Value} {h : am_H} {l0 : Option Value} {a : Nat} : am_ev 131 104 (l0 :: some (.ref a) :: ls) (st) h = am_ev 131 105 (l0 :: some (.ref a) :: ls) (.ref a :: st) h := am_ev_step (q := (105, l0 :: some (.ref a) :: ls, .ref a :: st, h)) _ (.aload_n 1) 1 am_my_131 (by decide +kernel) rfl
theorem e131_105 {ls : List (Option Value)} {st : List Value} {h : am_H} {o : Nat} (hk : am_kd h o = some (.inl 0)) : am_ev 131 105 ls (.ref o :: st) h = am_ev 131 108 ls (va_rf (h.2.2.1 o 5) :: st) h := am_u_gfR (idx := 61) (wn := 1134) (a := 0) am_my_131 (by decide +kernel) (by decide +kernel) (by decide +kernel) hk
theorem e131_108 {ls : List (Option Value)} {st : List Value} {h : am_H} {l0 l1 l2 : Option Value} {a : Int32} : am_ev 131 108 (l0 :: l1 :: l2 :: some (.int a) :: ls) (st) h = am_ev 131 109 (l0 :: l1 :: l2 :: some (.int a) :: ls) (.int a :: st) h := am_ev_step (q := (109, l0 :: l1 :: l2 :: some (.int a) :: ls, .int a :: st, h)) _ (.iload_n 3) 1 am_my_131 (by decide +kernel) rfl
theorem e131_109 {ls : List (Option Value)} {st : List Value} {h : am_H} {i : Int32} {a : Nat} (ht : am_tc h a = some 0) : am_ev 131 109 ls (.int i :: .ref a :: st) h = if am_ix i (am_len h a) = true then am_ev 131 110 ls (.int (h.1 a i.toNatClampNeg) :: st) h else none := am_u_rI am_my_131 (by decide +kernel) ht
theorem e131_110 {ls : List (Option Value)} {st : List Value} {h : am_H} {a b : Int32} : am_ev 131 110 ls (.int b :: .int a :: st) h = if a < b then am_ev 131 120 ls st h else am_ev 131 113 ls st h := am_u_if2 (c := .lt) (off := 10) am_my_131 (by decide +kernel) (by decide)
theorem e131_113 {ls : List (Option Value)} {st : List Value} {h : am_H} : am_ev 131 113 (ls) (st) h = am_ev 131 114 (ls) (.int (1) :: st) h := am_ev_step (q := (114, ls, .int (1) :: st, h)) _ (.iconst (1)) 1 am_my_131 (by decide +kernel) rfl
theorem e131_114 {ls : List (Option Value)} {st : List Value} {h : am_H} {l0 l1 l2 l3 : Option Value} {a : Int32} : am_ev 131 114 (l0 :: l1 :: l2 :: l3 :: some (.int a) :: ls) (st) h = am_ev 131 116 (l0 :: l1 :: l2 :: l3 :: some (.int a) :: ls) (.int a :: st) h := am_ev_step (q := (116, l0 :: l1 :: l2 :: l3 :: some (.int a) :: ls, .int a :: st, h)) _ (.iload 4) 2 am_my_131 (by decide +kernel) rfl
theorem e131_116 {ls : List (Option Value)} {st : List Value} {h : am_H} {a b : Int32} : am_ev 131 116 (ls) (.int b :: .int a :: st) h = am_ev 131 117 (ls) (.int (a <<< (b &&& 31)) :: st) h := am_ev_step (q := (117, ls, .int (a <<< (b &&& 31)) :: st, h)) _ (.ishl) 1 am_my_131 (by decide +kernel) rfl
theorem e131_117 {ls : List (Option Value)} {st : List Value} {h : am_H} : am_ev 131 117 (ls) (st) h = am_ev 131 121 (ls) (st) h := am_ev_step (q := (121, ls, st, h)) _ (.goto (4)) 3 am_my_131 (by decide +kernel) rfl
theorem e131_120 {ls : List (Option Value)} {st : List Value} {h : am_H} : am_ev 131 120 (ls) (st) h = am_ev 131 121 (ls) (.int (0) :: st) h := am_ev_step (q := (121, ls, .int (0) :: st, h)) _ (.iconst (0)) 1 am_my_131 (by decide +kernel) rfl
theorem e131_121 {ls : List (Option Value)} {st : List Value} {h : am_H} {a b : Int32} : am_ev 131 121 (ls) (.int b :: .int a :: st) h = am_ev 131 122 (ls) (.int (a ||| b) :: st) h := am_ev_step (q := (122, ls, .int (a ||| b) :: st, h)) _ (.ior) 1 am_my_131 (by decide +kernel) rfl
theorem e131_122 {ls : List (Option Value)} {st : List Value} {h : am_H} {v i : Int32} {a : Nat} (ht : am_tc h a = some 0) : am_ev 131 122 ls (.int v :: .int i :: .ref a :: st) h = if am_ix i (am_len h a) = true then am_ev 131 123 ls st (am_sI h a i.toNatClampNeg v) else none := am_u_wI am_my_131 (by decide +kernel) ht
theorem e131_123 {ls : List (Option Value)} {st : List Value} {h : am_H} {l0 l1 l2 l3 : Option Value} {a : Int32} : am_ev 131 123 (l0 :: l1 :: l2 :: l3 :: some (.int a) :: ls) (st) h = am_ev 131 126 (l0 :: l1 :: l2 :: l3 :: some (.int (a + (1))) :: ls) (st) h := am_ev_step (q := (126, l0 :: l1 :: l2 :: l3 :: some (.int (a + (1))) :: ls, st, h)) _ (.iinc 4 (1)) 3 am_my_131 (by decide +kernel) rfl
theorem e131_126 {ls : List (Option Value)} {st : List Value} {h : am_H} : am_ev 131 126 (ls) (st) h = am_ev 131 81 (ls) (st) h := am_ev_step (q := (81, ls, st, h)) _ (.goto (-45)) 3 am_my_131 (by decide +kernel) rfl
theorem e131_129 {ls : List (Option Value)} {st : List Value} {h : am_H} {l0 l1 l2 : Option Value} {a : Int32} : am_ev 131 129 (l0 :: l1 :: l2 :: some (.int a) :: ls) (st) h = am_ev 131 132 (l0 :: l1 :: l2 :: some (.int (a + (1))) :: ls) (st) h := am_ev_step (q := (132, l0 :: l1 :: l2 :: some (.int (a + (1))) :: ls, st, h)) _ (.iinc 3 (1)) 3 am_my_131 (by decide +kernel) rfl
theorem e131_132 {ls : List (Option Value)} {st : List Value} {h : am_H} : am_ev 131 132 (ls) (st) h = am_ev 131 2 (ls) (st) h := am_ev_step (q := (2, ls, st, h)) _ (.goto (-130)) 3 am_my_131 (by decide +kernel) rfl
theorem e131_135 {ls : List (Option Value)} {h : am_H} : am_ev 131 135 ls [] h = some (none, h) := am_u_rtV am_my_131 (by decide +kernel) rfl
theorem e132_0 {ls : List (Option Value)} {st : List Value} {h : am_H} : am_ev 132 0 (ls) (st) h = am_ev 132 1 (ls) (.int (0) :: st) h := am_ev_step (q := (1, ls, .int (0) :: st, h)) _ (.iconst (0)) 1 am_my_132 (by decide +kernel) rfl
theorem e132_1 {ls : List (Option Value)} {st : List Value} {h : am_H} {l0 l1 : Option Value} {z : Option Value} {a : Int32} : am_ev 132 1 (l0 :: l1 :: z :: ls) (.int a :: st) h = am_ev 132 2 (l0 :: l1 :: some (.int a) :: ls) (st) h := am_ev_step (q := (2, l0 :: l1 :: some (.int a) :: ls, st, h)) _ (.istore_n 2) 1 am_my_132 (by decide +kernel) rfl
theorem e132_2 {ls : List (Option Value)} {st : List Value} {h : am_H} : am_ev 132 2 (ls) (st) h = am_ev 132 3 (ls) (.int (0) :: st) h := am_ev_step (q := (3, ls, .int (0) :: st, h)) _ (.iconst (0)) 1 am_my_132 (by decide +kernel) rfl
theorem e132_3 {ls : List (Option Value)} {st : List Value} {h : am_H} {l0 l1 l2 : Option Value} {z : Option Value} {a : Int32} : am_ev 132 3 (l0 :: l1 :: l2 :: z :: ls) (.int a :: st) h = am_ev 132 4 (l0 :: l1 :: l2 :: some (.int a) :: ls) (st) h := am_ev_step (q := (4, l0 :: l1 :: l2 :: some (.int a) :: ls, st, h)) _ (.istore_n 3) 1 am_my_132 (by decide +kernel) rfl
theorem e132_4 {ls : List (Option Value)} {st : List Value} {h : am_H} {l0 l1 l2 : Option Value} {a : Int32} : am_ev 132 4 (l0 :: l1 :: l2 :: some (.int a) :: ls) (st) h = am_ev 132 5 (l0 :: l1 :: l2 :: some (.int a) :: ls) (.int a :: st) h := am_ev_step (q := (5, l0 :: l1 :: l2 :: some (.int a) :: ls, .int a :: st, h)) _ (.iload_n 3) 1 am_my_132 (by decide +kernel) rfl
theorem e132_5 {ls : List (Option Value)} {st : List Value} {h : am_H} {a : Nat} : am_ev 132 5 (some (.ref a) :: ls) (st) h = am_ev 132 6 (some (.ref a) :: ls) (.ref a :: st) h := am_ev_step (q := (6, some (.ref a) :: ls, .ref a :: st, h)) _ (.aload_n 0) 1 am_my_132 (by decide +kernel) rfl
theorem e132_6 {ls : List (Option Value)} {st : List Value} {h : am_H} {o : Nat} (hk : am_kd h o = some (.inl 0)) : am_ev 132 6 ls (.ref o :: st) h = am_ev 132 9 ls (.int (h.1 o 1) :: st) h := am_u_gfI (idx := 44) (wn := 1124) am_my_132 (by decide +kernel) (by decide +kernel) (by decide +kernel) hk
theorem e132_9 {ls : List (Option Value)} {st : List Value} {h : am_H} {a b : Int32} : am_ev 132 9 ls (.int b :: .int a :: st) h = if b ≤ a then am_ev 132 39 ls st h else am_ev 132 12 ls st h := am_u_if2 (c := .ge) (off := 30) am_my_132 (by decide +kernel) (by decide)
theorem e132_12 {ls : List (Option Value)} {st : List Value} {h : am_H} {l0 l1 : Option Value} {a : Int32} : am_ev 132 12 (l0 :: l1 :: some (.int a) :: ls) (st) h = am_ev 132 13 (l0 :: l1 :: some (.int a) :: ls) (.int a :: st) h := am_ev_step (q := (13, l0 :: l1 :: some (.int a) :: ls, .int a :: st, h)) _ (.iload_n 2) 1 am_my_132 (by decide +kernel) rfl
theorem e132_13 {ls : List (Option Value)} {st : List Value} {h : am_H} {l0 : Option Value} {a : Int32} : am_ev 132 13 (l0 :: some (.int a) :: ls) (st) h = am_ev 132 14 (l0 :: some (.int a) :: ls) (.int a :: st) h := am_ev_step (q := (14, l0 :: some (.int a) :: ls, .int a :: st, h)) _ (.iload_n 1) 1 am_my_132 (by decide +kernel) rfl
theorem e132_14 {ls : List (Option Value)} {st : List Value} {h : am_H} {l0 l1 l2 : Option Value} {a : Int32} : am_ev 132 14 (l0 :: l1 :: l2 :: some (.int a) :: ls) (st) h = am_ev 132 15 (l0 :: l1 :: l2 :: some (.int a) :: ls) (.int a :: st) h := am_ev_step (q := (15, l0 :: l1 :: l2 :: some (.int a) :: ls, .int a :: st, h)) _ (.iload_n 3) 1 am_my_132 (by decide +kernel) rfl
theorem e132_15 {ls : List (Option Value)} {st : List Value} {h : am_H} {a b : Int32} : am_ev 132 15 (ls) (.int b :: .int a :: st) h = am_ev 132 16 (ls) (.int (a >>> (b &&& 31)) :: st) h := am_ev_step (q := (16, ls, .int (a >>> (b &&& 31)) :: st, h)) _ (.ishr) 1 am_my_132 (by decide +kernel) rfl
theorem e132_16 {ls : List (Option Value)} {st : List Value} {h : am_H} : am_ev 132 16 (ls) (st) h = am_ev 132 17 (ls) (.int (1) :: st) h := am_ev_step (q := (17, ls, .int (1) :: st, h)) _ (.iconst (1)) 1 am_my_132 (by decide +kernel) rfl
theorem e132_17 {ls : List (Option Value)} {st : List Value} {h : am_H} {a b : Int32} : am_ev 132 17 (ls) (.int b :: .int a :: st) h = am_ev 132 18 (ls) (.int (a &&& b) :: st) h := am_ev_step (q := (18, ls, .int (a &&& b) :: st, h)) _ (.iand) 1 am_my_132 (by decide +kernel) rfl
theorem e132_18 {ls : List (Option Value)} {st : List Value} {h : am_H} {a : Int32} : am_ev 132 18 ls (.int a :: st) h = if a = 0 then am_ev 132 30 ls st h else am_ev 132 21 ls st h := am_u_if1 (c := .eq) (off := 12) am_my_132 (by decide +kernel) (by decide)
theorem e132_21 {ls : List (Option Value)} {st : List Value} {h : am_H} {a : Nat} : am_ev 132 21 (some (.ref a) :: ls) (st) h = am_ev 132 22 (some (.ref a) :: ls) (.ref a :: st) h := am_ev_step (q := (22, some (.ref a) :: ls, .ref a :: st, h)) _ (.aload_n 0) 1 am_my_132 (by decide +kernel) rfl
theorem e132_22 {ls : List (Option Value)} {st : List Value} {h : am_H} {o : Nat} (hk : am_kd h o = some (.inl 0)) : am_ev 132 22 ls (.ref o :: st) h = am_ev 132 25 ls (va_rf (h.2.2.1 o 6) :: st) h := am_u_gfR (idx := 64) (wn := 1136) (a := 0) am_my_132 (by decide +kernel) (by decide +kernel) (by decide +kernel) hk
theorem e132_25 {ls : List (Option Value)} {st : List Value} {h : am_H} {l0 l1 l2 : Option Value} {a : Int32} : am_ev 132 25 (l0 :: l1 :: l2 :: some (.int a) :: ls) (st) h = am_ev 132 26 (l0 :: l1 :: l2 :: some (.int a) :: ls) (.int a :: st) h := am_ev_step (q := (26, l0 :: l1 :: l2 :: some (.int a) :: ls, .int a :: st, h)) _ (.iload_n 3) 1 am_my_132 (by decide +kernel) rfl
theorem e132_26 {ls : List (Option Value)} {st : List Value} {h : am_H} {i : Int32} {a : Nat} (ht : am_tc h a = some 0) : am_ev 132 26 ls (.int i :: .ref a :: st) h = if am_ix i (am_len h a) = true then am_ev 132 27 ls (.int (h.1 a i.toNatClampNeg) :: st) h else none := am_u_rI am_my_132 (by decide +kernel) ht
theorem e132_27 {ls : List (Option Value)} {st : List Value} {h : am_H} : am_ev 132 27 (ls) (st) h = am_ev 132 31 (ls) (st) h := am_ev_step (q := (31, ls, st, h)) _ (.goto (4)) 3 am_my_132 (by decide +kernel) rfl
theorem e132_30 {ls : List (Option Value)} {st : List Value} {h : am_H} : am_ev 132 30 (ls) (st) h = am_ev 132 31 (ls) (.int (0) :: st) h := am_ev_step (q := (31, ls, .int (0) :: st, h)) _ (.iconst (0)) 1 am_my_132 (by decide +kernel) rfl
theorem e132_31 {ls : List (Option Value)} {st : List Value} {h : am_H} {a b : Int32} : am_ev 132 31 (ls) (.int b :: .int a :: st) h = am_ev 132 32 (ls) (.int (a + b) :: st) h := am_ev_step (q := (32, ls, .int (a + b) :: st, h)) _ (.iadd) 1 am_my_132 (by decide +kernel) rfl
theorem e132_32 {ls : List (Option Value)} {st : List Value} {h : am_H} {l0 l1 : Option Value} {z : Option Value} {a : Int32} : am_ev 132 32 (l0 :: l1 :: z :: ls) (.int a :: st) h = am_ev 132 33 (l0 :: l1 :: some (.int a) :: ls) (st) h := am_ev_step (q := (33, l0 :: l1 :: some (.int a) :: ls, st, h)) _ (.istore_n 2) 1 am_my_132 (by decide +kernel) rfl
theorem e132_33 {ls : List (Option Value)} {st : List Value} {h : am_H} {l0 l1 l2 : Option Value} {a : Int32} : am_ev 132 33 (l0 :: l1 :: l2 :: some (.int a) :: ls) (st) h = am_ev 132 36 (l0 :: l1 :: l2 :: some (.int (a + (1))) :: ls) (st) h := am_ev_step (q := (36, l0 :: l1 :: l2 :: some (.int (a + (1))) :: ls, st, h)) _ (.iinc 3 (1)) 3 am_my_132 (by decide +kernel) rfl
theorem e132_36 {ls : List (Option Value)} {st : List Value} {h : am_H} : am_ev 132 36 (ls) (st) h = am_ev 132 4 (ls) (st) h := am_ev_step (q := (4, ls, st, h)) _ (.goto (-32)) 3 am_my_132 (by decide +kernel) rfl
theorem e132_39 {ls : List (Option Value)} {st : List Value} {h : am_H} {l0 l1 : Option Value} {a : Int32} : am_ev 132 39 (l0 :: l1 :: some (.int a) :: ls) (st) h = am_ev 132 40 (l0 :: l1 :: some (.int a) :: ls) (.int a :: st) h := am_ev_step (q := (40, l0 :: l1 :: some (.int a) :: ls, .int a :: st, h)) _ (.iload_n 2) 1 am_my_132 (by decide +kernel) rfl
theorem e132_40 {ls : List (Option Value)} {h : am_H} {v : Int32} : am_ev 132 40 ls [.int v] h = some (some (.int v), h) := am_u_rtI am_my_132 (by decide +kernel) rfl
theorem e133_0 {ls : List (Option Value)} {st : List Value} {h : am_H} {l0 l1 : Option Value} {a : Int32} : am_ev 133 0 (l0 :: l1 :: some (.int a) :: ls) (st) h = am_ev 133 1 (l0 :: l1 :: some (.int a) :: ls) (.int a :: st) h := am_ev_step (q := (1, l0 :: l1 :: some (.int a) :: ls, .int a :: st, h)) _ (.iload_n 2) 1 am_my_133 (by decide +kernel) rfl
theorem e133_1 {ls : List (Option Value)} {st : List Value} {h : am_H} {l0 l1 l2 l3 : Option Value} {z : Option Value} {a : Int32} : am_ev 133 1 (l0 :: l1 :: l2 :: l3 :: z :: ls) (.int a :: st) h = am_ev 133 3 (l0 :: l1 :: l2 :: l3 :: some (.int a) :: ls) (st) h := am_ev_step (q := (3, l0 :: l1 :: l2 :: l3 :: some (.int a) :: ls, st, h)) _ (.istore 4) 2 am_my_133 (by decide +kernel) rfl
theorem e133_3 {ls : List (Option Value)} {st : List Value} {h : am_H} {l0 l1 l2 l3 : Option Value} {a : Int32} : am_ev 133 3 (l0 :: l1 :: l2 :: l3 :: some (.int a) :: ls) (st) h = am_ev 133 5 (l0 :: l1 :: l2 :: l3 :: some (.int a) :: ls) (.int a :: st) h := am_ev_step (q := (5, l0 :: l1 :: l2 :: l3 :: some (.int a) :: ls, .int a :: st, h)) _ (.iload 4) 2 am_my_133 (by decide +kernel) rfl
theorem e133_5 {ls : List (Option Value)} {st : List Value} {h : am_H} {l0 : Option Value} {a : Nat} : am_ev 133 5 (l0 :: some (.ref a) :: ls) (st) h = am_ev 133 6 (l0 :: some (.ref a) :: ls) (.ref a :: st) h := am_ev_step (q := (6, l0 :: some (.ref a) :: ls, .ref a :: st, h)) _ (.aload_n 1) 1 am_my_133 (by decide +kernel) rfl
theorem e133_6 {ls : List (Option Value)} {st : List Value} {h : am_H} {o : Nat} (hk : am_kd h o = some (.inl 0)) : am_ev 133 6 ls (.ref o :: st) h = am_ev 133 9 ls (.int (h.1 o 1) :: st) h := am_u_gfI (idx := 44) (wn := 1124) am_my_133 (by decide +kernel) (by decide +kernel) (by decide +kernel) hk
theorem e133_9 {ls : List (Option Value)} {st : List Value} {h : am_H} {a b : Int32} : am_ev 133 9 ls (.int b :: .int a :: st) h = if b ≤ a then am_ev 133 42 ls st h else am_ev 133 12 ls st h := am_u_if2 (c := .ge) (off := 33) am_my_133 (by decide +kernel) (by decide)
theorem e133_12 {ls : List (Option Value)} {st : List Value} {h : am_H} {l0 l1 l2 : Option Value} {a : Int32} : am_ev 133 12 (l0 :: l1 :: l2 :: some (.int a) :: ls) (st) h = am_ev 133 13 (l0 :: l1 :: l2 :: some (.int a) :: ls) (.int a :: st) h := am_ev_step (q := (13, l0 :: l1 :: l2 :: some (.int a) :: ls, .int a :: st, h)) _ (.iload_n 3) 1 am_my_133 (by decide +kernel) rfl
theorem e133_13 {ls : List (Option Value)} {st : List Value} {h : am_H} {a : Nat} : am_ev 133 13 (some (.ref a) :: ls) (st) h = am_ev 133 14 (some (.ref a) :: ls) (.ref a :: st) h := am_ev_step (q := (14, some (.ref a) :: ls, .ref a :: st, h)) _ (.aload_n 0) 1 am_my_133 (by decide +kernel) rfl
theorem e133_14 {ls : List (Option Value)} {st : List Value} {h : am_H} {o : Nat} (hk : am_kd h o = some (.inl 6)) : am_ev 133 14 ls (.ref o :: st) h = am_ev 133 17 ls (va_rf (h.2.2.1 o 3) :: st) h := am_u_gfR (idx := 21) (wn := 2133) (a := 0) am_my_133 (by decide +kernel) (by decide +kernel) (by decide +kernel) hk
theorem e133_17 {ls : List (Option Value)} {st : List Value} {h : am_H} {l0 l1 l2 l3 : Option Value} {a : Int32} : am_ev 133 17 (l0 :: l1 :: l2 :: l3 :: some (.int a) :: ls) (st) h = am_ev 133 19 (l0 :: l1 :: l2 :: l3 :: some (.int a) :: ls) (.int a :: st) h := am_ev_step (q := (19, l0 :: l1 :: l2 :: l3 :: some (.int a) :: ls, .int a :: st, h)) _ (.iload 4) 2 am_my_133 (by decide +kernel) rfl
theorem e133_19 {ls : List (Option Value)} {st : List Value} {h : am_H} {i : Int32} {a : Nat} (ht : am_tc h a = some 0) : am_ev 133 19 ls (.int i :: .ref a :: st) h = if am_ix i (am_len h a) = true then am_ev 133 20 ls (.int (h.1 a i.toNatClampNeg) :: st) h else none := am_u_rI am_my_133 (by decide +kernel) ht
theorem e133_20 {ls : List (Option Value)} {st : List Value} {h : am_H} {a b : Int32} : am_ev 133 20 (ls) (.int b :: .int a :: st) h = am_ev 133 21 (ls) (.int (a &&& b) :: st) h := am_ev_step (q := (21, ls, .int (a &&& b) :: st, h)) _ (.iand) 1 am_my_133 (by decide +kernel) rfl
theorem e133_21 {ls : List (Option Value)} {st : List Value} {h : am_H} {p0 : Int32} (hw : am_w8 st ≤ 8) : am_ev 133 21 ls (.int p0 :: st) h = am_bd (am_den 134 [.int p0] h) (fun v h1 => am_ev 133 24 ls (v.toList ++ st) h1) := am_u_cS (idx := 67) (wn := 5000) (as := [.int p0]) am_my_133 (by decide +kernel) (by decide +kernel) am_my_134 (by decide +kernel) rfl ⟨Nat.le_of_ble_eq_true rfl, rfl⟩ hw
theorem e133_24 {ls : List (Option Value)} {st : List Value} {h : am_H} {a : Nat} : am_ev 133 24 (some (.ref a) :: ls) (st) h = am_ev 133 25 (some (.ref a) :: ls) (.ref a :: st) h := am_ev_step (q := (25, some (.ref a) :: ls, .ref a :: st, h)) _ (.aload_n 0) 1 am_my_133 (by decide +kernel) rfl
theorem e133_25 {ls : List (Option Value)} {st : List Value} {h : am_H} {o : Nat} (hk : am_kd h o = some (.inl 6)) : am_ev 133 25 ls (.ref o :: st) h = am_ev 133 28 ls (va_rf (h.2.2.1 o 2) :: st) h := am_u_gfR (idx := 18) (wn := 2132) (a := 0) am_my_133 (by decide +kernel) (by decide +kernel) (by decide +kernel) hk
theorem e133_28 {ls : List (Option Value)} {st : List Value} {h : am_H} {l0 l1 l2 l3 : Option Value} {a : Int32} : am_ev 133 28 (l0 :: l1 :: l2 :: l3 :: some (.int a) :: ls) (st) h = am_ev 133 30 (l0 :: l1 :: l2 :: l3 :: some (.int a) :: ls) (.int a :: st) h := am_ev_step (q := (30, l0 :: l1 :: l2 :: l3 :: some (.int a) :: ls, .int a :: st, h)) _ (.iload 4) 2 am_my_133 (by decide +kernel) rfl
theorem e133_30 {ls : List (Option Value)} {st : List Value} {h : am_H} {i : Int32} {a : Nat} (ht : am_tc h a = some 0) : am_ev 133 30 ls (.int i :: .ref a :: st) h = if am_ix i (am_len h a) = true then am_ev 133 31 ls (.int (h.1 a i.toNatClampNeg) :: st) h else none := am_u_rI am_my_133 (by decide +kernel) ht
theorem e133_31 {ls : List (Option Value)} {st : List Value} {h : am_H} {a b : Int32} : am_ev 133 31 ls (.int b :: .int a :: st) h = if a ≤ b then am_ev 133 36 ls st h else am_ev 133 34 ls st h := am_u_if2 (c := .le) (off := 5) am_my_133 (by decide +kernel) (by decide)
theorem e133_34 {ls : List (Option Value)} {st : List Value} {h : am_H} : am_ev 133 34 (ls) (st) h = am_ev 133 35 (ls) (.int (0) :: st) h := am_ev_step (q := (35, ls, .int (0) :: st, h)) _ (.iconst (0)) 1 am_my_133 (by decide +kernel) rfl
theorem e133_35 {ls : List (Option Value)} {h : am_H} {v : Int32} (hv : v = 0 ∨ v = 1) : am_ev 133 35 ls [.int v] h = some (some (.int v), h) := am_u_rtZ am_my_133 (by decide +kernel) rfl hv
theorem e133_36 {ls : List (Option Value)} {st : List Value} {h : am_H} {l0 l1 l2 l3 : Option Value} {a : Int32} : am_ev 133 36 (l0 :: l1 :: l2 :: l3 :: some (.int a) :: ls) (st) h = am_ev 133 39 (l0 :: l1 :: l2 :: l3 :: some (.int (a + (1))) :: ls) (st) h := am_ev_step (q := (39, l0 :: l1 :: l2 :: l3 :: some (.int (a + (1))) :: ls, st, h)) _ (.iinc 4 (1)) 3 am_my_133 (by decide +kernel) rfl
theorem e133_39 {ls : List (Option Value)} {st : List Value} {h : am_H} : am_ev 133 39 (ls) (st) h = am_ev 133 3 (ls) (st) h := am_ev_step (q := (3, ls, st, h)) _ (.goto (-36)) 3 am_my_133 (by decide +kernel) rfl
theorem e133_42 {ls : List (Option Value)} {st : List Value} {h : am_H} : am_ev 133 42 (ls) (st) h = am_ev 133 43 (ls) (.int (1) :: st) h := am_ev_step (q := (43, ls, .int (1) :: st, h)) _ (.iconst (1)) 1 am_my_133 (by decide +kernel) rfl
theorem e133_43 {ls : List (Option Value)} {h : am_H} {v : Int32} (hv : v = 0 ∨ v = 1) : am_ev 133 43 ls [.int v] h = some (some (.int v), h) := am_u_rtZ am_my_133 (by decide +kernel) rfl hv
theorem e135_0 {ls : List (Option Value)} {st : List Value} {h : am_H} {a : Nat} : am_ev 135 0 (some (.ref a) :: ls) (st) h = am_ev 135 1 (some (.ref a) :: ls) (.ref a :: st) h := am_ev_step (q := (1, some (.ref a) :: ls, .ref a :: st, h)) _ (.aload_n 0) 1 am_my_135 (by decide +kernel) rfl
theorem e135_1 {ls : List (Option Value)} {st : List Value} {h : am_H} {l0 : Option Value} {a : Nat} : am_ev 135 1 (l0 :: some (.ref a) :: ls) (st) h = am_ev 135 2 (l0 :: some (.ref a) :: ls) (.ref a :: st) h := am_ev_step (q := (2, l0 :: some (.ref a) :: ls, .ref a :: st, h)) _ (.aload_n 1) 1 am_my_135 (by decide +kernel) rfl
theorem e135_2 {ls : List (Option Value)} {st : List Value} {h : am_H} : am_ev 135 2 (ls) (st) h = am_ev 135 3 (ls) (.int (-1) :: st) h := am_ev_step (q := (3, ls, .int (-1) :: st, h)) _ (.iconst (-1)) 1 am_my_135 (by decide +kernel) rfl
theorem e135_3 {ls : List (Option Value)} {st : List Value} {h : am_H} {p0 : Nat} {p1 : Int32} {o : Nat} (hw : am_w8 st ≤ 8) (hk : am_kd h o = some (.inl 6)) : am_ev 135 3 ls (.int p1 :: .ref p0 :: .ref o :: st) h = am_bd (am_den 129 [.ref o, .ref p0, .int p1] h) (fun v h1 => am_ev 135 6 ls (v.toList ++ st) h1) := am_u_cV (idx := 73) (wn := 5010) (as := [.ref p0, .int p1]) am_my_135 (by decide +kernel) (Or.inl (by decide +kernel)) am_my_129 (by decide +kernel) rfl ⟨Nat.le_of_ble_eq_true rfl, rfl⟩ (by decide +kernel) hw hk
theorem e135_6 {ls : List (Option Value)} {st : List Value} {h : am_H} {l0 l1 : Option Value} {z : Option Value} {a : Int32} : am_ev 135 6 (l0 :: l1 :: z :: ls) (.int a :: st) h = am_ev 135 7 (l0 :: l1 :: some (.int a) :: ls) (st) h := am_ev_step (q := (7, l0 :: l1 :: some (.int a) :: ls, st, h)) _ (.istore_n 2) 1 am_my_135 (by decide +kernel) rfl
theorem e135_7 {ls : List (Option Value)} {st : List Value} {h : am_H} : am_ev 135 7 (ls) (st) h = am_ev 135 8 (ls) (.int (0) :: st) h := am_ev_step (q := (8, ls, .int (0) :: st, h)) _ (.iconst (0)) 1 am_my_135 (by decide +kernel) rfl
theorem e135_8 {ls : List (Option Value)} {st : List Value} {h : am_H} {l0 l1 l2 : Option Value} {z : Option Value} {a : Int32} : am_ev 135 8 (l0 :: l1 :: l2 :: z :: ls) (.int a :: st) h = am_ev 135 9 (l0 :: l1 :: l2 :: some (.int a) :: ls) (st) h := am_ev_step (q := (9, l0 :: l1 :: l2 :: some (.int a) :: ls, st, h)) _ (.istore_n 3) 1 am_my_135 (by decide +kernel) rfl
theorem e135_9 {ls : List (Option Value)} {st : List Value} {h : am_H} {l0 l1 l2 : Option Value} {a : Int32} : am_ev 135 9 (l0 :: l1 :: l2 :: some (.int a) :: ls) (st) h = am_ev 135 10 (l0 :: l1 :: l2 :: some (.int a) :: ls) (.int a :: st) h := am_ev_step (q := (10, l0 :: l1 :: l2 :: some (.int a) :: ls, .int a :: st, h)) _ (.iload_n 3) 1 am_my_135 (by decide +kernel) rfl
theorem e135_10 {ls : List (Option Value)} {st : List Value} {h : am_H} {l0 : Option Value} {a : Nat} : am_ev 135 10 (l0 :: some (.ref a) :: ls) (st) h = am_ev 135 11 (l0 :: some (.ref a) :: ls) (.ref a :: st) h := am_ev_step (q := (11, l0 :: some (.ref a) :: ls, .ref a :: st, h)) _ (.aload_n 1) 1 am_my_135 (by decide +kernel) rfl
theorem e135_11 {ls : List (Option Value)} {st : List Value} {h : am_H} {o : Nat} (hk : am_kd h o = some (.inl 0)) : am_ev 135 11 ls (.ref o :: st) h = am_ev 135 14 ls (.int (h.1 o 1) :: st) h := am_u_gfI (idx := 44) (wn := 1124) am_my_135 (by decide +kernel) (by decide +kernel) (by decide +kernel) hk
theorem e135_14 {ls : List (Option Value)} {st : List Value} {h : am_H} {a b : Int32} : am_ev 135 14 ls (.int b :: .int a :: st) h = if b ≤ a then am_ev 135 149 ls st h else am_ev 135 17 ls st h := am_u_if2 (c := .ge) (off := 135) am_my_135 (by decide +kernel) (by decide)
theorem e135_17 {ls : List (Option Value)} {st : List Value} {h : am_H} {a : Nat} : am_ev 135 17 (some (.ref a) :: ls) (st) h = am_ev 135 18 (some (.ref a) :: ls) (.ref a :: st) h := am_ev_step (q := (18, some (.ref a) :: ls, .ref a :: st, h)) _ (.aload_n 0) 1 am_my_135 (by decide +kernel) rfl
theorem e135_18 {ls : List (Option Value)} {st : List Value} {h : am_H} {o : Nat} (hk : am_kd h o = some (.inl 6)) : am_ev 135 18 ls (.ref o :: st) h = am_ev 135 21 ls (va_rf (h.2.2.1 o 0) :: st) h := am_u_gfR (idx := 9) (wn := 2129) (a := 0) am_my_135 (by decide +kernel) (by decide +kernel) (by decide +kernel) hk
theorem e135_21 {ls : List (Option Value)} {st : List Value} {h : am_H} {l0 l1 l2 : Option Value} {a : Int32} : am_ev 135 21 (l0 :: l1 :: l2 :: some (.int a) :: ls) (st) h = am_ev 135 22 (l0 :: l1 :: l2 :: some (.int a) :: ls) (.int a :: st) h := am_ev_step (q := (22, l0 :: l1 :: l2 :: some (.int a) :: ls, .int a :: st, h)) _ (.iload_n 3) 1 am_my_135 (by decide +kernel) rfl
theorem e135_22 {ls : List (Option Value)} {st : List Value} {h : am_H} : am_ev 135 22 (ls) (st) h = am_ev 135 23 (ls) (.int (5) :: st) h := am_ev_step (q := (23, ls, .int (5) :: st, h)) _ (.iconst (5)) 1 am_my_135 (by decide +kernel) rfl
theorem e135_23 {ls : List (Option Value)} {st : List Value} {h : am_H} {v i : Int32} {a : Nat} (ht : am_tc h a = some 0) : am_ev 135 23 ls (.int v :: .int i :: .ref a :: st) h = if am_ix i (am_len h a) = true then am_ev 135 24 ls st (am_sI h a i.toNatClampNeg v) else none := am_u_wI am_my_135 (by decide +kernel) ht
theorem e135_24 {ls : List (Option Value)} {st : List Value} {h : am_H} : am_ev 135 24 (ls) (st) h = am_ev 135 25 (ls) (.int (0) :: st) h := am_ev_step (q := (25, ls, .int (0) :: st, h)) _ (.iconst (0)) 1 am_my_135 (by decide +kernel) rfl
theorem e135_25 {ls : List (Option Value)} {st : List Value} {h : am_H} {l0 l1 l2 l3 : Option Value} {z : Option Value} {a : Int32} : am_ev 135 25 (l0 :: l1 :: l2 :: l3 :: z :: ls) (.int a :: st) h = am_ev 135 27 (l0 :: l1 :: l2 :: l3 :: some (.int a) :: ls) (st) h := am_ev_step (q := (27, l0 :: l1 :: l2 :: l3 :: some (.int a) :: ls, st, h)) _ (.istore 4) 2 am_my_135 (by decide +kernel) rfl
theorem e135_27 {ls : List (Option Value)} {st : List Value} {h : am_H} {l0 l1 l2 l3 : Option Value} {a : Int32} : am_ev 135 27 (l0 :: l1 :: l2 :: l3 :: some (.int a) :: ls) (st) h = am_ev 135 29 (l0 :: l1 :: l2 :: l3 :: some (.int a) :: ls) (.int a :: st) h := am_ev_step (q := (29, l0 :: l1 :: l2 :: l3 :: some (.int a) :: ls, .int a :: st, h)) _ (.iload 4) 2 am_my_135 (by decide +kernel) rfl
theorem e135_29 {ls : List (Option Value)} {st : List Value} {h : am_H} {l0 : Option Value} {a : Nat} : am_ev 135 29 (l0 :: some (.ref a) :: ls) (st) h = am_ev 135 30 (l0 :: some (.ref a) :: ls) (.ref a :: st) h := am_ev_step (q := (30, l0 :: some (.ref a) :: ls, .ref a :: st, h)) _ (.aload_n 1) 1 am_my_135 (by decide +kernel) rfl
theorem e135_30 {ls : List (Option Value)} {st : List Value} {h : am_H} {o : Nat} (hk : am_kd h o = some (.inl 0)) : am_ev 135 30 ls (.ref o :: st) h = am_ev 135 33 ls (.int (h.1 o 0) :: st) h := am_u_gfI (idx := 55) (wn := 1121) am_my_135 (by decide +kernel) (by decide +kernel) (by decide +kernel) hk
theorem e135_33 {ls : List (Option Value)} {st : List Value} {h : am_H} {a b : Int32} : am_ev 135 33 ls (.int b :: .int a :: st) h = if b ≤ a then am_ev 135 143 ls st h else am_ev 135 36 ls st h := am_u_if2 (c := .ge) (off := 110) am_my_135 (by decide +kernel) (by decide)
theorem e135_36 {ls : List (Option Value)} {st : List Value} {h : am_H} {a : Nat} : am_ev 135 36 (some (.ref a) :: ls) (st) h = am_ev 135 37 (some (.ref a) :: ls) (.ref a :: st) h := am_ev_step (q := (37, some (.ref a) :: ls, .ref a :: st, h)) _ (.aload_n 0) 1 am_my_135 (by decide +kernel) rfl
theorem e135_37 {ls : List (Option Value)} {st : List Value} {h : am_H} {o : Nat} (hk : am_kd h o = some (.inl 6)) : am_ev 135 37 ls (.ref o :: st) h = am_ev 135 40 ls (va_rf (h.2.2.1 o 0) :: st) h := am_u_gfR (idx := 9) (wn := 2129) (a := 0) am_my_135 (by decide +kernel) (by decide +kernel) (by decide +kernel) hk
theorem e135_40 {ls : List (Option Value)} {st : List Value} {h : am_H} {l0 l1 l2 : Option Value} {a : Int32} : am_ev 135 40 (l0 :: l1 :: l2 :: some (.int a) :: ls) (st) h = am_ev 135 41 (l0 :: l1 :: l2 :: some (.int a) :: ls) (.int a :: st) h := am_ev_step (q := (41, l0 :: l1 :: l2 :: some (.int a) :: ls, .int a :: st, h)) _ (.iload_n 3) 1 am_my_135 (by decide +kernel) rfl
theorem e135_41 {ls : List (Option Value)} {st : List Value} {h : am_H} {i : Int32} {a : Nat} (ht : am_tc h a = some 0) : am_ev 135 41 ls (.int i :: .ref a :: st) h = if am_ix i (am_len h a) = true then am_ev 135 42 ls (.int (h.1 a i.toNatClampNeg) :: st) h else none := am_u_rI am_my_135 (by decide +kernel) ht
theorem e135_42 {ls : List (Option Value)} {st : List Value} {h : am_H} : am_ev 135 42 (ls) (st) h = am_ev 135 43 (ls) (.int (5) :: st) h := am_ev_step (q := (43, ls, .int (5) :: st, h)) _ (.iconst (5)) 1 am_my_135 (by decide +kernel) rfl
theorem e135_43 {ls : List (Option Value)} {st : List Value} {h : am_H} {a b : Int32} : am_ev 135 43 ls (.int b :: .int a :: st) h = if ¬ a = b then am_ev 135 143 ls st h else am_ev 135 46 ls st h := am_u_if2 (c := .ne) (off := 100) am_my_135 (by decide +kernel) (by decide)
theorem e135_46 {ls : List (Option Value)} {st : List Value} {h : am_H} {a : Nat} : am_ev 135 46 (some (.ref a) :: ls) (st) h = am_ev 135 47 (some (.ref a) :: ls) (.ref a :: st) h := am_ev_step (q := (47, some (.ref a) :: ls, .ref a :: st, h)) _ (.aload_n 0) 1 am_my_135 (by decide +kernel) rfl
theorem e135_47 {ls : List (Option Value)} {st : List Value} {h : am_H} {o : Nat} (hk : am_kd h o = some (.inl 6)) : am_ev 135 47 ls (.ref o :: st) h = am_ev 135 50 ls (va_rf (h.2.2.1 o 1) :: st) h := am_u_gfR (idx := 15) (wn := 2131) (a := 0) am_my_135 (by decide +kernel) (by decide +kernel) (by decide +kernel) hk
theorem e135_50 {ls : List (Option Value)} {st : List Value} {h : am_H} {l0 l1 l2 l3 : Option Value} {a : Int32} : am_ev 135 50 (l0 :: l1 :: l2 :: l3 :: some (.int a) :: ls) (st) h = am_ev 135 52 (l0 :: l1 :: l2 :: l3 :: some (.int a) :: ls) (.int a :: st) h := am_ev_step (q := (52, l0 :: l1 :: l2 :: l3 :: some (.int a) :: ls, .int a :: st, h)) _ (.iload 4) 2 am_my_135 (by decide +kernel) rfl
theorem e135_52 {ls : List (Option Value)} {st : List Value} {h : am_H} {i : Int32} {a : Nat} (ht : am_tc h a = some 0) : am_ev 135 52 ls (.int i :: .ref a :: st) h = if am_ix i (am_len h a) = true then am_ev 135 53 ls (.int (h.1 a i.toNatClampNeg) :: st) h else none := am_u_rI am_my_135 (by decide +kernel) ht
theorem e135_53 {ls : List (Option Value)} {st : List Value} {h : am_H} : am_ev 135 53 (ls) (st) h = am_ev 135 54 (ls) (.int (1) :: st) h := am_ev_step (q := (54, ls, .int (1) :: st, h)) _ (.iconst (1)) 1 am_my_135 (by decide +kernel) rfl
theorem e135_54 {ls : List (Option Value)} {st : List Value} {h : am_H} {a b : Int32} : am_ev 135 54 ls (.int b :: .int a :: st) h = if a < b then am_ev 135 137 ls st h else am_ev 135 57 ls st h := am_u_if2 (c := .lt) (off := 83) am_my_135 (by decide +kernel) (by decide)
theorem e135_57 {ls : List (Option Value)} {st : List Value} {h : am_H} {l0 : Option Value} {a : Nat} : am_ev 135 57 (l0 :: some (.ref a) :: ls) (st) h = am_ev 135 58 (l0 :: some (.ref a) :: ls) (.ref a :: st) h := am_ev_step (q := (58, l0 :: some (.ref a) :: ls, .ref a :: st, h)) _ (.aload_n 1) 1 am_my_135 (by decide +kernel) rfl
theorem e135_58 {ls : List (Option Value)} {st : List Value} {h : am_H} {o : Nat} (hk : am_kd h o = some (.inl 0)) : am_ev 135 58 ls (.ref o :: st) h = am_ev 135 61 ls (va_rf (h.2.2.1 o 3) :: st) h := am_u_gfR (idx := 58) (wn := 1130) (a := 0) am_my_135 (by decide +kernel) (by decide +kernel) (by decide +kernel) hk
theorem e135_61 {ls : List (Option Value)} {st : List Value} {h : am_H} {l0 l1 l2 l3 : Option Value} {a : Int32} : am_ev 135 61 (l0 :: l1 :: l2 :: l3 :: some (.int a) :: ls) (st) h = am_ev 135 63 (l0 :: l1 :: l2 :: l3 :: some (.int a) :: ls) (.int a :: st) h := am_ev_step (q := (63, l0 :: l1 :: l2 :: l3 :: some (.int a) :: ls, .int a :: st, h)) _ (.iload 4) 2 am_my_135 (by decide +kernel) rfl
theorem e135_63 {ls : List (Option Value)} {st : List Value} {h : am_H} {i : Int32} {a : Nat} (ht : am_tc h a = some 0) : am_ev 135 63 ls (.int i :: .ref a :: st) h = if am_ix i (am_len h a) = true then am_ev 135 64 ls (.int (h.1 a i.toNatClampNeg) :: st) h else none := am_u_rI am_my_135 (by decide +kernel) ht
theorem e135_64 {ls : List (Option Value)} {st : List Value} {h : am_H} {l0 : Option Value} {a : Nat} : am_ev 135 64 (l0 :: some (.ref a) :: ls) (st) h = am_ev 135 65 (l0 :: some (.ref a) :: ls) (.ref a :: st) h := am_ev_step (q := (65, l0 :: some (.ref a) :: ls, .ref a :: st, h)) _ (.aload_n 1) 1 am_my_135 (by decide +kernel) rfl
theorem e135_65 {ls : List (Option Value)} {st : List Value} {h : am_H} {o : Nat} (hk : am_kd h o = some (.inl 0)) : am_ev 135 65 ls (.ref o :: st) h = am_ev 135 68 ls (va_rf (h.2.2.1 o 5) :: st) h := am_u_gfR (idx := 61) (wn := 1134) (a := 0) am_my_135 (by decide +kernel) (by decide +kernel) (by decide +kernel) hk
theorem e135_68 {ls : List (Option Value)} {st : List Value} {h : am_H} {l0 l1 l2 : Option Value} {a : Int32} : am_ev 135 68 (l0 :: l1 :: l2 :: some (.int a) :: ls) (st) h = am_ev 135 69 (l0 :: l1 :: l2 :: some (.int a) :: ls) (.int a :: st) h := am_ev_step (q := (69, l0 :: l1 :: l2 :: some (.int a) :: ls, .int a :: st, h)) _ (.iload_n 3) 1 am_my_135 (by decide +kernel) rfl
theorem e135_69 {ls : List (Option Value)} {st : List Value} {h : am_H} {i : Int32} {a : Nat} (ht : am_tc h a = some 0) : am_ev 135 69 ls (.int i :: .ref a :: st) h = if am_ix i (am_len h a) = true then am_ev 135 70 ls (.int (h.1 a i.toNatClampNeg) :: st) h else none := am_u_rI am_my_135 (by decide +kernel) ht
theorem e135_70 {ls : List (Option Value)} {st : List Value} {h : am_H} {a b : Int32} : am_ev 135 70 ls (.int b :: .int a :: st) h = if b ≤ a then am_ev 135 76 ls st h else am_ev 135 73 ls st h := am_u_if2 (c := .ge) (off := 6) am_my_135 (by decide +kernel) (by decide)
theorem e135_73 {ls : List (Option Value)} {st : List Value} {h : am_H} : am_ev 135 73 (ls) (st) h = am_ev 135 137 (ls) (st) h := am_ev_step (q := (137, ls, st, h)) _ (.goto (64)) 3 am_my_135 (by decide +kernel) rfl
theorem e135_76 {ls : List (Option Value)} {st : List Value} {h : am_H} {a : Nat} : am_ev 135 76 (some (.ref a) :: ls) (st) h = am_ev 135 77 (some (.ref a) :: ls) (.ref a :: st) h := am_ev_step (q := (77, some (.ref a) :: ls, .ref a :: st, h)) _ (.aload_n 0) 1 am_my_135 (by decide +kernel) rfl
theorem e135_77 {ls : List (Option Value)} {st : List Value} {h : am_H} {o : Nat} (hk : am_kd h o = some (.inl 6)) : am_ev 135 77 ls (.ref o :: st) h = am_ev 135 80 ls (va_rf (h.2.2.1 o 1) :: st) h := am_u_gfR (idx := 15) (wn := 2131) (a := 0) am_my_135 (by decide +kernel) (by decide +kernel) (by decide +kernel) hk
theorem e135_80 {ls : List (Option Value)} {st : List Value} {h : am_H} {l0 l1 l2 l3 : Option Value} {a : Int32} : am_ev 135 80 (l0 :: l1 :: l2 :: l3 :: some (.int a) :: ls) (st) h = am_ev 135 82 (l0 :: l1 :: l2 :: l3 :: some (.int a) :: ls) (.int a :: st) h := am_ev_step (q := (82, l0 :: l1 :: l2 :: l3 :: some (.int a) :: ls, .int a :: st, h)) _ (.iload 4) 2 am_my_135 (by decide +kernel) rfl
theorem e135_82 {ls : List (Option Value)} {st : List Value} {h : am_H} {a : Nat} {i : Int32} : am_ev 135 82 (ls) (.int i :: .ref a :: st) h = am_ev 135 83 (ls) (.int i :: .ref a :: .int i :: .ref a :: st) h := am_ev_step (q := (83, ls, .int i :: .ref a :: .int i :: .ref a :: st, h)) _ (.dup2) 1 am_my_135 (by decide +kernel) rfl
theorem e135_83 {ls : List (Option Value)} {st : List Value} {h : am_H} {i : Int32} {a : Nat} (ht : am_tc h a = some 0) : am_ev 135 83 ls (.int i :: .ref a :: st) h = if am_ix i (am_len h a) = true then am_ev 135 84 ls (.int (h.1 a i.toNatClampNeg) :: st) h else none := am_u_rI am_my_135 (by decide +kernel) ht
theorem e135_84 {ls : List (Option Value)} {st : List Value} {h : am_H} : am_ev 135 84 (ls) (st) h = am_ev 135 85 (ls) (.int (1) :: st) h := am_ev_step (q := (85, ls, .int (1) :: st, h)) _ (.iconst (1)) 1 am_my_135 (by decide +kernel) rfl
theorem e135_85 {ls : List (Option Value)} {st : List Value} {h : am_H} {a b : Int32} : am_ev 135 85 (ls) (.int b :: .int a :: st) h = am_ev 135 86 (ls) (.int (a - b) :: st) h := am_ev_step (q := (86, ls, .int (a - b) :: st, h)) _ (.isub) 1 am_my_135 (by decide +kernel) rfl
theorem e135_86 {ls : List (Option Value)} {st : List Value} {h : am_H} {v i : Int32} {a : Nat} (ht : am_tc h a = some 0) : am_ev 135 86 ls (.int v :: .int i :: .ref a :: st) h = if am_ix i (am_len h a) = true then am_ev 135 87 ls st (am_sI h a i.toNatClampNeg v) else none := am_u_wI am_my_135 (by decide +kernel) ht
theorem e135_87 {ls : List (Option Value)} {st : List Value} {h : am_H} {l0 : Option Value} {a : Nat} : am_ev 135 87 (l0 :: some (.ref a) :: ls) (st) h = am_ev 135 88 (l0 :: some (.ref a) :: ls) (.ref a :: st) h := am_ev_step (q := (88, l0 :: some (.ref a) :: ls, .ref a :: st, h)) _ (.aload_n 1) 1 am_my_135 (by decide +kernel) rfl
theorem e135_88 {ls : List (Option Value)} {st : List Value} {h : am_H} {o : Nat} (hk : am_kd h o = some (.inl 0)) : am_ev 135 88 ls (.ref o :: st) h = am_ev 135 91 ls (va_rf (h.2.2.1 o 6) :: st) h := am_u_gfR (idx := 64) (wn := 1136) (a := 0) am_my_135 (by decide +kernel) (by decide +kernel) (by decide +kernel) hk
theorem e135_91 {ls : List (Option Value)} {st : List Value} {h : am_H} {l0 l1 l2 : Option Value} {a : Int32} : am_ev 135 91 (l0 :: l1 :: l2 :: some (.int a) :: ls) (st) h = am_ev 135 92 (l0 :: l1 :: l2 :: some (.int a) :: ls) (.int a :: st) h := am_ev_step (q := (92, l0 :: l1 :: l2 :: some (.int a) :: ls, .int a :: st, h)) _ (.iload_n 3) 1 am_my_135 (by decide +kernel) rfl
theorem e135_92 {ls : List (Option Value)} {st : List Value} {h : am_H} {i : Int32} {a : Nat} (ht : am_tc h a = some 0) : am_ev 135 92 ls (.int i :: .ref a :: st) h = if am_ix i (am_len h a) = true then am_ev 135 93 ls (.int (h.1 a i.toNatClampNeg) :: st) h else none := am_u_rI am_my_135 (by decide +kernel) ht
theorem e135_93 {ls : List (Option Value)} {st : List Value} {h : am_H} {a : Nat} : am_ev 135 93 (some (.ref a) :: ls) (st) h = am_ev 135 94 (some (.ref a) :: ls) (.ref a :: st) h := am_ev_step (q := (94, some (.ref a) :: ls, .ref a :: st, h)) _ (.aload_n 0) 1 am_my_135 (by decide +kernel) rfl
theorem e135_94 {ls : List (Option Value)} {st : List Value} {h : am_H} {l0 : Option Value} {a : Nat} : am_ev 135 94 (l0 :: some (.ref a) :: ls) (st) h = am_ev 135 95 (l0 :: some (.ref a) :: ls) (.ref a :: st) h := am_ev_step (q := (95, l0 :: some (.ref a) :: ls, .ref a :: st, h)) _ (.aload_n 1) 1 am_my_135 (by decide +kernel) rfl
theorem e135_95 {ls : List (Option Value)} {st : List Value} {h : am_H} {l0 l1 l2 : Option Value} {a : Int32} : am_ev 135 95 (l0 :: l1 :: l2 :: some (.int a) :: ls) (st) h = am_ev 135 96 (l0 :: l1 :: l2 :: some (.int a) :: ls) (.int a :: st) h := am_ev_step (q := (96, l0 :: l1 :: l2 :: some (.int a) :: ls, .int a :: st, h)) _ (.iload_n 3) 1 am_my_135 (by decide +kernel) rfl
theorem e135_96 {ls : List (Option Value)} {st : List Value} {h : am_H} : am_ev 135 96 (ls) (st) h = am_ev 135 97 (ls) (.int (1) :: st) h := am_ev_step (q := (97, ls, .int (1) :: st, h)) _ (.iconst (1)) 1 am_my_135 (by decide +kernel) rfl
theorem e135_97 {ls : List (Option Value)} {st : List Value} {h : am_H} {a b : Int32} : am_ev 135 97 (ls) (.int b :: .int a :: st) h = am_ev 135 98 (ls) (.int (a + b) :: st) h := am_ev_step (q := (98, ls, .int (a + b) :: st, h)) _ (.iadd) 1 am_my_135 (by decide +kernel) rfl
theorem e135_98 {ls : List (Option Value)} {st : List Value} {h : am_H} {p0 : Nat} {p1 : Int32} {o : Nat} (hw : am_w8 st ≤ 8) (hk : am_kd h o = some (.inl 6)) : am_ev 135 98 ls (.int p1 :: .ref p0 :: .ref o :: st) h = am_bd (am_den 130 [.ref o, .ref p0, .int p1] h) (fun v h1 => am_ev 135 101 ls (v.toList ++ st) h1) := am_u_cV (idx := 36) (wn := 4225) (as := [.ref p0, .int p1]) am_my_135 (by decide +kernel) (Or.inl (by decide +kernel)) am_my_130 (by decide +kernel) rfl ⟨Nat.le_of_ble_eq_true rfl, rfl⟩ (by decide +kernel) hw hk
theorem e135_101 {ls : List (Option Value)} {st : List Value} {h : am_H} {a b : Int32} : am_ev 135 101 (ls) (.int b :: .int a :: st) h = am_ev 135 102 (ls) (.int (a + b) :: st) h := am_ev_step (q := (102, ls, .int (a + b) :: st, h)) _ (.iadd) 1 am_my_135 (by decide +kernel) rfl
theorem e135_102 {ls : List (Option Value)} {st : List Value} {h : am_H} {l0 l1 : Option Value} {a : Int32} : am_ev 135 102 (l0 :: l1 :: some (.int a) :: ls) (st) h = am_ev 135 103 (l0 :: l1 :: some (.int a) :: ls) (.int a :: st) h := am_ev_step (q := (103, l0 :: l1 :: some (.int a) :: ls, .int a :: st, h)) _ (.iload_n 2) 1 am_my_135 (by decide +kernel) rfl
theorem e135_103 {ls : List (Option Value)} {st : List Value} {h : am_H} {a b : Int32} : am_ev 135 103 ls (.int b :: .int a :: st) h = if ¬ a = b then am_ev 135 126 ls st h else am_ev 135 106 ls st h := am_u_if2 (c := .ne) (off := 23) am_my_135 (by decide +kernel) (by decide)
theorem e135_106 {ls : List (Option Value)} {st : List Value} {h : am_H} {a : Nat} : am_ev 135 106 (some (.ref a) :: ls) (st) h = am_ev 135 107 (some (.ref a) :: ls) (.ref a :: st) h := am_ev_step (q := (107, some (.ref a) :: ls, .ref a :: st, h)) _ (.aload_n 0) 1 am_my_135 (by decide +kernel) rfl
theorem e135_107 {ls : List (Option Value)} {st : List Value} {h : am_H} {o : Nat} (hk : am_kd h o = some (.inl 6)) : am_ev 135 107 ls (.ref o :: st) h = am_ev 135 110 ls (va_rf (h.2.2.1 o 0) :: st) h := am_u_gfR (idx := 9) (wn := 2129) (a := 0) am_my_135 (by decide +kernel) (by decide +kernel) (by decide +kernel) hk
theorem e135_110 {ls : List (Option Value)} {st : List Value} {h : am_H} {l0 l1 l2 : Option Value} {a : Int32} : am_ev 135 110 (l0 :: l1 :: l2 :: some (.int a) :: ls) (st) h = am_ev 135 111 (l0 :: l1 :: l2 :: some (.int a) :: ls) (.int a :: st) h := am_ev_step (q := (111, l0 :: l1 :: l2 :: some (.int a) :: ls, .int a :: st, h)) _ (.iload_n 3) 1 am_my_135 (by decide +kernel) rfl
theorem e135_111 {ls : List (Option Value)} {st : List Value} {h : am_H} {l0 l1 l2 l3 : Option Value} {a : Int32} : am_ev 135 111 (l0 :: l1 :: l2 :: l3 :: some (.int a) :: ls) (st) h = am_ev 135 113 (l0 :: l1 :: l2 :: l3 :: some (.int a) :: ls) (.int a :: st) h := am_ev_step (q := (113, l0 :: l1 :: l2 :: l3 :: some (.int a) :: ls, .int a :: st, h)) _ (.iload 4) 2 am_my_135 (by decide +kernel) rfl
theorem e135_113 {ls : List (Option Value)} {st : List Value} {h : am_H} {v i : Int32} {a : Nat} (ht : am_tc h a = some 0) : am_ev 135 113 ls (.int v :: .int i :: .ref a :: st) h = if am_ix i (am_len h a) = true then am_ev 135 114 ls st (am_sI h a i.toNatClampNeg v) else none := am_u_wI am_my_135 (by decide +kernel) ht
theorem e135_114 {ls : List (Option Value)} {st : List Value} {h : am_H} {l0 l1 : Option Value} {a : Int32} : am_ev 135 114 (l0 :: l1 :: some (.int a) :: ls) (st) h = am_ev 135 115 (l0 :: l1 :: some (.int a) :: ls) (.int a :: st) h := am_ev_step (q := (115, l0 :: l1 :: some (.int a) :: ls, .int a :: st, h)) _ (.iload_n 2) 1 am_my_135 (by decide +kernel) rfl
theorem e135_115 {ls : List (Option Value)} {st : List Value} {h : am_H} {l0 : Option Value} {a : Nat} : am_ev 135 115 (l0 :: some (.ref a) :: ls) (st) h = am_ev 135 116 (l0 :: some (.ref a) :: ls) (.ref a :: st) h := am_ev_step (q := (116, l0 :: some (.ref a) :: ls, .ref a :: st, h)) _ (.aload_n 1) 1 am_my_135 (by decide +kernel) rfl
theorem e135_116 {ls : List (Option Value)} {st : List Value} {h : am_H} {o : Nat} (hk : am_kd h o = some (.inl 0)) : am_ev 135 116 ls (.ref o :: st) h = am_ev 135 119 ls (va_rf (h.2.2.1 o 6) :: st) h := am_u_gfR (idx := 64) (wn := 1136) (a := 0) am_my_135 (by decide +kernel) (by decide +kernel) (by decide +kernel) hk
theorem e135_119 {ls : List (Option Value)} {st : List Value} {h : am_H} {l0 l1 l2 : Option Value} {a : Int32} : am_ev 135 119 (l0 :: l1 :: l2 :: some (.int a) :: ls) (st) h = am_ev 135 120 (l0 :: l1 :: l2 :: some (.int a) :: ls) (.int a :: st) h := am_ev_step (q := (120, l0 :: l1 :: l2 :: some (.int a) :: ls, .int a :: st, h)) _ (.iload_n 3) 1 am_my_135 (by decide +kernel) rfl
theorem e135_120 {ls : List (Option Value)} {st : List Value} {h : am_H} {i : Int32} {a : Nat} (ht : am_tc h a = some 0) : am_ev 135 120 ls (.int i :: .ref a :: st) h = if am_ix i (am_len h a) = true then am_ev 135 121 ls (.int (h.1 a i.toNatClampNeg) :: st) h else none := am_u_rI am_my_135 (by decide +kernel) ht
theorem e135_121 {ls : List (Option Value)} {st : List Value} {h : am_H} {a b : Int32} : am_ev 135 121 (ls) (.int b :: .int a :: st) h = am_ev 135 122 (ls) (.int (a - b) :: st) h := am_ev_step (q := (122, ls, .int (a - b) :: st, h)) _ (.isub) 1 am_my_135 (by decide +kernel) rfl
theorem e135_122 {ls : List (Option Value)} {st : List Value} {h : am_H} {l0 l1 : Option Value} {z : Option Value} {a : Int32} : am_ev 135 122 (l0 :: l1 :: z :: ls) (.int a :: st) h = am_ev 135 123 (l0 :: l1 :: some (.int a) :: ls) (st) h := am_ev_step (q := (123, l0 :: l1 :: some (.int a) :: ls, st, h)) _ (.istore_n 2) 1 am_my_135 (by decide +kernel) rfl
theorem e135_123 {ls : List (Option Value)} {st : List Value} {h : am_H} : am_ev 135 123 (ls) (st) h = am_ev 135 137 (ls) (st) h := am_ev_step (q := (137, ls, st, h)) _ (.goto (14)) 3 am_my_135 (by decide +kernel) rfl
theorem e135_126 {ls : List (Option Value)} {st : List Value} {h : am_H} {a : Nat} : am_ev 135 126 (some (.ref a) :: ls) (st) h = am_ev 135 127 (some (.ref a) :: ls) (.ref a :: st) h := am_ev_step (q := (127, some (.ref a) :: ls, .ref a :: st, h)) _ (.aload_n 0) 1 am_my_135 (by decide +kernel) rfl
theorem e135_127 {ls : List (Option Value)} {st : List Value} {h : am_H} {o : Nat} (hk : am_kd h o = some (.inl 6)) : am_ev 135 127 ls (.ref o :: st) h = am_ev 135 130 ls (va_rf (h.2.2.1 o 1) :: st) h := am_u_gfR (idx := 15) (wn := 2131) (a := 0) am_my_135 (by decide +kernel) (by decide +kernel) (by decide +kernel) hk
theorem e135_130 {ls : List (Option Value)} {st : List Value} {h : am_H} {l0 l1 l2 l3 : Option Value} {a : Int32} : am_ev 135 130 (l0 :: l1 :: l2 :: l3 :: some (.int a) :: ls) (st) h = am_ev 135 132 (l0 :: l1 :: l2 :: l3 :: some (.int a) :: ls) (.int a :: st) h := am_ev_step (q := (132, l0 :: l1 :: l2 :: l3 :: some (.int a) :: ls, .int a :: st, h)) _ (.iload 4) 2 am_my_135 (by decide +kernel) rfl
theorem e135_132 {ls : List (Option Value)} {st : List Value} {h : am_H} {a : Nat} {i : Int32} : am_ev 135 132 (ls) (.int i :: .ref a :: st) h = am_ev 135 133 (ls) (.int i :: .ref a :: .int i :: .ref a :: st) h := am_ev_step (q := (133, ls, .int i :: .ref a :: .int i :: .ref a :: st, h)) _ (.dup2) 1 am_my_135 (by decide +kernel) rfl
theorem e135_133 {ls : List (Option Value)} {st : List Value} {h : am_H} {i : Int32} {a : Nat} (ht : am_tc h a = some 0) : am_ev 135 133 ls (.int i :: .ref a :: st) h = if am_ix i (am_len h a) = true then am_ev 135 134 ls (.int (h.1 a i.toNatClampNeg) :: st) h else none := am_u_rI am_my_135 (by decide +kernel) ht
theorem e135_134 {ls : List (Option Value)} {st : List Value} {h : am_H} : am_ev 135 134 (ls) (st) h = am_ev 135 135 (ls) (.int (1) :: st) h := am_ev_step (q := (135, ls, .int (1) :: st, h)) _ (.iconst (1)) 1 am_my_135 (by decide +kernel) rfl
theorem e135_135 {ls : List (Option Value)} {st : List Value} {h : am_H} {a b : Int32} : am_ev 135 135 (ls) (.int b :: .int a :: st) h = am_ev 135 136 (ls) (.int (a + b) :: st) h := am_ev_step (q := (136, ls, .int (a + b) :: st, h)) _ (.iadd) 1 am_my_135 (by decide +kernel) rfl
theorem e135_136 {ls : List (Option Value)} {st : List Value} {h : am_H} {v i : Int32} {a : Nat} (ht : am_tc h a = some 0) : am_ev 135 136 ls (.int v :: .int i :: .ref a :: st) h = if am_ix i (am_len h a) = true then am_ev 135 137 ls st (am_sI h a i.toNatClampNeg v) else none := am_u_wI am_my_135 (by decide +kernel) ht
theorem e135_137 {ls : List (Option Value)} {st : List Value} {h : am_H} {l0 l1 l2 l3 : Option Value} {a : Int32} : am_ev 135 137 (l0 :: l1 :: l2 :: l3 :: some (.int a) :: ls) (st) h = am_ev 135 140 (l0 :: l1 :: l2 :: l3 :: some (.int (a + (1))) :: ls) (st) h := am_ev_step (q := (140, l0 :: l1 :: l2 :: l3 :: some (.int (a + (1))) :: ls, st, h)) _ (.iinc 4 (1)) 3 am_my_135 (by decide +kernel) rfl
theorem e135_140 {ls : List (Option Value)} {st : List Value} {h : am_H} : am_ev 135 140 (ls) (st) h = am_ev 135 27 (ls) (st) h := am_ev_step (q := (27, ls, st, h)) _ (.goto (-113)) 3 am_my_135 (by decide +kernel) rfl
theorem e135_143 {ls : List (Option Value)} {st : List Value} {h : am_H} {l0 l1 l2 : Option Value} {a : Int32} : am_ev 135 143 (l0 :: l1 :: l2 :: some (.int a) :: ls) (st) h = am_ev 135 146 (l0 :: l1 :: l2 :: some (.int (a + (1))) :: ls) (st) h := am_ev_step (q := (146, l0 :: l1 :: l2 :: some (.int (a + (1))) :: ls, st, h)) _ (.iinc 3 (1)) 3 am_my_135 (by decide +kernel) rfl
theorem e135_146 {ls : List (Option Value)} {st : List Value} {h : am_H} : am_ev 135 146 (ls) (st) h = am_ev 135 9 (ls) (st) h := am_ev_step (q := (9, ls, st, h)) _ (.goto (-137)) 3 am_my_135 (by decide +kernel) rfl
theorem e135_149 {ls : List (Option Value)} {h : am_H} : am_ev 135 149 ls [] h = some (none, h) := am_u_rtV am_my_135 (by decide +kernel) rfl
theorem e134_0 {ls : List (Option Value)} {st : List Value} {h : am_H} {a : Int32} : am_ev 134 0 (some (.int a) :: ls) (st) h = am_ev 134 1 (some (.int a) :: ls) (.int a :: st) h := am_ev_step (q := (1, some (.int a) :: ls, .int a :: st, h)) _ (.iload_n 0) 1 am_my_134 (by decide +kernel) rfl
theorem e134_1 {ls : List (Option Value)} {st : List Value} {h : am_H} {a : Int32} : am_ev 134 1 (some (.int a) :: ls) (st) h = am_ev 134 2 (some (.int a) :: ls) (.int a :: st) h := am_ev_step (q := (2, some (.int a) :: ls, .int a :: st, h)) _ (.iload_n 0) 1 am_my_134 (by decide +kernel) rfl
theorem e134_2 {ls : List (Option Value)} {st : List Value} {h : am_H} : am_ev 134 2 (ls) (st) h = am_ev 134 3 (ls) (.int (1) :: st) h := am_ev_step (q := (3, ls, .int (1) :: st, h)) _ (.iconst (1)) 1 am_my_134 (by decide +kernel) rfl
theorem e134_3 {ls : List (Option Value)} {st : List Value} {h : am_H} {a b : Int32} : am_ev 134 3 (ls) (.int b :: .int a :: st) h = am_ev 134 4 (ls) (.int ((a.toUInt32 >>> (b.toUInt32 &&& Int32.toUInt32 31)).toInt32) :: st) h := am_ev_step (q := (4, ls, .int ((a.toUInt32 >>> (b.toUInt32 &&& Int32.toUInt32 31)).toInt32) :: st, h)) _ (.iushr) 1 am_my_134 (by decide +kernel) rfl
theorem e134_4 {ls : List (Option Value)} {st : List Value} {h : am_H} : am_ev 134 4 ls st h = am_ev 134 7 ls (.int (1431655765) :: st) h := am_u_ldc_w (idx := 265) am_my_134 (by decide +kernel) (by decide +kernel)
theorem e134_7 {ls : List (Option Value)} {st : List Value} {h : am_H} {a b : Int32} : am_ev 134 7 (ls) (.int b :: .int a :: st) h = am_ev 134 8 (ls) (.int (a &&& b) :: st) h := am_ev_step (q := (8, ls, .int (a &&& b) :: st, h)) _ (.iand) 1 am_my_134 (by decide +kernel) rfl
theorem e134_8 {ls : List (Option Value)} {st : List Value} {h : am_H} {a b : Int32} : am_ev 134 8 (ls) (.int b :: .int a :: st) h = am_ev 134 9 (ls) (.int (a - b) :: st) h := am_ev_step (q := (9, ls, .int (a - b) :: st, h)) _ (.isub) 1 am_my_134 (by decide +kernel) rfl
theorem e134_9 {ls : List (Option Value)} {st : List Value} {h : am_H} {z : Option Value} {a : Int32} : am_ev 134 9 (z :: ls) (.int a :: st) h = am_ev 134 10 (some (.int a) :: ls) (st) h := am_ev_step (q := (10, some (.int a) :: ls, st, h)) _ (.istore_n 0) 1 am_my_134 (by decide +kernel) rfl
theorem e134_10 {ls : List (Option Value)} {st : List Value} {h : am_H} {a : Int32} : am_ev 134 10 (some (.int a) :: ls) (st) h = am_ev 134 11 (some (.int a) :: ls) (.int a :: st) h := am_ev_step (q := (11, some (.int a) :: ls, .int a :: st, h)) _ (.iload_n 0) 1 am_my_134 (by decide +kernel) rfl
theorem e134_11 {ls : List (Option Value)} {st : List Value} {h : am_H} : am_ev 134 11 ls st h = am_ev 134 14 ls (.int (858993459) :: st) h := am_u_ldc_w (idx := 266) am_my_134 (by decide +kernel) (by decide +kernel)
theorem e134_14 {ls : List (Option Value)} {st : List Value} {h : am_H} {a b : Int32} : am_ev 134 14 (ls) (.int b :: .int a :: st) h = am_ev 134 15 (ls) (.int (a &&& b) :: st) h := am_ev_step (q := (15, ls, .int (a &&& b) :: st, h)) _ (.iand) 1 am_my_134 (by decide +kernel) rfl
theorem e134_15 {ls : List (Option Value)} {st : List Value} {h : am_H} {a : Int32} : am_ev 134 15 (some (.int a) :: ls) (st) h = am_ev 134 16 (some (.int a) :: ls) (.int a :: st) h := am_ev_step (q := (16, some (.int a) :: ls, .int a :: st, h)) _ (.iload_n 0) 1 am_my_134 (by decide +kernel) rfl
theorem e134_16 {ls : List (Option Value)} {st : List Value} {h : am_H} : am_ev 134 16 (ls) (st) h = am_ev 134 17 (ls) (.int (2) :: st) h := am_ev_step (q := (17, ls, .int (2) :: st, h)) _ (.iconst (2)) 1 am_my_134 (by decide +kernel) rfl
theorem e134_17 {ls : List (Option Value)} {st : List Value} {h : am_H} {a b : Int32} : am_ev 134 17 (ls) (.int b :: .int a :: st) h = am_ev 134 18 (ls) (.int ((a.toUInt32 >>> (b.toUInt32 &&& Int32.toUInt32 31)).toInt32) :: st) h := am_ev_step (q := (18, ls, .int ((a.toUInt32 >>> (b.toUInt32 &&& Int32.toUInt32 31)).toInt32) :: st, h)) _ (.iushr) 1 am_my_134 (by decide +kernel) rfl
theorem e134_18 {ls : List (Option Value)} {st : List Value} {h : am_H} : am_ev 134 18 ls st h = am_ev 134 21 ls (.int (858993459) :: st) h := am_u_ldc_w (idx := 266) am_my_134 (by decide +kernel) (by decide +kernel)
theorem e134_21 {ls : List (Option Value)} {st : List Value} {h : am_H} {a b : Int32} : am_ev 134 21 (ls) (.int b :: .int a :: st) h = am_ev 134 22 (ls) (.int (a &&& b) :: st) h := am_ev_step (q := (22, ls, .int (a &&& b) :: st, h)) _ (.iand) 1 am_my_134 (by decide +kernel) rfl
theorem e134_22 {ls : List (Option Value)} {st : List Value} {h : am_H} {a b : Int32} : am_ev 134 22 (ls) (.int b :: .int a :: st) h = am_ev 134 23 (ls) (.int (a + b) :: st) h := am_ev_step (q := (23, ls, .int (a + b) :: st, h)) _ (.iadd) 1 am_my_134 (by decide +kernel) rfl
theorem e134_23 {ls : List (Option Value)} {st : List Value} {h : am_H} {z : Option Value} {a : Int32} : am_ev 134 23 (z :: ls) (.int a :: st) h = am_ev 134 24 (some (.int a) :: ls) (st) h := am_ev_step (q := (24, some (.int a) :: ls, st, h)) _ (.istore_n 0) 1 am_my_134 (by decide +kernel) rfl
theorem e134_24 {ls : List (Option Value)} {st : List Value} {h : am_H} {a : Int32} : am_ev 134 24 (some (.int a) :: ls) (st) h = am_ev 134 25 (some (.int a) :: ls) (.int a :: st) h := am_ev_step (q := (25, some (.int a) :: ls, .int a :: st, h)) _ (.iload_n 0) 1 am_my_134 (by decide +kernel) rfl
theorem e134_25 {ls : List (Option Value)} {st : List Value} {h : am_H} {a : Int32} : am_ev 134 25 (some (.int a) :: ls) (st) h = am_ev 134 26 (some (.int a) :: ls) (.int a :: st) h := am_ev_step (q := (26, some (.int a) :: ls, .int a :: st, h)) _ (.iload_n 0) 1 am_my_134 (by decide +kernel) rfl
theorem e134_26 {ls : List (Option Value)} {st : List Value} {h : am_H} : am_ev 134 26 (ls) (st) h = am_ev 134 27 (ls) (.int (4) :: st) h := am_ev_step (q := (27, ls, .int (4) :: st, h)) _ (.iconst (4)) 1 am_my_134 (by decide +kernel) rfl
theorem e134_27 {ls : List (Option Value)} {st : List Value} {h : am_H} {a b : Int32} : am_ev 134 27 (ls) (.int b :: .int a :: st) h = am_ev 134 28 (ls) (.int ((a.toUInt32 >>> (b.toUInt32 &&& Int32.toUInt32 31)).toInt32) :: st) h := am_ev_step (q := (28, ls, .int ((a.toUInt32 >>> (b.toUInt32 &&& Int32.toUInt32 31)).toInt32) :: st, h)) _ (.iushr) 1 am_my_134 (by decide +kernel) rfl
theorem e134_28 {ls : List (Option Value)} {st : List Value} {h : am_H} {a b : Int32} : am_ev 134 28 (ls) (.int b :: .int a :: st) h = am_ev 134 29 (ls) (.int (a + b) :: st) h := am_ev_step (q := (29, ls, .int (a + b) :: st, h)) _ (.iadd) 1 am_my_134 (by decide +kernel) rfl
theorem e134_29 {ls : List (Option Value)} {st : List Value} {h : am_H} : am_ev 134 29 ls st h = am_ev 134 32 ls (.int (252645135) :: st) h := am_u_ldc_w (idx := 267) am_my_134 (by decide +kernel) (by decide +kernel)
theorem e134_32 {ls : List (Option Value)} {st : List Value} {h : am_H} {a b : Int32} : am_ev 134 32 (ls) (.int b :: .int a :: st) h = am_ev 134 33 (ls) (.int (a &&& b) :: st) h := am_ev_step (q := (33, ls, .int (a &&& b) :: st, h)) _ (.iand) 1 am_my_134 (by decide +kernel) rfl
theorem e134_33 {ls : List (Option Value)} {st : List Value} {h : am_H} {z : Option Value} {a : Int32} : am_ev 134 33 (z :: ls) (.int a :: st) h = am_ev 134 34 (some (.int a) :: ls) (st) h := am_ev_step (q := (34, some (.int a) :: ls, st, h)) _ (.istore_n 0) 1 am_my_134 (by decide +kernel) rfl
theorem e134_34 {ls : List (Option Value)} {st : List Value} {h : am_H} {a : Int32} : am_ev 134 34 (some (.int a) :: ls) (st) h = am_ev 134 35 (some (.int a) :: ls) (.int a :: st) h := am_ev_step (q := (35, some (.int a) :: ls, .int a :: st, h)) _ (.iload_n 0) 1 am_my_134 (by decide +kernel) rfl
theorem e134_35 {ls : List (Option Value)} {st : List Value} {h : am_H} {a : Int32} : am_ev 134 35 (some (.int a) :: ls) (st) h = am_ev 134 36 (some (.int a) :: ls) (.int a :: st) h := am_ev_step (q := (36, some (.int a) :: ls, .int a :: st, h)) _ (.iload_n 0) 1 am_my_134 (by decide +kernel) rfl
theorem e134_36 {ls : List (Option Value)} {st : List Value} {h : am_H} : am_ev 134 36 (ls) (st) h = am_ev 134 38 (ls) (.int (8) :: st) h := am_ev_step (q := (38, ls, .int (8) :: st, h)) _ (.bipush (8)) 2 am_my_134 (by decide +kernel) rfl
theorem e134_38 {ls : List (Option Value)} {st : List Value} {h : am_H} {a b : Int32} : am_ev 134 38 (ls) (.int b :: .int a :: st) h = am_ev 134 39 (ls) (.int ((a.toUInt32 >>> (b.toUInt32 &&& Int32.toUInt32 31)).toInt32) :: st) h := am_ev_step (q := (39, ls, .int ((a.toUInt32 >>> (b.toUInt32 &&& Int32.toUInt32 31)).toInt32) :: st, h)) _ (.iushr) 1 am_my_134 (by decide +kernel) rfl
theorem e134_39 {ls : List (Option Value)} {st : List Value} {h : am_H} {a b : Int32} : am_ev 134 39 (ls) (.int b :: .int a :: st) h = am_ev 134 40 (ls) (.int (a + b) :: st) h := am_ev_step (q := (40, ls, .int (a + b) :: st, h)) _ (.iadd) 1 am_my_134 (by decide +kernel) rfl
theorem e134_40 {ls : List (Option Value)} {st : List Value} {h : am_H} {z : Option Value} {a : Int32} : am_ev 134 40 (z :: ls) (.int a :: st) h = am_ev 134 41 (some (.int a) :: ls) (st) h := am_ev_step (q := (41, some (.int a) :: ls, st, h)) _ (.istore_n 0) 1 am_my_134 (by decide +kernel) rfl
theorem e134_41 {ls : List (Option Value)} {st : List Value} {h : am_H} {a : Int32} : am_ev 134 41 (some (.int a) :: ls) (st) h = am_ev 134 42 (some (.int a) :: ls) (.int a :: st) h := am_ev_step (q := (42, some (.int a) :: ls, .int a :: st, h)) _ (.iload_n 0) 1 am_my_134 (by decide +kernel) rfl
theorem e134_42 {ls : List (Option Value)} {st : List Value} {h : am_H} {a : Int32} : am_ev 134 42 (some (.int a) :: ls) (st) h = am_ev 134 43 (some (.int a) :: ls) (.int a :: st) h := am_ev_step (q := (43, some (.int a) :: ls, .int a :: st, h)) _ (.iload_n 0) 1 am_my_134 (by decide +kernel) rfl
theorem e134_43 {ls : List (Option Value)} {st : List Value} {h : am_H} : am_ev 134 43 (ls) (st) h = am_ev 134 45 (ls) (.int (16) :: st) h := am_ev_step (q := (45, ls, .int (16) :: st, h)) _ (.bipush (16)) 2 am_my_134 (by decide +kernel) rfl
theorem e134_45 {ls : List (Option Value)} {st : List Value} {h : am_H} {a b : Int32} : am_ev 134 45 (ls) (.int b :: .int a :: st) h = am_ev 134 46 (ls) (.int ((a.toUInt32 >>> (b.toUInt32 &&& Int32.toUInt32 31)).toInt32) :: st) h := am_ev_step (q := (46, ls, .int ((a.toUInt32 >>> (b.toUInt32 &&& Int32.toUInt32 31)).toInt32) :: st, h)) _ (.iushr) 1 am_my_134 (by decide +kernel) rfl
theorem e134_46 {ls : List (Option Value)} {st : List Value} {h : am_H} {a b : Int32} : am_ev 134 46 (ls) (.int b :: .int a :: st) h = am_ev 134 47 (ls) (.int (a + b) :: st) h := am_ev_step (q := (47, ls, .int (a + b) :: st, h)) _ (.iadd) 1 am_my_134 (by decide +kernel) rfl
theorem e134_47 {ls : List (Option Value)} {st : List Value} {h : am_H} {z : Option Value} {a : Int32} : am_ev 134 47 (z :: ls) (.int a :: st) h = am_ev 134 48 (some (.int a) :: ls) (st) h := am_ev_step (q := (48, some (.int a) :: ls, st, h)) _ (.istore_n 0) 1 am_my_134 (by decide +kernel) rfl
theorem e134_48 {ls : List (Option Value)} {st : List Value} {h : am_H} {a : Int32} : am_ev 134 48 (some (.int a) :: ls) (st) h = am_ev 134 49 (some (.int a) :: ls) (.int a :: st) h := am_ev_step (q := (49, some (.int a) :: ls, .int a :: st, h)) _ (.iload_n 0) 1 am_my_134 (by decide +kernel) rfl
theorem e134_49 {ls : List (Option Value)} {st : List Value} {h : am_H} : am_ev 134 49 (ls) (st) h = am_ev 134 51 (ls) (.int (63) :: st) h := am_ev_step (q := (51, ls, .int (63) :: st, h)) _ (.bipush (63)) 2 am_my_134 (by decide +kernel) rfl
theorem e134_51 {ls : List (Option Value)} {st : List Value} {h : am_H} {a b : Int32} : am_ev 134 51 (ls) (.int b :: .int a :: st) h = am_ev 134 52 (ls) (.int (a &&& b) :: st) h := am_ev_step (q := (52, ls, .int (a &&& b) :: st, h)) _ (.iand) 1 am_my_134 (by decide +kernel) rfl
theorem e134_52 {ls : List (Option Value)} {h : am_H} {v : Int32} : am_ev 134 52 ls [.int v] h = some (some (.int v), h) := am_u_rtI am_my_134 (by decide +kernel) rfl
def q_mxd (g : Nat → Nat) : Nat → Nat → Nat → Nat
  | 0, _, a => a
  | r + 1, i, a => q_mxd g r (i + 1) (max a (g i))
theorem q_mxd_ge (g : Nat → Nat) : ∀ r i a, a ≤ q_mxd g r i a := by
  intro r
  induction r with
  | zero => intro i a; exact Nat.le_refl _
  | succ r ih => intro i a; exact Nat.le_trans (Nat.le_max_left _ _) (ih (i + 1) _)
theorem q_mxd_mem (g : Nat → Nat) : ∀ r i a d, i ≤ d → d < i + r → g d ≤ q_mxd g r i a := by
  intro r
  induction r with
  | zero => intro i a d h1 h2; omega
  | succ r ih =>
    intro i a d h1 h2
    by_cases c : d = i
    · rw [c]; exact Nat.le_trans (Nat.le_max_right _ _) (q_mxd_ge g r (i + 1) _)
    · exact ih (i + 1) _ d (by omega) (by omega)
theorem q_mxd_cases (g : Nat → Nat) : ∀ r i a, q_mxd g r i a = a ∨ ∃ d, i ≤ d ∧ d < i + r ∧ q_mxd g r i a = g d := by
  intro r
  induction r with
  | zero => intro i a; exact Or.inl rfl
  | succ r ih =>
    intro i a
    show q_mxd g r (i + 1) (max a (g i)) = a ∨ ∃ d, i ≤ d ∧ d < i + (r + 1) ∧ q_mxd g r (i + 1) (max a (g i)) = g d
    rcases ih (i + 1) (max a (g i)) with h | ⟨d, h1, h2, h3⟩
    · rw [h]
      by_cases c : g i ≤ a
      · exact Or.inl (Nat.max_eq_left c)
      · exact Or.inr ⟨i, Nat.le_refl _, by omega, Nat.max_eq_right (by omega)⟩
    · exact Or.inr ⟨d, by omega, by omega, h3⟩
theorem q_mxd_cg {g g' : Nat → Nat} : ∀ r i a, (∀ d, i ≤ d → d < i + r → g d = g' d) → q_mxd g r i a = q_mxd g' r i a := by
  intro r
  induction r with
  | zero => intro i a _; rfl
  | succ r ih =>
    intro i a h
    show q_mxd g r (i + 1) (max a (g i)) = q_mxd g' r (i + 1) (max a (g' i))
    rw [h i (Nat.le_refl _) (by omega)]
    exact ih (i + 1) _ (fun d h1 h2 => h d (by omega) (by omega))
def B_dec (t : Nat → Nat) (d : Nat) : Nat → Nat := q_up t d (t d - 1)
def B_mayB (k : q_Bk) (t : Nat → Nat) (b d : Nat) : Bool := decide (d < B_d k) && (decide (1 ≤ t d) && decide (B_need k b ≤ B_eye k d))
theorem B_mayB_iff {k : q_Bk} {t : Nat → Nat} {b d : Nat} : B_mayB k t b d = true ↔ d < B_d k ∧ 1 ≤ t d ∧ B_need k b ≤ B_eye k d := by
  unfold B_mayB
  rw [Bool.and_eq_true, Bool.and_eq_true, decide_eq_true_eq, decide_eq_true_eq, decide_eq_true_eq]
/-- the most worth of r bargains from b on, by turns that are left -/
def B_V (k : q_Bk) : Nat → Nat → (Nat → Nat) → Nat
  | 0, _, _ => 0
  | r + 1, b, t => q_mxd (fun d => if B_mayB k t b d = true then B_worth k b + B_V k r (b + 1) (B_dec t d) else 0) 5 0 (B_V k r (b + 1) t)
theorem B_mayB_cg {k : q_Bk} {t t' : Nat → Nat} (h : ∀ d, d < B_d k → t d = t' d) (b d : Nat) : B_mayB k t b d = B_mayB k t' b d := by
  unfold B_mayB
  by_cases c : d < B_d k
  · rw [h d c]
  · rw [decide_eq_false c]
    rfl
theorem B_dec_cg {k : q_Bk} {t t' : Nat → Nat} (h : ∀ d, d < B_d k → t d = t' d) {e : Nat} (he : e < B_d k) : ∀ d, d < B_d k → B_dec t e d = B_dec t' e d := fun d hd => by
  unfold B_dec q_up
  rw [h e he, h d hd]
theorem B_V_cg (k : q_Bk) : ∀ r b t t', (∀ d, d < B_d k → t d = t' d) → B_V k r b t = B_V k r b t' := by
  intro r
  induction r with
  | zero => intro b t t' _; rfl
  | succ r ih =>
    intro b t t' h
    show q_mxd (fun d => if B_mayB k t b d = true then B_worth k b + B_V k r (b + 1) (B_dec t d) else 0) 5 0 (B_V k r (b + 1) t) = q_mxd (fun d => if B_mayB k t' b d = true then B_worth k b + B_V k r (b + 1) (B_dec t' d) else 0) 5 0 (B_V k r (b + 1) t')
    rw [ih (b + 1) t t' h]
    refine q_mxd_cg 5 0 _ (fun d _ _ => ?_)
    show (if B_mayB k t b d = true then _ else 0) = (if B_mayB k t' b d = true then _ else 0)
    rw [B_mayB_cg h b d]
    by_cases c : B_mayB k t' b d = true
    · rw [if_pos c, if_pos c, ih (b + 1) _ _ (B_dec_cg h (B_mayB_iff.mp c).1)]
    · rw [if_neg c, if_neg c]
def q_su (g : Nat → Nat) : Nat → Nat → Nat
  | 0, _ => 0
  | r + 1, i => g i + q_su g r (i + 1)
theorem q_su_cg {g g' : Nat → Nat} : ∀ r i, (∀ d, i ≤ d → d < i + r → g d = g' d) → q_su g r i = q_su g' r i := by
  intro r
  induction r with
  | zero => intro i _; rfl
  | succ r ih =>
    intro i h
    rw [q_su, q_su, h i (Nat.le_refl _) (by omega), ih (i + 1) (fun d h1 h2 => h d (by omega) (by omega))]
theorem q_su_mono {g g' : Nat → Nat} : ∀ r i, (∀ d, i ≤ d → d < i + r → g d ≤ g' d) → q_su g r i ≤ q_su g' r i := by
  intro r
  induction r with
  | zero => intro i _; exact Nat.le_refl _
  | succ r ih =>
    intro i h
    have h1 := h i (Nat.le_refl _) (by omega)
    have h2 := ih (i + 1) (fun d h1 h2 => h d (by omega) (by omega))
    rw [q_su, q_su]
    omega
theorem q_su_pos {g : Nat → Nat} : ∀ r i, 1 ≤ q_su g r i → ∃ d, i ≤ d ∧ d < i + r ∧ 1 ≤ g d := by
  intro r
  induction r with
  | zero => intro i h; rw [q_su] at h; omega
  | succ r ih =>
    intro i h
    rw [q_su] at h
    by_cases c : 1 ≤ g i
    · exact ⟨i, Nat.le_refl _, by omega, c⟩
    · obtain ⟨d, h1, h2, h3⟩ := ih (i + 1) (by omega)
      exact ⟨d, by omega, by omega, h3⟩
theorem q_su_le {g : Nat → Nat} (m : Nat) : ∀ r i, (∀ d, i ≤ d → d < i + r → g d ≤ m) → q_su g r i ≤ m * r := by
  intro r
  induction r with
  | zero => intro i _; exact Nat.zero_le _
  | succ r ih =>
    intro i h
    have h1 := h i (Nat.le_refl _) (by omega)
    have h2 := ih (i + 1) (fun d h1 h2 => h d (by omega) (by omega))
    rw [q_su, Nat.mul_succ]
    omega
theorem q_su_up {g : Nat → Nat} {v e : Nat} : ∀ r i, i ≤ e → e < i + r → q_su (q_up g e v) r i + g e = q_su g r i + v := by
  intro r
  induction r with
  | zero => intro i h1 h2; omega
  | succ r ih =>
    intro i h1 h2
    rw [q_su, q_su]
    by_cases c : e = i
    · subst c
      have e1 : q_up g e v e = v := if_pos rfl
      have e2 : q_su (q_up g e v) r (e + 1) = q_su g r (e + 1) := q_su_cg r (e + 1) (fun d h1 h2 => if_neg (by omega))
      rw [e1, e2]
      omega
    · have := ih (i + 1) (by omega) (by omega)
      have e1 : q_up g e v i = g i := if_neg (fun w => c w.symm)
      rw [e1]
      omega
theorem q_su_add (g : Nat → Nat) : ∀ r s i, q_su g (r + s) i = q_su g r i + q_su g s (i + r) := by
  intro r
  induction r with
  | zero => intro s i; rw [Nat.zero_add, q_su, Nat.zero_add, Nat.add_zero]
  | succ r ih =>
    intro s i
    rw [show r + 1 + s = (r + s) + 1 by omega, q_su, q_su, ih s (i + 1), show i + 1 + r = i + (r + 1) by omega]
    omega
/-- how many of a set need so good an eye, or a better one; how many turns there are by such eyes; a set's worth -/
def B_cn (k : q_Bk) (S : Nat → Bool) (q r b : Nat) : Nat := q_su (fun x => if (S x && decide (q ≤ B_need k x)) = true then 1 else 0) r b
def B_R (k : q_Bk) (t : Nat → Nat) (q : Nat) : Nat := q_su (fun d => if q ≤ B_eye k d then t d else 0) (B_d k) 0
def B_wo (k : q_Bk) (S : Nat → Bool) (r b : Nat) : Nat := q_su (fun x => if S x = true then B_worth k x else 0) r b
def B_hl (k : q_Bk) (S : Nat → Bool) (r b : Nat) (t : Nat → Nat) : Prop := ∀ q, B_cn k S q r b ≤ B_R k t q
theorem B_R_dec {k : q_Bk} {t : Nat → Nat} {d : Nat} (hd : d < B_d k) (ht : 1 ≤ t d) (q : Nat) : B_R k t q = B_R k (B_dec t d) q + (if q ≤ B_eye k d then 1 else 0) := by
  unfold B_R
  have e : (fun x => if q ≤ B_eye k x then B_dec t d x else 0) = q_up (fun x => if q ≤ B_eye k x then t x else 0) d (if q ≤ B_eye k d then t d - 1 else 0) := by
    funext x
    unfold B_dec q_up
    by_cases c : x = d
    · rw [if_pos c, if_pos c, c]
    · rw [if_neg c, if_neg c]
  have w : q_su (q_up (fun x => if q ≤ B_eye k x then t x else 0) d (if q ≤ B_eye k d then t d - 1 else 0)) (B_d k) 0 + (if q ≤ B_eye k d then t d else 0) = q_su (fun x => if q ≤ B_eye k x then t x else 0) (B_d k) 0 + (if q ≤ B_eye k d then t d - 1 else 0) := q_su_up (B_d k) 0 (Nat.zero_le _) (by omega)
  rw [e]
  by_cases c : q ≤ B_eye k d
  · simp only [if_pos c] at w ⊢
    omega
  · simp only [if_neg c] at w ⊢
    omega
theorem B_R_anti {k : q_Bk} {t : Nat → Nat} {q q' : Nat} (h : q ≤ q') : B_R k t q' ≤ B_R k t q := q_su_mono _ _ (fun d _ _ => by
  by_cases c : q' ≤ B_eye k d
  · rw [if_pos c, if_pos (by omega)]
    exact Nat.le_refl _
  · rw [if_neg c]
    exact Nat.zero_le _)
theorem B_cn_anti {k : q_Bk} {S : Nat → Bool} {q q' r b : Nat} (h : q ≤ q') : B_cn k S q' r b ≤ B_cn k S q r b := q_su_mono _ _ (fun x _ _ => by
  by_cases c : (S x && decide (q' ≤ B_need k x)) = true
  · rw [if_pos c]
    rw [Bool.and_eq_true, decide_eq_true_eq] at c
    rw [if_pos (by rw [Bool.and_eq_true, decide_eq_true_eq]; exact ⟨c.1, by omega⟩)]
    exact Nat.le_refl _
  · rw [if_neg c]
    exact Nat.zero_le _)
theorem B_cn_s {k : q_Bk} {S : Nat → Bool} (q r b : Nat) : B_cn k S q (r + 1) b = (if (S b && decide (q ≤ B_need k b)) = true then 1 else 0) + B_cn k S q r (b + 1) := rfl
theorem B_L1 {k : q_Bk} (bk : B_d k ≤ 5) : ∀ r b t S, B_hl k S r b t → B_wo k S r b ≤ B_V k r b t := by
  intro r
  induction r with
  | zero => intro b t S _; exact Nat.le_refl _
  | succ r ih =>
    intro b t S hl
    have es : B_wo k S (r + 1) b = (if S b = true then B_worth k b else 0) + B_wo k S r (b + 1) := rfl
    have ge : B_V k r (b + 1) t ≤ B_V k (r + 1) b t := q_mxd_ge _ 5 0 _
    rw [es]
    cases hS : S b with
    | false =>
      rw [if_neg (by decide), Nat.zero_add]
      refine Nat.le_trans (ih (b + 1) t S (fun q => ?_)) ge
      have := hl q
      rw [B_cn_s, hS, Bool.false_and, if_neg (by decide), Nat.zero_add] at this
      exact this
    | true =>
      rw [if_pos rfl]
      have h0 := hl (B_need k b)
      have c0 : B_cn k S (B_need k b) (r + 1) b = 1 + B_cn k S (B_need k b) r (b + 1) := by
        rw [B_cn_s, hS, Bool.true_and, decide_eq_true (Nat.le_refl _), if_pos rfl]
      rw [c0] at h0
      obtain ⟨d0, -, hd0, hg⟩ := q_su_pos (g := fun d => if B_need k b ≤ B_eye k d then t d else 0) (B_d k) 0 (by unfold B_R at h0; omega)
      have hg' : 1 ≤ (if B_need k b ≤ B_eye k d0 then t d0 else 0) := hg
      split at hg'
      · rename_i hn0
        obtain ⟨e, ⟨d, hd, he, hn, ht⟩, hmin⟩ := pk_least (fun e => ∃ d, d < B_d k ∧ B_eye k d = e ∧ B_need k b ≤ e ∧ 1 ≤ t d) ⟨B_eye k d0, d0, by omega, rfl, hn0, hg'⟩
        subst he
        have may : B_mayB k t b d = true := B_mayB_iff.mpr ⟨hd, ht, hn⟩
        have hl' : B_hl k S r (b + 1) (B_dec t d) := fun q => by
          have hq := hl q
          have rd := B_R_dec hd ht q
          rw [B_cn_s, hS, Bool.true_and] at hq
          by_cases q1 : q ≤ B_need k b
          · rw [decide_eq_true q1, if_pos rfl] at hq
            rw [if_pos (by omega)] at rd
            omega
          · rw [decide_eq_false q1, if_neg (by decide), Nat.zero_add] at hq
            by_cases q2 : q ≤ B_eye k d
            · rw [if_pos q2] at rd
              have a1 := B_cn_anti (k := k) (S := S) (q := B_need k b) (q' := q) (r := r) (b := b + 1) (by omega)
              have a2 : B_R k t (B_need k b) ≤ B_R k t q := q_su_mono _ _ (fun x _ hx => by
                by_cases c : B_need k b ≤ B_eye k x
                · rw [if_pos c]
                  by_cases c2 : 1 ≤ t x
                  · have : ¬ B_eye k x < B_eye k d := fun w => hmin _ w ⟨x, by omega, rfl, c, c2⟩
                    rw [if_pos (by omega)]
                    exact Nat.le_refl _
                  · have : t x = 0 := by omega
                    rw [this]
                    exact Nat.zero_le _
                · rw [if_neg c]
                  exact Nat.zero_le _)
              omega
            · rw [if_neg q2] at rd
              omega
        have h3 := ih (b + 1) (B_dec t d) S hl'
        have h4 : (fun d => if B_mayB k t b d = true then B_worth k b + B_V k r (b + 1) (B_dec t d) else 0) d ≤ B_V k (r + 1) b t := q_mxd_mem (fun d => if B_mayB k t b d = true then B_worth k b + B_V k r (b + 1) (B_dec t d) else 0) 5 0 (B_V k r (b + 1) t) d (Nat.zero_le _) (by omega)
        have h5 : (fun d => if B_mayB k t b d = true then B_worth k b + B_V k r (b + 1) (B_dec t d) else 0) d = B_worth k b + B_V k r (b + 1) (B_dec t d) := if_pos may
        rw [h5] at h4
        omega
      · omega
theorem B_L2 (k : q_Bk) : ∀ r b t, ∃ S : Nat → Bool, B_hl k S r b t ∧ B_wo k S r b = B_V k r b t ∧ ∀ x, S x = true → b ≤ x ∧ x < b + r := by
  intro r
  induction r with
  | zero =>
    intro b t
    exact ⟨fun _ => false, fun q => Nat.zero_le _, rfl, fun x hx => by cases hx⟩
  | succ r ih =>
    intro b t
    obtain ⟨S, s1, s2, s3⟩ := ih (b + 1) t
    have Sb : S b = false := by
      cases h : S b with
      | false => rfl
      | true => have := (s3 b h).1; omega
    have same : B_V k (r + 1) b t = B_V k r (b + 1) t → ∃ S : Nat → Bool, B_hl k S (r + 1) b t ∧ B_wo k S (r + 1) b = B_V k (r + 1) b t ∧ ∀ x, S x = true → b ≤ x ∧ x < b + (r + 1) := fun e => by
      refine ⟨S, fun q => ?_, ?_, fun x hx => by have := s3 x hx; omega⟩
      · rw [B_cn_s, Sb, Bool.false_and, if_neg (by decide), Nat.zero_add]
        exact s1 q
      · rw [e, ← s2]
        show (if S b = true then B_worth k b else 0) + B_wo k S r (b + 1) = _
        rw [Sb, if_neg (by decide), Nat.zero_add]
    rcases q_mxd_cases (fun d => if B_mayB k t b d = true then B_worth k b + B_V k r (b + 1) (B_dec t d) else 0) 5 0 (B_V k r (b + 1) t) with e | ⟨d, -, hd, e⟩
    · exact same e
    · have e' : B_V k (r + 1) b t = if B_mayB k t b d = true then B_worth k b + B_V k r (b + 1) (B_dec t d) else 0 := e
      by_cases c : B_mayB k t b d = true
      · rw [if_pos c] at e'
        obtain ⟨m1, m2, m3⟩ := B_mayB_iff.mp c
        obtain ⟨S', s1', s2', s3'⟩ := ih (b + 1) (B_dec t d)
        have far : ∀ x, b + 1 ≤ x → (decide (x = b) || S' x) = S' x := fun x hx => by rw [decide_eq_false (by omega), Bool.false_or]
        refine ⟨fun x => decide (x = b) || S' x, fun q => ?_, ?_, fun x hx => ?_⟩
        · rw [B_cn_s]
          have e1 : B_cn k (fun x => decide (x = b) || S' x) q r (b + 1) = B_cn k S' q r (b + 1) := q_su_cg _ _ (fun x h1 _ => by
            show (if ((decide (x = b) || S' x) && decide (q ≤ B_need k x)) = true then 1 else 0) = _
            rw [far x h1])
          rw [e1, decide_eq_true rfl, Bool.true_or, Bool.true_and]
          have := s1' q
          have rd := B_R_dec m1 m2 q
          by_cases q1 : q ≤ B_need k b
          · rw [decide_eq_true q1, if_pos rfl]
            rw [if_pos (by omega)] at rd
            omega
          · rw [decide_eq_false q1, if_neg (by decide)]
            split at rd <;> omega
        · rw [e']
          show (if (decide (b = b) || S' b) = true then B_worth k b else 0) + B_wo k (fun x => decide (x = b) || S' x) r (b + 1) = _
          have e1 : B_wo k (fun x => decide (x = b) || S' x) r (b + 1) = B_wo k S' r (b + 1) := q_su_cg _ _ (fun x h1 _ => by
            show (if (decide (x = b) || S' x) = true then B_worth k x else 0) = _
            rw [far x h1])
          rw [e1, decide_eq_true rfl, Bool.true_or, if_pos rfl, s2']
        · have hx' : (decide (x = b) || S' x) = true := hx
          rw [Bool.or_eq_true, decide_eq_true_eq] at hx'
          rcases hx' with w | w
          · omega
          · have := s3' x w; omega
      · rw [if_neg c] at e'
        have : B_V k r (b + 1) t ≤ B_V k (r + 1) b t := q_mxd_ge _ 5 0 _
        exact same (by omega)
/-- it is enough to look at the needs of the bargains themselves -/
theorem B_hl_of {k : q_Bk} {S : Nat → Bool} {r b : Nat} {t : Nat → Nat} (h : ∀ x, b ≤ x → x < b + r → B_cn k S (B_need k x) r b ≤ B_R k t (B_need k x)) : B_hl k S r b t := fun q => by
  by_cases c : 1 ≤ B_cn k S q r b
  · obtain ⟨x, h1, h2, h3⟩ := q_su_pos r b c
    have h3' : 1 ≤ (if (S x && decide (q ≤ B_need k x)) = true then 1 else 0) := h3
    split at h3'
    · rename_i hx
      rw [Bool.and_eq_true, decide_eq_true_eq] at hx
      obtain ⟨e, ⟨y, y1, y2, y3, y4, y5⟩, hmin⟩ := pk_least (fun e => ∃ x, b ≤ x ∧ x < b + r ∧ S x = true ∧ B_need k x = e ∧ q ≤ e) ⟨B_need k x, x, h1, h2, hx.1, rfl, hx.2⟩
      subst y4
      have e1 : B_cn k S q r b = B_cn k S (B_need k y) r b := q_su_cg _ _ (fun z z1 z2 => by
        cases hz : S z with
        | false => rw [Bool.false_and, Bool.false_and]
        | true =>
          rw [Bool.true_and, Bool.true_and]
          by_cases c1 : q ≤ B_need k z
          · have : ¬ B_need k z < B_need k y := fun w => hmin _ w ⟨z, z1, z2, hz, rfl, c1⟩
            rw [decide_eq_true c1, decide_eq_true (show B_need k y ≤ B_need k z by omega)]
          · rw [decide_eq_false c1, decide_eq_false (show ¬ B_need k y ≤ B_need k z by omega)])
      rw [e1]
      exact Nat.le_trans (h y y1 y2) (B_R_anti y5)
    · omega
  · omega
