/-! part 78: by a log: the class's minute -/
theorem e147_0 {ls : List (Option Value)} {st : List Value} {h : am_H} : am_ev 147 0 (ls) (st) h = am_ev 147 1 (ls) (.long 0 :: st) h := am_ev_step (q := (1, ls, .long 0 :: st, h)) _ (.lconst 0) 1 am_my_147 (by decide +kernel) rfl
theorem e147_1 {ls : List (Option Value)} {st : List Value} {h : am_H} {l0 l1 : Option Value} {z z2 : Option Value} {a : Int64} : am_ev 147 1 (l0 :: l1 :: z :: z2 :: ls) (.long a :: st) h = am_ev 147 2 (l0 :: l1 :: some (.long a) :: some (.retAddr 0) :: ls) (st) h := am_ev_step (q := (2, l0 :: l1 :: some (.long a) :: some (.retAddr 0) :: ls, st, h)) _ (.lstore_n 2) 1 am_my_147 (by decide +kernel) rfl
theorem e147_2 {ls : List (Option Value)} {st : List Value} {h : am_H} : am_ev 147 2 (ls) (st) h = am_ev 147 3 (ls) (.int (0) :: st) h := am_ev_step (q := (3, ls, .int (0) :: st, h)) _ (.iconst (0)) 1 am_my_147 (by decide +kernel) rfl
theorem e147_3 {ls : List (Option Value)} {st : List Value} {h : am_H} {l0 l1 l2 l3 : Option Value} {z : Option Value} {a : Int32} : am_ev 147 3 (l0 :: l1 :: l2 :: l3 :: z :: ls) (.int a :: st) h = am_ev 147 5 (l0 :: l1 :: l2 :: l3 :: some (.int a) :: ls) (st) h := am_ev_step (q := (5, l0 :: l1 :: l2 :: l3 :: some (.int a) :: ls, st, h)) _ (.istore 4) 2 am_my_147 (by decide +kernel) rfl
theorem e147_5 {ls : List (Option Value)} {st : List Value} {h : am_H} {l0 l1 l2 l3 : Option Value} {a : Int32} : am_ev 147 5 (l0 :: l1 :: l2 :: l3 :: some (.int a) :: ls) (st) h = am_ev 147 7 (l0 :: l1 :: l2 :: l3 :: some (.int a) :: ls) (.int a :: st) h := am_ev_step (q := (7, l0 :: l1 :: l2 :: l3 :: some (.int a) :: ls, .int a :: st, h)) _ (.iload 4) 2 am_my_147 (by decide +kernel) rfl
theorem e147_7 {ls : List (Option Value)} {st : List Value} {h : am_H} : am_ev 147 7 (ls) (st) h = am_ev 147 9 (ls) (.int (36) :: st) h := am_ev_step (q := (9, ls, .int (36) :: st, h)) _ (.bipush (36)) 2 am_my_147 (by decide +kernel) rfl
theorem e147_9 {ls : List (Option Value)} {st : List Value} {h : am_H} {a b : Int32} : am_ev 147 9 ls (.int b :: .int a :: st) h = if b ≤ a then am_ev 147 35 ls st h else am_ev 147 12 ls st h := am_u_if2 (c := .ge) (off := 26) am_my_147 (by decide +kernel) (by decide)
theorem e147_12 {ls : List (Option Value)} {st : List Value} {h : am_H} {a : Nat} : am_ev 147 12 (some (.ref a) :: ls) (st) h = am_ev 147 13 (some (.ref a) :: ls) (.ref a :: st) h := am_ev_step (q := (13, some (.ref a) :: ls, .ref a :: st, h)) _ (.aload_n 0) 1 am_my_147 (by decide +kernel) rfl
theorem e147_13 {ls : List (Option Value)} {st : List Value} {h : am_H} {l0 : Option Value} {a : Nat} : am_ev 147 13 (l0 :: some (.ref a) :: ls) (st) h = am_ev 147 14 (l0 :: some (.ref a) :: ls) (.ref a :: st) h := am_ev_step (q := (14, l0 :: some (.ref a) :: ls, .ref a :: st, h)) _ (.aload_n 1) 1 am_my_147 (by decide +kernel) rfl
theorem e147_14 {ls : List (Option Value)} {st : List Value} {h : am_H} {l0 l1 l2 l3 : Option Value} {a : Int32} : am_ev 147 14 (l0 :: l1 :: l2 :: l3 :: some (.int a) :: ls) (st) h = am_ev 147 16 (l0 :: l1 :: l2 :: l3 :: some (.int a) :: ls) (.int a :: st) h := am_ev_step (q := (16, l0 :: l1 :: l2 :: l3 :: some (.int a) :: ls, .int a :: st, h)) _ (.iload 4) 2 am_my_147 (by decide +kernel) rfl
theorem e147_16 {ls : List (Option Value)} {st : List Value} {h : am_H} {p0 : Nat} {p1 : Int32} {o : Nat} (hw : am_w8 st ≤ 8) (hk : am_kd h o = some (.inl 10)) : am_ev 147 16 ls (.int p1 :: .ref p0 :: .ref o :: st) h = am_bd (am_den 148 [.ref o, .ref p0, .int p1] h) (fun v h1 => am_ev 147 19 ls (v.toList ++ st) h1) := am_u_cV (idx := 321) (wn := 5063) (as := [.ref p0, .int p1]) am_my_147 (by decide +kernel) (Or.inl (by decide +kernel)) am_my_148 (by decide +kernel) rfl ⟨Nat.le_of_ble_eq_true rfl, rfl⟩ (by decide +kernel) hw hk
theorem e147_19 {ls : List (Option Value)} {st : List Value} {h : am_H} {a : Int32} : am_ev 147 19 ls (.int a :: st) h = if a = 0 then am_ev 147 29 ls st h else am_ev 147 22 ls st h := am_u_if1 (c := .eq) (off := 10) am_my_147 (by decide +kernel) (by decide)
theorem e147_22 {ls : List (Option Value)} {st : List Value} {h : am_H} {l0 l1 : Option Value} {a : Int64} : am_ev 147 22 (l0 :: l1 :: some (.long a) :: some (.retAddr 0) :: ls) (st) h = am_ev 147 23 (l0 :: l1 :: some (.long a) :: some (.retAddr 0) :: ls) (.long a :: st) h := am_ev_step (q := (23, l0 :: l1 :: some (.long a) :: some (.retAddr 0) :: ls, .long a :: st, h)) _ (.lload_n 2) 1 am_my_147 (by decide +kernel) rfl
theorem e147_23 {ls : List (Option Value)} {st : List Value} {h : am_H} : am_ev 147 23 (ls) (st) h = am_ev 147 24 (ls) (.long 1 :: st) h := am_ev_step (q := (24, ls, .long 1 :: st, h)) _ (.lconst 1) 1 am_my_147 (by decide +kernel) rfl
theorem e147_24 {ls : List (Option Value)} {st : List Value} {h : am_H} {l0 l1 l2 l3 : Option Value} {a : Int32} : am_ev 147 24 (l0 :: l1 :: l2 :: l3 :: some (.int a) :: ls) (st) h = am_ev 147 26 (l0 :: l1 :: l2 :: l3 :: some (.int a) :: ls) (.int a :: st) h := am_ev_step (q := (26, l0 :: l1 :: l2 :: l3 :: some (.int a) :: ls, .int a :: st, h)) _ (.iload 4) 2 am_my_147 (by decide +kernel) rfl
theorem e147_26 {ls : List (Option Value)} {st : List Value} {h : am_H} {a : Int64} {b : Int32} : am_ev 147 26 (ls) (.int b :: .long a :: st) h = am_ev 147 27 (ls) (.long (a <<< (b.toInt64 &&& 63)) :: st) h := am_ev_step (q := (27, ls, .long (a <<< (b.toInt64 &&& 63)) :: st, h)) _ (.lshl) 1 am_my_147 (by decide +kernel) rfl
theorem e147_27 {ls : List (Option Value)} {st : List Value} {h : am_H} {a b : Int64} : am_ev 147 27 (ls) (.long b :: .long a :: st) h = am_ev 147 28 (ls) (.long (a ||| b) :: st) h := am_ev_step (q := (28, ls, .long (a ||| b) :: st, h)) _ (.lor) 1 am_my_147 (by decide +kernel) rfl
theorem e147_28 {ls : List (Option Value)} {st : List Value} {h : am_H} {l0 l1 : Option Value} {z z2 : Option Value} {a : Int64} : am_ev 147 28 (l0 :: l1 :: z :: z2 :: ls) (.long a :: st) h = am_ev 147 29 (l0 :: l1 :: some (.long a) :: some (.retAddr 0) :: ls) (st) h := am_ev_step (q := (29, l0 :: l1 :: some (.long a) :: some (.retAddr 0) :: ls, st, h)) _ (.lstore_n 2) 1 am_my_147 (by decide +kernel) rfl
theorem e147_29 {ls : List (Option Value)} {st : List Value} {h : am_H} {l0 l1 l2 l3 : Option Value} {a : Int32} : am_ev 147 29 (l0 :: l1 :: l2 :: l3 :: some (.int a) :: ls) (st) h = am_ev 147 32 (l0 :: l1 :: l2 :: l3 :: some (.int (a + (1))) :: ls) (st) h := am_ev_step (q := (32, l0 :: l1 :: l2 :: l3 :: some (.int (a + (1))) :: ls, st, h)) _ (.iinc 4 (1)) 3 am_my_147 (by decide +kernel) rfl
theorem e147_32 {ls : List (Option Value)} {st : List Value} {h : am_H} : am_ev 147 32 (ls) (st) h = am_ev 147 5 (ls) (st) h := am_ev_step (q := (5, ls, st, h)) _ (.goto (-27)) 3 am_my_147 (by decide +kernel) rfl
theorem e147_35 {ls : List (Option Value)} {st : List Value} {h : am_H} {l0 l1 : Option Value} {a : Int64} : am_ev 147 35 (l0 :: l1 :: some (.long a) :: some (.retAddr 0) :: ls) (st) h = am_ev 147 36 (l0 :: l1 :: some (.long a) :: some (.retAddr 0) :: ls) (.long a :: st) h := am_ev_step (q := (36, l0 :: l1 :: some (.long a) :: some (.retAddr 0) :: ls, .long a :: st, h)) _ (.lload_n 2) 1 am_my_147 (by decide +kernel) rfl
theorem e147_36 {ls : List (Option Value)} {h : am_H} {v : Int64} : am_ev 147 36 ls [.long v] h = some (some (.long v), h) := am_u_rtL am_my_147 (by decide +kernel) rfl
theorem e148_0 {ls : List (Option Value)} {st : List Value} {h : am_H} : am_ev 148 0 (ls) (st) h = am_ev 148 1 (ls) (.int (0) :: st) h := am_ev_step (q := (1, ls, .int (0) :: st, h)) _ (.iconst (0)) 1 am_my_148 (by decide +kernel) rfl
theorem e148_1 {ls : List (Option Value)} {st : List Value} {h : am_H} {l0 l1 l2 : Option Value} {z : Option Value} {a : Int32} : am_ev 148 1 (l0 :: l1 :: l2 :: z :: ls) (.int a :: st) h = am_ev 148 2 (l0 :: l1 :: l2 :: some (.int a) :: ls) (st) h := am_ev_step (q := (2, l0 :: l1 :: l2 :: some (.int a) :: ls, st, h)) _ (.istore_n 3) 1 am_my_148 (by decide +kernel) rfl
theorem e148_2 {ls : List (Option Value)} {st : List Value} {h : am_H} {l0 l1 l2 : Option Value} {a : Int32} : am_ev 148 2 (l0 :: l1 :: l2 :: some (.int a) :: ls) (st) h = am_ev 148 3 (l0 :: l1 :: l2 :: some (.int a) :: ls) (.int a :: st) h := am_ev_step (q := (3, l0 :: l1 :: l2 :: some (.int a) :: ls, .int a :: st, h)) _ (.iload_n 3) 1 am_my_148 (by decide +kernel) rfl
theorem e148_3 {ls : List (Option Value)} {st : List Value} {h : am_H} {l0 : Option Value} {a : Nat} : am_ev 148 3 (l0 :: some (.ref a) :: ls) (st) h = am_ev 148 4 (l0 :: some (.ref a) :: ls) (.ref a :: st) h := am_ev_step (q := (4, l0 :: some (.ref a) :: ls, .ref a :: st, h)) _ (.aload_n 1) 1 am_my_148 (by decide +kernel) rfl
theorem e148_4 {ls : List (Option Value)} {st : List Value} {h : am_H} {o : Nat} (hk : am_kd h o = some (.inl 5)) : am_ev 148 4 ls (.ref o :: st) h = am_ev 148 7 ls (.int (h.1 o 0) :: st) h := am_u_gfI (idx := 325) (wn := 1162) am_my_148 (by decide +kernel) (by decide +kernel) (by decide +kernel) hk
theorem e148_7 {ls : List (Option Value)} {st : List Value} {h : am_H} {a b : Int32} : am_ev 148 7 ls (.int b :: .int a :: st) h = if b ≤ a then am_ev 148 47 ls st h else am_ev 148 10 ls st h := am_u_if2 (c := .ge) (off := 40) am_my_148 (by decide +kernel) (by decide)
theorem e148_10 {ls : List (Option Value)} {st : List Value} {h : am_H} {a : Nat} : am_ev 148 10 (some (.ref a) :: ls) (st) h = am_ev 148 11 (some (.ref a) :: ls) (.ref a :: st) h := am_ev_step (q := (11, some (.ref a) :: ls, .ref a :: st, h)) _ (.aload_n 0) 1 am_my_148 (by decide +kernel) rfl
theorem e148_11 {ls : List (Option Value)} {st : List Value} {h : am_H} {l0 l1 : Option Value} {a : Int32} : am_ev 148 11 (l0 :: l1 :: some (.int a) :: ls) (st) h = am_ev 148 12 (l0 :: l1 :: some (.int a) :: ls) (.int a :: st) h := am_ev_step (q := (12, l0 :: l1 :: some (.int a) :: ls, .int a :: st, h)) _ (.iload_n 2) 1 am_my_148 (by decide +kernel) rfl
theorem e148_12 {ls : List (Option Value)} {st : List Value} {h : am_H} {l0 : Option Value} {a : Nat} : am_ev 148 12 (l0 :: some (.ref a) :: ls) (st) h = am_ev 148 13 (l0 :: some (.ref a) :: ls) (.ref a :: st) h := am_ev_step (q := (13, l0 :: some (.ref a) :: ls, .ref a :: st, h)) _ (.aload_n 1) 1 am_my_148 (by decide +kernel) rfl
theorem e148_13 {ls : List (Option Value)} {st : List Value} {h : am_H} {o : Nat} (hk : am_kd h o = some (.inl 5)) : am_ev 148 13 ls (.ref o :: st) h = am_ev 148 16 ls (va_rf (h.2.2.1 o 2) :: st) h := am_u_gfR (idx := 328) (wn := 1165) (a := 0) am_my_148 (by decide +kernel) (by decide +kernel) (by decide +kernel) hk
theorem e148_16 {ls : List (Option Value)} {st : List Value} {h : am_H} {l0 l1 l2 : Option Value} {a : Int32} : am_ev 148 16 (l0 :: l1 :: l2 :: some (.int a) :: ls) (st) h = am_ev 148 17 (l0 :: l1 :: l2 :: some (.int a) :: ls) (.int a :: st) h := am_ev_step (q := (17, l0 :: l1 :: l2 :: some (.int a) :: ls, .int a :: st, h)) _ (.iload_n 3) 1 am_my_148 (by decide +kernel) rfl
theorem e148_17 {ls : List (Option Value)} {st : List Value} {h : am_H} {i : Int32} {a : Nat} (ht : am_tc h a = some 0) : am_ev 148 17 ls (.int i :: .ref a :: st) h = if am_ix i (am_len h a) = true then am_ev 148 18 ls (.int (h.1 a i.toNatClampNeg) :: st) h else none := am_u_rI am_my_148 (by decide +kernel) ht
theorem e148_18 {ls : List (Option Value)} {st : List Value} {h : am_H} {l0 : Option Value} {a : Nat} : am_ev 148 18 (l0 :: some (.ref a) :: ls) (st) h = am_ev 148 19 (l0 :: some (.ref a) :: ls) (.ref a :: st) h := am_ev_step (q := (19, l0 :: some (.ref a) :: ls, .ref a :: st, h)) _ (.aload_n 1) 1 am_my_148 (by decide +kernel) rfl
theorem e148_19 {ls : List (Option Value)} {st : List Value} {h : am_H} {o : Nat} (hk : am_kd h o = some (.inl 5)) : am_ev 148 19 ls (.ref o :: st) h = am_ev 148 22 ls (va_rf (h.2.2.1 o 3) :: st) h := am_u_gfR (idx := 331) (wn := 1167) (a := 0) am_my_148 (by decide +kernel) (by decide +kernel) (by decide +kernel) hk
theorem e148_22 {ls : List (Option Value)} {st : List Value} {h : am_H} {l0 l1 l2 : Option Value} {a : Int32} : am_ev 148 22 (l0 :: l1 :: l2 :: some (.int a) :: ls) (st) h = am_ev 148 23 (l0 :: l1 :: l2 :: some (.int a) :: ls) (.int a :: st) h := am_ev_step (q := (23, l0 :: l1 :: l2 :: some (.int a) :: ls, .int a :: st, h)) _ (.iload_n 3) 1 am_my_148 (by decide +kernel) rfl
theorem e148_23 {ls : List (Option Value)} {st : List Value} {h : am_H} {i : Int32} {a : Nat} (ht : am_tc h a = some 0) : am_ev 148 23 ls (.int i :: .ref a :: st) h = if am_ix i (am_len h a) = true then am_ev 148 24 ls (.int (h.1 a i.toNatClampNeg) :: st) h else none := am_u_rI am_my_148 (by decide +kernel) ht
theorem e148_24 {ls : List (Option Value)} {st : List Value} {h : am_H} {p0 : Int32} {p1 : Int32} {p2 : Int32} {o : Nat} (hw : am_w8 st ≤ 8) (hk : am_kd h o = some (.inl 10)) : am_ev 148 24 ls (.int p2 :: .int p1 :: .int p0 :: .ref o :: st) h = am_bd (am_den 149 [.ref o, .int p0, .int p1, .int p2] h) (fun v h1 => am_ev 148 27 ls (v.toList ++ st) h1) := am_u_cV (idx := 333) (wn := 5067) (as := [.int p0, .int p1, .int p2]) am_my_148 (by decide +kernel) (Or.inl (by decide +kernel)) am_my_149 (by decide +kernel) rfl ⟨Nat.le_of_ble_eq_true rfl, rfl⟩ (by decide +kernel) hw hk
theorem e148_27 {ls : List (Option Value)} {st : List Value} {h : am_H} {l0 : Option Value} {a : Nat} : am_ev 148 27 (l0 :: some (.ref a) :: ls) (st) h = am_ev 148 28 (l0 :: some (.ref a) :: ls) (.ref a :: st) h := am_ev_step (q := (28, l0 :: some (.ref a) :: ls, .ref a :: st, h)) _ (.aload_n 1) 1 am_my_148 (by decide +kernel) rfl
theorem e148_28 {ls : List (Option Value)} {st : List Value} {h : am_H} {l0 l1 l2 : Option Value} {a : Int32} : am_ev 148 28 (l0 :: l1 :: l2 :: some (.int a) :: ls) (st) h = am_ev 148 29 (l0 :: l1 :: l2 :: some (.int a) :: ls) (.int a :: st) h := am_ev_step (q := (29, l0 :: l1 :: l2 :: some (.int a) :: ls, .int a :: st, h)) _ (.iload_n 3) 1 am_my_148 (by decide +kernel) rfl
theorem e148_29 {ls : List (Option Value)} {st : List Value} {h : am_H} {a : Nat} : am_ev 148 29 (some (.ref a) :: ls) (st) h = am_ev 148 30 (some (.ref a) :: ls) (.ref a :: st) h := am_ev_step (q := (30, some (.ref a) :: ls, .ref a :: st, h)) _ (.aload_n 0) 1 am_my_148 (by decide +kernel) rfl
theorem e148_30 {ls : List (Option Value)} {st : List Value} {h : am_H} {o : Nat} (hk : am_kd h o = some (.inl 10)) : am_ev 148 30 ls (.ref o :: st) h = am_ev 148 33 ls (va_rf (h.2.2.1 o 7) :: st) h := am_u_gfR (idx := 47) (wn := 2153) (a := 0) am_my_148 (by decide +kernel) (by decide +kernel) (by decide +kernel) hk
theorem e148_33 {ls : List (Option Value)} {st : List Value} {h : am_H} {p0 : Int32} {p1 : Nat} {o : Nat} (hw : am_w8 st ≤ 8) (hk : am_kd h o = some (.inl 5)) : am_ev 148 33 ls (.ref p1 :: .int p0 :: .ref o :: st) h = am_bd (am_den 151 [.ref o, .int p0, .ref p1] h) (fun v h1 => am_ev 148 36 ls (v.toList ++ st) h1) := am_u_cV (idx := 337) (wn := 5075) (as := [.int p0, .ref p1]) am_my_148 (by decide +kernel) (Or.inl (by decide +kernel)) am_my_151 (by decide +kernel) rfl ⟨Nat.le_of_ble_eq_true rfl, rfl⟩ (by decide +kernel) hw hk
theorem e148_36 {ls : List (Option Value)} {st : List Value} {h : am_H} {a b : Int32} : am_ev 148 36 ls (.int b :: .int a :: st) h = if a = b then am_ev 148 41 ls st h else am_ev 148 39 ls st h := am_u_if2 (c := .eq) (off := 5) am_my_148 (by decide +kernel) (by decide)
theorem e148_39 {ls : List (Option Value)} {st : List Value} {h : am_H} : am_ev 148 39 (ls) (st) h = am_ev 148 40 (ls) (.int (0) :: st) h := am_ev_step (q := (40, ls, .int (0) :: st, h)) _ (.iconst (0)) 1 am_my_148 (by decide +kernel) rfl
theorem e148_40 {ls : List (Option Value)} {h : am_H} {v : Int32} (hv : v = 0 ∨ v = 1) : am_ev 148 40 ls [.int v] h = some (some (.int v), h) := am_u_rtZ am_my_148 (by decide +kernel) rfl hv
theorem e148_41 {ls : List (Option Value)} {st : List Value} {h : am_H} {l0 l1 l2 : Option Value} {a : Int32} : am_ev 148 41 (l0 :: l1 :: l2 :: some (.int a) :: ls) (st) h = am_ev 148 44 (l0 :: l1 :: l2 :: some (.int (a + (1))) :: ls) (st) h := am_ev_step (q := (44, l0 :: l1 :: l2 :: some (.int (a + (1))) :: ls, st, h)) _ (.iinc 3 (1)) 3 am_my_148 (by decide +kernel) rfl
theorem e148_44 {ls : List (Option Value)} {st : List Value} {h : am_H} : am_ev 148 44 (ls) (st) h = am_ev 148 2 (ls) (st) h := am_ev_step (q := (2, ls, st, h)) _ (.goto (-42)) 3 am_my_148 (by decide +kernel) rfl
theorem e148_47 {ls : List (Option Value)} {st : List Value} {h : am_H} : am_ev 148 47 (ls) (st) h = am_ev 148 48 (ls) (.int (1) :: st) h := am_ev_step (q := (48, ls, .int (1) :: st, h)) _ (.iconst (1)) 1 am_my_148 (by decide +kernel) rfl
theorem e148_48 {ls : List (Option Value)} {h : am_H} {v : Int32} (hv : v = 0 ∨ v = 1) : am_ev 148 48 ls [.int v] h = some (some (.int v), h) := am_u_rtZ am_my_148 (by decide +kernel) rfl hv
theorem e149_0 {ls : List (Option Value)} {st : List Value} {h : am_H} {a : Nat} : am_ev 149 0 (some (.ref a) :: ls) (st) h = am_ev 149 1 (some (.ref a) :: ls) (.ref a :: st) h := am_ev_step (q := (1, some (.ref a) :: ls, .ref a :: st, h)) _ (.aload_n 0) 1 am_my_149 (by decide +kernel) rfl
theorem e149_1 {ls : List (Option Value)} {st : List Value} {h : am_H} {o : Nat} (hk : am_kd h o = some (.inl 10)) : am_ev 149 1 ls (.ref o :: st) h = am_ev 149 4 ls (va_rf (h.2.2.1 o 7) :: st) h := am_u_gfR (idx := 47) (wn := 2153) (a := 0) am_my_149 (by decide +kernel) (by decide +kernel) (by decide +kernel) hk
theorem e149_4 {ls : List (Option Value)} {st : List Value} {h : am_H} {l0 : Option Value} {a : Int32} : am_ev 149 4 (l0 :: some (.int a) :: ls) (st) h = am_ev 149 5 (l0 :: some (.int a) :: ls) (.int a :: st) h := am_ev_step (q := (5, l0 :: some (.int a) :: ls, .int a :: st, h)) _ (.iload_n 1) 1 am_my_149 (by decide +kernel) rfl
theorem e149_5 {ls : List (Option Value)} {st : List Value} {h : am_H} {l0 l1 : Option Value} {a : Int32} : am_ev 149 5 (l0 :: l1 :: some (.int a) :: ls) (st) h = am_ev 149 6 (l0 :: l1 :: some (.int a) :: ls) (.int a :: st) h := am_ev_step (q := (6, l0 :: l1 :: some (.int a) :: ls, .int a :: st, h)) _ (.iload_n 2) 1 am_my_149 (by decide +kernel) rfl
theorem e149_6 {ls : List (Option Value)} {st : List Value} {h : am_H} {l0 l1 l2 : Option Value} {a : Int32} : am_ev 149 6 (l0 :: l1 :: l2 :: some (.int a) :: ls) (st) h = am_ev 149 7 (l0 :: l1 :: l2 :: some (.int a) :: ls) (.int a :: st) h := am_ev_step (q := (7, l0 :: l1 :: l2 :: some (.int a) :: ls, .int a :: st, h)) _ (.iload_n 3) 1 am_my_149 (by decide +kernel) rfl
theorem e149_7 {ls : List (Option Value)} {st : List Value} {h : am_H} {p0 : Int32} {p1 : Int32} {p2 : Int32} {o : Nat} (hw : am_w8 st ≤ 8) (hk : am_kd h o = some (.inl 3)) : am_ev 149 7 ls (.int p2 :: .int p1 :: .int p0 :: .ref o :: st) h = am_bd (am_den 150 [.ref o, .int p0, .int p1, .int p2] h) (fun v h1 => am_ev 149 10 ls (v.toList ++ st) h1) := am_u_cV (idx := 341) (wn := 5071) (as := [.int p0, .int p1, .int p2]) am_my_149 (by decide +kernel) (Or.inl (by decide +kernel)) am_my_150 (by decide +kernel) rfl ⟨Nat.le_of_ble_eq_true rfl, rfl⟩ (by decide +kernel) hw hk
theorem e149_10 {ls : List (Option Value)} {st : List Value} {h : am_H} {a : Nat} : am_ev 149 10 (some (.ref a) :: ls) (st) h = am_ev 149 11 (some (.ref a) :: ls) (.ref a :: st) h := am_ev_step (q := (11, some (.ref a) :: ls, .ref a :: st, h)) _ (.aload_n 0) 1 am_my_149 (by decide +kernel) rfl
theorem e149_11 {ls : List (Option Value)} {st : List Value} {h : am_H} {o : Nat} (hk : am_kd h o = some (.inl 10)) : am_ev 149 11 ls (.ref o :: st) h = am_ev 149 14 ls (va_rf (h.2.2.1 o 4) :: st) h := am_u_gfR (idx := 34) (wn := 2150) (a := 0) am_my_149 (by decide +kernel) (by decide +kernel) (by decide +kernel) hk
theorem e149_14 {ls : List (Option Value)} {st : List Value} {h : am_H} {a : Nat} : am_ev 149 14 (some (.ref a) :: ls) (st) h = am_ev 149 15 (some (.ref a) :: ls) (.ref a :: st) h := am_ev_step (q := (15, some (.ref a) :: ls, .ref a :: st, h)) _ (.aload_n 0) 1 am_my_149 (by decide +kernel) rfl
theorem e149_15 {ls : List (Option Value)} {st : List Value} {h : am_H} {o : Nat} (hk : am_kd h o = some (.inl 10)) : am_ev 149 15 ls (.ref o :: st) h = am_ev 149 18 ls (va_rf (h.2.2.1 o 7) :: st) h := am_u_gfR (idx := 47) (wn := 2153) (a := 0) am_my_149 (by decide +kernel) (by decide +kernel) (by decide +kernel) hk
theorem e149_18 {ls : List (Option Value)} {st : List Value} {h : am_H} {p0 : Nat} {o : Nat} (hw : am_w8 st ≤ 8) (hk : am_kd h o = some (.inl 4)) : am_ev 149 18 ls (.ref p0 :: .ref o :: st) h = am_bd (am_den 72 [.ref o, .ref p0] h) (fun v h1 => am_ev 149 21 ls (v.toList ++ st) h1) := am_u_cV (idx := 130) (wn := 3210) (as := [.ref p0]) am_my_149 (by decide +kernel) (Or.inl (by decide +kernel)) am_my_72 (by decide +kernel) rfl ⟨Nat.le_of_ble_eq_true rfl, rfl⟩ (by decide +kernel) hw hk
theorem e149_21 {ls : List (Option Value)} {st : List Value} {h : am_H} {a : Nat} : am_ev 149 21 (some (.ref a) :: ls) (st) h = am_ev 149 22 (some (.ref a) :: ls) (.ref a :: st) h := am_ev_step (q := (22, some (.ref a) :: ls, .ref a :: st, h)) _ (.aload_n 0) 1 am_my_149 (by decide +kernel) rfl
theorem e149_22 {ls : List (Option Value)} {st : List Value} {h : am_H} {o : Nat} (hk : am_kd h o = some (.inl 10)) : am_ev 149 22 ls (.ref o :: st) h = am_ev 149 25 ls (va_rf (h.2.2.1 o 4) :: st) h := am_u_gfR (idx := 34) (wn := 2150) (a := 0) am_my_149 (by decide +kernel) (by decide +kernel) (by decide +kernel) hk
theorem e149_25 {ls : List (Option Value)} {st : List Value} {h : am_H} : am_ev 149 25 (ls) (st) h = am_ev 149 26 (ls) (.int (0) :: st) h := am_ev_step (q := (26, ls, .int (0) :: st, h)) _ (.iconst (0)) 1 am_my_149 (by decide +kernel) rfl
theorem e149_26 {ls : List (Option Value)} {st : List Value} {h : am_H} {p0 : Int32} {o : Nat} (hw : am_w8 st ≤ 8) (hk : am_kd h o = some (.inl 4)) : am_ev 149 26 ls (.int p0 :: .ref o :: st) h = am_bd (am_den 74 [.ref o, .int p0] h) (fun v h1 => am_ev 149 29 ls (v.toList ++ st) h1) := am_u_cV (idx := 134) (wn := 3218) (as := [.int p0]) am_my_149 (by decide +kernel) (Or.inl (by decide +kernel)) am_my_74 (by decide +kernel) rfl ⟨Nat.le_of_ble_eq_true rfl, rfl⟩ (by decide +kernel) hw hk
theorem e149_29 {ls : List (Option Value)} {st : List Value} {h : am_H} {a : Int32} : am_ev 149 29 (ls) (.int a :: st) h = am_ev 149 30 (ls) (st) h := am_ev_step (q := (30, ls, st, h)) _ (.pop) 1 am_my_149 (by decide +kernel) rfl
theorem e149_30 {ls : List (Option Value)} {st : List Value} {h : am_H} {a : Nat} : am_ev 149 30 (some (.ref a) :: ls) (st) h = am_ev 149 31 (some (.ref a) :: ls) (.ref a :: st) h := am_ev_step (q := (31, some (.ref a) :: ls, .ref a :: st, h)) _ (.aload_n 0) 1 am_my_149 (by decide +kernel) rfl
theorem e149_31 {ls : List (Option Value)} {st : List Value} {h : am_H} {o : Nat} (hk : am_kd h o = some (.inl 10)) : am_ev 149 31 ls (.ref o :: st) h = am_ev 149 34 ls (va_rf (h.2.2.1 o 4) :: st) h := am_u_gfR (idx := 34) (wn := 2150) (a := 0) am_my_149 (by decide +kernel) (by decide +kernel) (by decide +kernel) hk
theorem e149_34 {ls : List (Option Value)} {st : List Value} {h : am_H} {o : Nat} (hk : am_kd h o = some (.inl 4)) : am_ev 149 34 ls (.ref o :: st) h = am_ev 149 37 ls (va_rf (h.2.2.1 o 3) :: st) h := am_u_gfR (idx := 138) (wn := 2056) (a := 0) am_my_149 (by decide +kernel) (by decide +kernel) (by decide +kernel) hk
theorem e149_37 {ls : List (Option Value)} {st : List Value} {h : am_H} : am_ev 149 37 (ls) (st) h = am_ev 149 38 (ls) (.int (0) :: st) h := am_ev_step (q := (38, ls, .int (0) :: st, h)) _ (.iconst (0)) 1 am_my_149 (by decide +kernel) rfl
theorem e149_38 {ls : List (Option Value)} {st : List Value} {h : am_H} {i : Int32} {a : Nat} (ht : am_tc h a = some 0) : am_ev 149 38 ls (.int i :: .ref a :: st) h = if am_ix i (am_len h a) = true then am_ev 149 39 ls (.int (h.1 a i.toNatClampNeg) :: st) h else none := am_u_rI am_my_149 (by decide +kernel) ht
theorem e149_39 {ls : List (Option Value)} {h : am_H} {v : Int32} : am_ev 149 39 ls [.int v] h = some (some (.int v), h) := am_u_rtI am_my_149 (by decide +kernel) rfl
theorem e150_0 {ls : List (Option Value)} {st : List Value} {h : am_H} {a : Nat} : am_ev 150 0 (some (.ref a) :: ls) (st) h = am_ev 150 1 (some (.ref a) :: ls) (.ref a :: st) h := am_ev_step (q := (1, some (.ref a) :: ls, .ref a :: st, h)) _ (.aload_n 0) 1 am_my_150 (by decide +kernel) rfl
theorem e150_1 {ls : List (Option Value)} {st : List Value} {h : am_H} : am_ev 150 1 (ls) (st) h = am_ev 150 3 (ls) (.int (8) :: st) h := am_ev_step (q := (3, ls, .int (8) :: st, h)) _ (.bipush (8)) 2 am_my_150 (by decide +kernel) rfl
theorem e150_3 {ls : List (Option Value)} {st : List Value} {h : am_H} {o : Nat} {v : Int32} (hk : am_kd h o = some (.inl 3)) : am_ev 150 3 ls (.int v :: .ref o :: st) h = am_ev 150 6 ls st (am_sI h o 0 v) := am_u_pfI (idx := 21) (wn := 1055) am_my_150 (by decide +kernel) (by decide +kernel) (by decide +kernel) (by decide +kernel) hk
theorem e150_6 {ls : List (Option Value)} {st : List Value} {h : am_H} {a : Nat} : am_ev 150 6 (some (.ref a) :: ls) (st) h = am_ev 150 7 (some (.ref a) :: ls) (.ref a :: st) h := am_ev_step (q := (7, some (.ref a) :: ls, .ref a :: st, h)) _ (.aload_n 0) 1 am_my_150 (by decide +kernel) rfl
theorem e150_7 {ls : List (Option Value)} {st : List Value} {h : am_H} : am_ev 150 7 (ls) (st) h = am_ev 150 9 (ls) (.int (8) :: st) h := am_ev_step (q := (9, ls, .int (8) :: st, h)) _ (.bipush (8)) 2 am_my_150 (by decide +kernel) rfl
theorem e150_9 {ls : List (Option Value)} {st : List Value} {h : am_H} {o : Nat} {v : Int32} (hk : am_kd h o = some (.inl 3)) : am_ev 150 9 ls (.int v :: .ref o :: st) h = am_ev 150 12 ls st (am_sI h o 1 v) := am_u_pfI (idx := 25) (wn := 1056) am_my_150 (by decide +kernel) (by decide +kernel) (by decide +kernel) (by decide +kernel) hk
theorem e150_12 {ls : List (Option Value)} {st : List Value} {h : am_H} {a : Nat} : am_ev 150 12 (some (.ref a) :: ls) (st) h = am_ev 150 13 (some (.ref a) :: ls) (.ref a :: st) h := am_ev_step (q := (13, some (.ref a) :: ls, .ref a :: st, h)) _ (.aload_n 0) 1 am_my_150 (by decide +kernel) rfl
theorem e150_13 {ls : List (Option Value)} {st : List Value} {h : am_H} : am_ev 150 13 (ls) (st) h = am_ev 150 14 (ls) (.long 0 :: st) h := am_ev_step (q := (14, ls, .long 0 :: st, h)) _ (.lconst 0) 1 am_my_150 (by decide +kernel) rfl
theorem e150_14 {ls : List (Option Value)} {st : List Value} {h : am_H} {o : Nat} {v : Int64} (hk : am_kd h o = some (.inl 3)) : am_ev 150 14 ls (.long v :: .ref o :: st) h = am_ev 150 17 ls st (am_sL h o 6 v) := am_u_pfL (idx := 40) (wn := 1068) am_my_150 (by decide +kernel) (by decide +kernel) (by decide +kernel) (by decide +kernel) hk
theorem e150_17 {ls : List (Option Value)} {st : List Value} {h : am_H} {a : Nat} : am_ev 150 17 (some (.ref a) :: ls) (st) h = am_ev 150 18 (some (.ref a) :: ls) (.ref a :: st) h := am_ev_step (q := (18, some (.ref a) :: ls, .ref a :: st, h)) _ (.aload_n 0) 1 am_my_150 (by decide +kernel) rfl
theorem e150_18 {ls : List (Option Value)} {st : List Value} {h : am_H} : am_ev 150 18 (ls) (st) h = am_ev 150 19 (ls) (.int (-1) :: st) h := am_ev_step (q := (19, ls, .int (-1) :: st, h)) _ (.iconst (-1)) 1 am_my_150 (by decide +kernel) rfl
theorem e150_19 {ls : List (Option Value)} {st : List Value} {h : am_H} {o : Nat} {v : Int32} (hk : am_kd h o = some (.inl 3)) : am_ev 150 19 ls (.int v :: .ref o :: st) h = am_ev 150 22 ls st (am_sI h o 2 v) := am_u_pfI (idx := 28) (wn := 1057) am_my_150 (by decide +kernel) (by decide +kernel) (by decide +kernel) (by decide +kernel) hk
theorem e150_22 {ls : List (Option Value)} {st : List Value} {h : am_H} {a : Nat} : am_ev 150 22 (some (.ref a) :: ls) (st) h = am_ev 150 23 (some (.ref a) :: ls) (.ref a :: st) h := am_ev_step (q := (23, some (.ref a) :: ls, .ref a :: st, h)) _ (.aload_n 0) 1 am_my_150 (by decide +kernel) rfl
theorem e150_23 {ls : List (Option Value)} {st : List Value} {h : am_H} {l0 l1 l2 : Option Value} {a : Int32} : am_ev 150 23 (l0 :: l1 :: l2 :: some (.int a) :: ls) (st) h = am_ev 150 24 (l0 :: l1 :: l2 :: some (.int a) :: ls) (.int a :: st) h := am_ev_step (q := (24, l0 :: l1 :: l2 :: some (.int a) :: ls, .int a :: st, h)) _ (.iload_n 3) 1 am_my_150 (by decide +kernel) rfl
theorem e150_24 {ls : List (Option Value)} {st : List Value} {h : am_H} {o : Nat} {v : Int32} (hk : am_kd h o = some (.inl 3)) : am_ev 150 24 ls (.int v :: .ref o :: st) h = am_ev 150 27 ls st (am_sI h o 3 v) := am_u_pfI (idx := 31) (wn := 1061) am_my_150 (by decide +kernel) (by decide +kernel) (by decide +kernel) (by decide +kernel) hk
theorem e150_27 {ls : List (Option Value)} {st : List Value} {h : am_H} {a : Nat} : am_ev 150 27 (some (.ref a) :: ls) (st) h = am_ev 150 28 (some (.ref a) :: ls) (.ref a :: st) h := am_ev_step (q := (28, some (.ref a) :: ls, .ref a :: st, h)) _ (.aload_n 0) 1 am_my_150 (by decide +kernel) rfl
theorem e150_28 {ls : List (Option Value)} {st : List Value} {h : am_H} {l0 : Option Value} {a : Int32} : am_ev 150 28 (l0 :: some (.int a) :: ls) (st) h = am_ev 150 29 (l0 :: some (.int a) :: ls) (.int a :: st) h := am_ev_step (q := (29, l0 :: some (.int a) :: ls, .int a :: st, h)) _ (.iload_n 1) 1 am_my_150 (by decide +kernel) rfl
theorem e150_29 {ls : List (Option Value)} {st : List Value} {h : am_H} : am_ev 150 29 (ls) (st) h = am_ev 150 31 (ls) (.int (9) :: st) h := am_ev_step (q := (31, ls, .int (9) :: st, h)) _ (.bipush (9)) 2 am_my_150 (by decide +kernel) rfl
theorem e150_31 {ls : List (Option Value)} {st : List Value} {h : am_H} {a b : Int32} : am_ev 150 31 ls (.int b :: .int a :: st) h = if b = 0 then none else am_ev 150 32 ls (.int (a - a / b * b) :: st) h := am_u_iz (i := .irem) (f := fun a b => a - a / b * b) am_my_150 (by decide +kernel) (fun _ => rfl)
theorem e150_32 {ls : List (Option Value)} {st : List Value} {h : am_H} : am_ev 150 32 (ls) (st) h = am_ev 150 33 (ls) (.int (1) :: st) h := am_ev_step (q := (33, ls, .int (1) :: st, h)) _ (.iconst (1)) 1 am_my_150 (by decide +kernel) rfl
theorem e150_33 {ls : List (Option Value)} {st : List Value} {h : am_H} {a b : Int32} : am_ev 150 33 (ls) (.int b :: .int a :: st) h = am_ev 150 34 (ls) (.int (a + b) :: st) h := am_ev_step (q := (34, ls, .int (a + b) :: st, h)) _ (.iadd) 1 am_my_150 (by decide +kernel) rfl
theorem e150_34 {ls : List (Option Value)} {st : List Value} {h : am_H} {o : Nat} {v : Int32} (hk : am_kd h o = some (.inl 3)) : am_ev 150 34 ls (.int v :: .ref o :: st) h = am_ev 150 37 ls st (am_sI h o 4 v) := am_u_pfI (idx := 34) (wn := 1062) am_my_150 (by decide +kernel) (by decide +kernel) (by decide +kernel) (by decide +kernel) hk
theorem e150_37 {ls : List (Option Value)} {st : List Value} {h : am_H} {a : Nat} : am_ev 150 37 (some (.ref a) :: ls) (st) h = am_ev 150 38 (some (.ref a) :: ls) (.ref a :: st) h := am_ev_step (q := (38, some (.ref a) :: ls, .ref a :: st, h)) _ (.aload_n 0) 1 am_my_150 (by decide +kernel) rfl
theorem e150_38 {ls : List (Option Value)} {st : List Value} {h : am_H} : am_ev 150 38 (ls) (st) h = am_ev 150 39 (ls) (.int (1) :: st) h := am_ev_step (q := (39, ls, .int (1) :: st, h)) _ (.iconst (1)) 1 am_my_150 (by decide +kernel) rfl
theorem e150_39 {ls : List (Option Value)} {st : List Value} {h : am_H} {o : Nat} {v : Int32} (hk : am_kd h o = some (.inl 3)) : am_ev 150 39 ls (.int v :: .ref o :: st) h = am_ev 150 42 ls st (am_sI h o 5 v) := am_u_pfI (idx := 37) (wn := 1064) am_my_150 (by decide +kernel) (by decide +kernel) (by decide +kernel) (by decide +kernel) hk
theorem e150_42 {ls : List (Option Value)} {st : List Value} {h : am_H} {a : Nat} : am_ev 150 42 (some (.ref a) :: ls) (st) h = am_ev 150 43 (some (.ref a) :: ls) (.ref a :: st) h := am_ev_step (q := (43, some (.ref a) :: ls, .ref a :: st, h)) _ (.aload_n 0) 1 am_my_150 (by decide +kernel) rfl
theorem e150_43 {ls : List (Option Value)} {st : List Value} {h : am_H} {o : Nat} (hk : am_kd h o = some (.inl 3)) : am_ev 150 43 ls (.ref o :: st) h = am_ev 150 46 ls (va_rf (h.2.2.1 o 7) :: st) h := am_u_gfR (idx := 9) (wn := 1070) (a := 0) am_my_150 (by decide +kernel) (by decide +kernel) (by decide +kernel) hk
theorem e150_46 {ls : List (Option Value)} {st : List Value} {h : am_H} : am_ev 150 46 (ls) (st) h = am_ev 150 47 (ls) (.int (0) :: st) h := am_ev_step (q := (47, ls, .int (0) :: st, h)) _ (.iconst (0)) 1 am_my_150 (by decide +kernel) rfl
theorem e150_47 {ls : List (Option Value)} {st : List Value} {h : am_H} {l0 : Option Value} {a : Int32} : am_ev 150 47 (l0 :: some (.int a) :: ls) (st) h = am_ev 150 48 (l0 :: some (.int a) :: ls) (.int a :: st) h := am_ev_step (q := (48, l0 :: some (.int a) :: ls, .int a :: st, h)) _ (.iload_n 1) 1 am_my_150 (by decide +kernel) rfl
theorem e150_48 {ls : List (Option Value)} {st : List Value} {h : am_H} : am_ev 150 48 (ls) (st) h = am_ev 150 50 (ls) (.int (9) :: st) h := am_ev_step (q := (50, ls, .int (9) :: st, h)) _ (.bipush (9)) 2 am_my_150 (by decide +kernel) rfl
theorem e150_50 {ls : List (Option Value)} {st : List Value} {h : am_H} {a b : Int32} : am_ev 150 50 ls (.int b :: .int a :: st) h = if b = 0 then none else am_ev 150 51 ls (.int (a / b) :: st) h := am_u_iz (i := .idiv) (f := fun a b => a / b) am_my_150 (by decide +kernel) (fun _ => rfl)
theorem e150_51 {ls : List (Option Value)} {st : List Value} {h : am_H} {v i : Int32} {a : Nat} (ht : am_tc h a = some 0) : am_ev 150 51 ls (.int v :: .int i :: .ref a :: st) h = if am_ix i (am_len h a) = true then am_ev 150 52 ls st (am_sI h a i.toNatClampNeg v) else none := am_u_wI am_my_150 (by decide +kernel) ht
theorem e150_52 {ls : List (Option Value)} {st : List Value} {h : am_H} {a : Nat} : am_ev 150 52 (some (.ref a) :: ls) (st) h = am_ev 150 53 (some (.ref a) :: ls) (.ref a :: st) h := am_ev_step (q := (53, some (.ref a) :: ls, .ref a :: st, h)) _ (.aload_n 0) 1 am_my_150 (by decide +kernel) rfl
theorem e150_53 {ls : List (Option Value)} {st : List Value} {h : am_H} {o : Nat} (hk : am_kd h o = some (.inl 3)) : am_ev 150 53 ls (.ref o :: st) h = am_ev 150 56 ls (va_rf (h.2.2.1 o 8) :: st) h := am_u_gfR (idx := 15) (wn := 1072) (a := 0) am_my_150 (by decide +kernel) (by decide +kernel) (by decide +kernel) hk
theorem e150_56 {ls : List (Option Value)} {st : List Value} {h : am_H} : am_ev 150 56 (ls) (st) h = am_ev 150 57 (ls) (.int (0) :: st) h := am_ev_step (q := (57, ls, .int (0) :: st, h)) _ (.iconst (0)) 1 am_my_150 (by decide +kernel) rfl
theorem e150_57 {ls : List (Option Value)} {st : List Value} {h : am_H} {l0 l1 : Option Value} {a : Int32} : am_ev 150 57 (l0 :: l1 :: some (.int a) :: ls) (st) h = am_ev 150 58 (l0 :: l1 :: some (.int a) :: ls) (.int a :: st) h := am_ev_step (q := (58, l0 :: l1 :: some (.int a) :: ls, .int a :: st, h)) _ (.iload_n 2) 1 am_my_150 (by decide +kernel) rfl
theorem e150_58 {ls : List (Option Value)} {st : List Value} {h : am_H} {v i : Int32} {a : Nat} (ht : am_tc h a = some 0) : am_ev 150 58 ls (.int v :: .int i :: .ref a :: st) h = if am_ix i (am_len h a) = true then am_ev 150 59 ls st (am_sI h a i.toNatClampNeg v) else none := am_u_wI am_my_150 (by decide +kernel) ht
theorem e150_59 {ls : List (Option Value)} {h : am_H} : am_ev 150 59 ls [] h = some (none, h) := am_u_rtV am_my_150 (by decide +kernel) rfl
theorem e151_0 {ls : List (Option Value)} {st : List Value} {h : am_H} {a : Nat} : am_ev 151 0 (some (.ref a) :: ls) (st) h = am_ev 151 1 (some (.ref a) :: ls) (.ref a :: st) h := am_ev_step (q := (1, some (.ref a) :: ls, .ref a :: st, h)) _ (.aload_n 0) 1 am_my_151 (by decide +kernel) rfl
theorem e151_1 {ls : List (Option Value)} {st : List Value} {h : am_H} {o : Nat} (hk : am_kd h o = some (.inl 5)) : am_ev 151 1 ls (.ref o :: st) h = am_ev 151 4 ls (va_rf (h.2.2.1 o 1) :: st) h := am_u_gfR (idx := 9) (wn := 1163) (a := 0) am_my_151 (by decide +kernel) (by decide +kernel) (by decide +kernel) hk
theorem e151_4 {ls : List (Option Value)} {st : List Value} {h : am_H} {l0 : Option Value} {a : Int32} : am_ev 151 4 (l0 :: some (.int a) :: ls) (st) h = am_ev 151 5 (l0 :: some (.int a) :: ls) (.int a :: st) h := am_ev_step (q := (5, l0 :: some (.int a) :: ls, .int a :: st, h)) _ (.iload_n 1) 1 am_my_151 (by decide +kernel) rfl
theorem e151_5 {ls : List (Option Value)} {st : List Value} {h : am_H} {i : Int32} {a : Nat} (ht : am_tc h a = some 0) : am_ev 151 5 ls (.int i :: .ref a :: st) h = if am_ix i (am_len h a) = true then am_ev 151 6 ls (.int (h.1 a i.toNatClampNeg) :: st) h else none := am_u_rI am_my_151 (by decide +kernel) ht
theorem e151_6 {ls : List (Option Value)} {st : List Value} {h : am_H} : am_ev 151 6 (ls) (st) h = am_ev 151 7 (ls) (.int (2) :: st) h := am_ev_step (q := (7, ls, .int (2) :: st, h)) _ (.iconst (2)) 1 am_my_151 (by decide +kernel) rfl
theorem e151_7 {ls : List (Option Value)} {st : List Value} {h : am_H} {a b : Int32} : am_ev 151 7 ls (.int b :: .int a :: st) h = if ¬ a = b then am_ev 151 17 ls st h else am_ev 151 10 ls st h := am_u_if2 (c := .ne) (off := 10) am_my_151 (by decide +kernel) (by decide)
theorem e151_10 {ls : List (Option Value)} {st : List Value} {h : am_H} {a : Nat} : am_ev 151 10 (some (.ref a) :: ls) (st) h = am_ev 151 11 (some (.ref a) :: ls) (.ref a :: st) h := am_ev_step (q := (11, some (.ref a) :: ls, .ref a :: st, h)) _ (.aload_n 0) 1 am_my_151 (by decide +kernel) rfl
theorem e151_11 {ls : List (Option Value)} {st : List Value} {h : am_H} {o : Nat} (hk : am_kd h o = some (.inl 5)) : am_ev 151 11 ls (.ref o :: st) h = am_ev 151 14 ls (va_rf (h.2.2.1 o 2) :: st) h := am_u_gfR (idx := 15) (wn := 1164) (a := 0) am_my_151 (by decide +kernel) (by decide +kernel) (by decide +kernel) hk
theorem e151_14 {ls : List (Option Value)} {st : List Value} {h : am_H} {l0 : Option Value} {a : Int32} : am_ev 151 14 (l0 :: some (.int a) :: ls) (st) h = am_ev 151 15 (l0 :: some (.int a) :: ls) (.int a :: st) h := am_ev_step (q := (15, l0 :: some (.int a) :: ls, .int a :: st, h)) _ (.iload_n 1) 1 am_my_151 (by decide +kernel) rfl
theorem e151_15 {ls : List (Option Value)} {st : List Value} {h : am_H} {i : Int32} {a : Nat} (ht : am_tc h a = some 0) : am_ev 151 15 ls (.int i :: .ref a :: st) h = if am_ix i (am_len h a) = true then am_ev 151 16 ls (.int (h.1 a i.toNatClampNeg) :: st) h else none := am_u_rI am_my_151 (by decide +kernel) ht
theorem e151_16 {ls : List (Option Value)} {h : am_H} {v : Int32} : am_ev 151 16 ls [.int v] h = some (some (.int v), h) := am_u_rtI am_my_151 (by decide +kernel) rfl
theorem e151_17 {ls : List (Option Value)} {st : List Value} {h : am_H} {l0 l1 : Option Value} {a : Nat} : am_ev 151 17 (l0 :: l1 :: some (.ref a) :: ls) (st) h = am_ev 151 18 (l0 :: l1 :: some (.ref a) :: ls) (.ref a :: st) h := am_ev_step (q := (18, l0 :: l1 :: some (.ref a) :: ls, .ref a :: st, h)) _ (.aload_n 2) 1 am_my_151 (by decide +kernel) rfl
theorem e151_18 {ls : List (Option Value)} {st : List Value} {h : am_H} {a : Nat} : am_ev 151 18 (some (.ref a) :: ls) (st) h = am_ev 151 19 (some (.ref a) :: ls) (.ref a :: st) h := am_ev_step (q := (19, some (.ref a) :: ls, .ref a :: st, h)) _ (.aload_n 0) 1 am_my_151 (by decide +kernel) rfl
theorem e151_19 {ls : List (Option Value)} {st : List Value} {h : am_H} {o : Nat} (hk : am_kd h o = some (.inl 5)) : am_ev 151 19 ls (.ref o :: st) h = am_ev 151 22 ls (va_rf (h.2.2.1 o 2) :: st) h := am_u_gfR (idx := 15) (wn := 1164) (a := 0) am_my_151 (by decide +kernel) (by decide +kernel) (by decide +kernel) hk
theorem e151_22 {ls : List (Option Value)} {st : List Value} {h : am_H} {l0 : Option Value} {a : Int32} : am_ev 151 22 (l0 :: some (.int a) :: ls) (st) h = am_ev 151 23 (l0 :: some (.int a) :: ls) (.int a :: st) h := am_ev_step (q := (23, l0 :: some (.int a) :: ls, .int a :: st, h)) _ (.iload_n 1) 1 am_my_151 (by decide +kernel) rfl
theorem e151_23 {ls : List (Option Value)} {st : List Value} {h : am_H} {i : Int32} {a : Nat} (ht : am_tc h a = some 0) : am_ev 151 23 ls (.int i :: .ref a :: st) h = if am_ix i (am_len h a) = true then am_ev 151 24 ls (.int (h.1 a i.toNatClampNeg) :: st) h else none := am_u_rI am_my_151 (by decide +kernel) ht
theorem e151_24 {ls : List (Option Value)} {st : List Value} {h : am_H} {a : Nat} : am_ev 151 24 (some (.ref a) :: ls) (st) h = am_ev 151 25 (some (.ref a) :: ls) (.ref a :: st) h := am_ev_step (q := (25, some (.ref a) :: ls, .ref a :: st, h)) _ (.aload_n 0) 1 am_my_151 (by decide +kernel) rfl
theorem e151_25 {ls : List (Option Value)} {st : List Value} {h : am_H} {o : Nat} (hk : am_kd h o = some (.inl 5)) : am_ev 151 25 ls (.ref o :: st) h = am_ev 151 28 ls (va_rf (h.2.2.1 o 4) :: st) h := am_u_gfR (idx := 21) (wn := 1168) (a := 0) am_my_151 (by decide +kernel) (by decide +kernel) (by decide +kernel) hk
theorem e151_28 {ls : List (Option Value)} {st : List Value} {h : am_H} {l0 : Option Value} {a : Int32} : am_ev 151 28 (l0 :: some (.int a) :: ls) (st) h = am_ev 151 29 (l0 :: some (.int a) :: ls) (.int a :: st) h := am_ev_step (q := (29, l0 :: some (.int a) :: ls, .int a :: st, h)) _ (.iload_n 1) 1 am_my_151 (by decide +kernel) rfl
theorem e151_29 {ls : List (Option Value)} {st : List Value} {h : am_H} {i : Int32} {a : Nat} (ht : am_tc h a = some 0) : am_ev 151 29 ls (.int i :: .ref a :: st) h = if am_ix i (am_len h a) = true then am_ev 151 30 ls (.int (h.1 a i.toNatClampNeg) :: st) h else none := am_u_rI am_my_151 (by decide +kernel) ht
theorem e151_30 {ls : List (Option Value)} {st : List Value} {h : am_H} {p0 : Int32} {p1 : Int32} {o : Nat} (hw : am_w8 st ≤ 8) (hk : am_kd h o = some (.inl 3)) : am_ev 151 30 ls (.int p1 :: .int p0 :: .ref o :: st) h = am_bd (am_den 79 [.ref o, .int p0, .int p1] h) (fun v h1 => am_ev 151 33 ls (v.toList ++ st) h1) := am_u_cV (idx := 34) (wn := 5079) (as := [.int p0, .int p1]) am_my_151 (by decide +kernel) (Or.inl (by decide +kernel)) am_my_79 (by decide +kernel) rfl ⟨Nat.le_of_ble_eq_true rfl, rfl⟩ (by decide +kernel) hw hk
theorem e151_33 {ls : List (Option Value)} {st : List Value} {h : am_H} {l0 l1 l2 : Option Value} {z : Option Value} {a : Int32} : am_ev 151 33 (l0 :: l1 :: l2 :: z :: ls) (.int a :: st) h = am_ev 151 34 (l0 :: l1 :: l2 :: some (.int a) :: ls) (st) h := am_ev_step (q := (34, l0 :: l1 :: l2 :: some (.int a) :: ls, st, h)) _ (.istore_n 3) 1 am_my_151 (by decide +kernel) rfl
theorem e151_34 {ls : List (Option Value)} {st : List Value} {h : am_H} {a : Nat} : am_ev 151 34 (some (.ref a) :: ls) (st) h = am_ev 151 35 (some (.ref a) :: ls) (.ref a :: st) h := am_ev_step (q := (35, some (.ref a) :: ls, .ref a :: st, h)) _ (.aload_n 0) 1 am_my_151 (by decide +kernel) rfl
theorem e151_35 {ls : List (Option Value)} {st : List Value} {h : am_H} {o : Nat} (hk : am_kd h o = some (.inl 5)) : am_ev 151 35 ls (.ref o :: st) h = am_ev 151 38 ls (va_rf (h.2.2.1 o 1) :: st) h := am_u_gfR (idx := 9) (wn := 1163) (a := 0) am_my_151 (by decide +kernel) (by decide +kernel) (by decide +kernel) hk
theorem e151_38 {ls : List (Option Value)} {st : List Value} {h : am_H} {l0 : Option Value} {a : Int32} : am_ev 151 38 (l0 :: some (.int a) :: ls) (st) h = am_ev 151 39 (l0 :: some (.int a) :: ls) (.int a :: st) h := am_ev_step (q := (39, l0 :: some (.int a) :: ls, .int a :: st, h)) _ (.iload_n 1) 1 am_my_151 (by decide +kernel) rfl
theorem e151_39 {ls : List (Option Value)} {st : List Value} {h : am_H} {i : Int32} {a : Nat} (ht : am_tc h a = some 0) : am_ev 151 39 ls (.int i :: .ref a :: st) h = if am_ix i (am_len h a) = true then am_ev 151 40 ls (.int (h.1 a i.toNatClampNeg) :: st) h else none := am_u_rI am_my_151 (by decide +kernel) ht
theorem e151_40 {ls : List (Option Value)} {st : List Value} {h : am_H} {a : Int32} : am_ev 151 40 ls (.int a :: st) h = if a = 0 then am_ev 151 48 ls st h else am_ev 151 43 ls st h := am_u_if1 (c := .eq) (off := 8) am_my_151 (by decide +kernel) (by decide)
theorem e151_43 {ls : List (Option Value)} {st : List Value} {h : am_H} {l0 l1 l2 : Option Value} {a : Int32} : am_ev 151 43 (l0 :: l1 :: l2 :: some (.int a) :: ls) (st) h = am_ev 151 44 (l0 :: l1 :: l2 :: some (.int a) :: ls) (.int a :: st) h := am_ev_step (q := (44, l0 :: l1 :: l2 :: some (.int a) :: ls, .int a :: st, h)) _ (.iload_n 3) 1 am_my_151 (by decide +kernel) rfl
theorem e151_44 {ls : List (Option Value)} {st : List Value} {h : am_H} : am_ev 151 44 (ls) (st) h = am_ev 151 45 (ls) (.int (-1) :: st) h := am_ev_step (q := (45, ls, .int (-1) :: st, h)) _ (.iconst (-1)) 1 am_my_151 (by decide +kernel) rfl
theorem e151_45 {ls : List (Option Value)} {st : List Value} {h : am_H} {a b : Int32} : am_ev 151 45 ls (.int b :: .int a :: st) h = if ¬ a = b then am_ev 151 52 ls st h else am_ev 151 48 ls st h := am_u_if2 (c := .ne) (off := 7) am_my_151 (by decide +kernel) (by decide)
theorem e151_48 {ls : List (Option Value)} {st : List Value} {h : am_H} {l0 l1 l2 : Option Value} {a : Int32} : am_ev 151 48 (l0 :: l1 :: l2 :: some (.int a) :: ls) (st) h = am_ev 151 49 (l0 :: l1 :: l2 :: some (.int a) :: ls) (.int a :: st) h := am_ev_step (q := (49, l0 :: l1 :: l2 :: some (.int a) :: ls, .int a :: st, h)) _ (.iload_n 3) 1 am_my_151 (by decide +kernel) rfl
theorem e151_49 {ls : List (Option Value)} {st : List Value} {h : am_H} : am_ev 151 49 (ls) (st) h = am_ev 151 63 (ls) (st) h := am_ev_step (q := (63, ls, st, h)) _ (.goto (14)) 3 am_my_151 (by decide +kernel) rfl
theorem e151_52 {ls : List (Option Value)} {st : List Value} {h : am_H} {l0 l1 : Option Value} {a : Nat} : am_ev 151 52 (l0 :: l1 :: some (.ref a) :: ls) (st) h = am_ev 151 53 (l0 :: l1 :: some (.ref a) :: ls) (.ref a :: st) h := am_ev_step (q := (53, l0 :: l1 :: some (.ref a) :: ls, .ref a :: st, h)) _ (.aload_n 2) 1 am_my_151 (by decide +kernel) rfl
theorem e151_53 {ls : List (Option Value)} {st : List Value} {h : am_H} {l0 l1 l2 : Option Value} {a : Int32} : am_ev 151 53 (l0 :: l1 :: l2 :: some (.int a) :: ls) (st) h = am_ev 151 54 (l0 :: l1 :: l2 :: some (.int a) :: ls) (.int a :: st) h := am_ev_step (q := (54, l0 :: l1 :: l2 :: some (.int a) :: ls, .int a :: st, h)) _ (.iload_n 3) 1 am_my_151 (by decide +kernel) rfl
theorem e151_54 {ls : List (Option Value)} {st : List Value} {h : am_H} {a : Nat} : am_ev 151 54 (some (.ref a) :: ls) (st) h = am_ev 151 55 (some (.ref a) :: ls) (.ref a :: st) h := am_ev_step (q := (55, some (.ref a) :: ls, .ref a :: st, h)) _ (.aload_n 0) 1 am_my_151 (by decide +kernel) rfl
theorem e151_55 {ls : List (Option Value)} {st : List Value} {h : am_H} {o : Nat} (hk : am_kd h o = some (.inl 5)) : am_ev 151 55 ls (.ref o :: st) h = am_ev 151 58 ls (va_rf (h.2.2.1 o 4) :: st) h := am_u_gfR (idx := 21) (wn := 1168) (a := 0) am_my_151 (by decide +kernel) (by decide +kernel) (by decide +kernel) hk
theorem e151_58 {ls : List (Option Value)} {st : List Value} {h : am_H} {l0 : Option Value} {a : Int32} : am_ev 151 58 (l0 :: some (.int a) :: ls) (st) h = am_ev 151 59 (l0 :: some (.int a) :: ls) (.int a :: st) h := am_ev_step (q := (59, l0 :: some (.int a) :: ls, .int a :: st, h)) _ (.iload_n 1) 1 am_my_151 (by decide +kernel) rfl
theorem e151_59 {ls : List (Option Value)} {st : List Value} {h : am_H} {i : Int32} {a : Nat} (ht : am_tc h a = some 0) : am_ev 151 59 ls (.int i :: .ref a :: st) h = if am_ix i (am_len h a) = true then am_ev 151 60 ls (.int (h.1 a i.toNatClampNeg) :: st) h else none := am_u_rI am_my_151 (by decide +kernel) ht
theorem e151_60 {ls : List (Option Value)} {st : List Value} {h : am_H} {p0 : Int32} {p1 : Int32} {o : Nat} (hw : am_w8 st ≤ 8) (hk : am_kd h o = some (.inl 3)) : am_ev 151 60 ls (.int p1 :: .int p0 :: .ref o :: st) h = am_bd (am_den 79 [.ref o, .int p0, .int p1] h) (fun v h1 => am_ev 151 63 ls (v.toList ++ st) h1) := am_u_cV (idx := 34) (wn := 5079) (as := [.int p0, .int p1]) am_my_151 (by decide +kernel) (Or.inl (by decide +kernel)) am_my_79 (by decide +kernel) rfl ⟨Nat.le_of_ble_eq_true rfl, rfl⟩ (by decide +kernel) hw hk
theorem e151_63 {ls : List (Option Value)} {h : am_H} {v : Int32} : am_ev 151 63 ls [.int v] h = some (some (.int v), h) := am_u_rtI am_my_151 (by decide +kernel) rfl
/-- the fell of a log -/
def F_lg (code b d : Nat) : q_Fl := (8, 8, 64, d, code % 9 + 1, 1, 0, fun _ => code / 9, fun _ => b)
theorem F_lg_in (code b d c : Nat) (hc : c < 64) : F_in (F_lg code b d) c := ⟨hc, by show c % 8 < 8; omega, by show c / 8 < 8; omega⟩
theorem F_lg_wf {code : Nat} (hc : code < 36) (b d : Nat) : F_wf (F_lg code b d) := by
  refine ⟨⟨by show 2 ≤ 8; decide, by show 8 ≤ 8; decide⟩, ⟨by show 2 ≤ 8; decide, by show 8 ≤ 8; decide⟩, ?_, by show 1 ≤ 6; decide, Or.inl rfl, fun k _ => ?_⟩
  · show code % 9 + 1 ≤ 9
    omega
  · show code / 9 < 4
    omega
def q_n8 (c d : Nat) : Option Nat := if d = 0 then (if c / 8 = 0 then none else some (c - 8)) else if d = 1 then (if c % 8 + 1 < 8 then some (c + 1) else none) else if d = 2 then (if c / 8 + 1 < 8 then some (c + 8) else none) else (if c % 8 = 0 then none else some (c - 1))
theorem F_lg_wall (code b d c : Nat) : F_wall (F_lg code b d) c = false := by
  show (0 : Int64).toBitVec.getLsbD c = false
  show (0#64).getLsbD c = false
  simp
theorem F_lg_gx (code b d c e : Nat) : F_gx (F_lg code b d) c e = q_n8 c e := rfl
theorem F_lg_nx (code b d c e : Nat) : F_nx (F_lg code b d) c e = q_n8 c e := by
  unfold F_nx
  rw [F_lg_gx]
  cases q_n8 c e with
  | none => rfl
  | some t =>
    show (if F_wall (F_lg code b d) t = true then none else some t) = some t
    rw [F_lg_wall]
    rfl
theorem F_lg_0 (code b d : Nat) (hb : b < 64) (hd : d < 64) : G_in (F_lg code b d) (G_0 (F_lg code b d)) := ⟨F_lg_in code b d d hd, by show 0 < 64; decide, fun _ _ => F_lg_in code b d b hb⟩
def F_end (code b d : Nat) : Nat := G_at (G_go (F_lg code b d) (G_0 (F_lg code b d)) 0) 0
theorem F_end_lt {code b d : Nat} (hc : code < 36) (hb : b < 64) (hd : d < 64) : F_end code b d < 64 := ((G_go_in (F_lg_wf hc b d) (F_lg_0 code b d hb hd) (b := 0) (by show 0 < 1; decide)).2.2 0 (by show 0 < 1; decide)).1
/-- what a minute by a log changes -/
def q_lgw (h h' : am_H) : Prop := h'.2.2.2 = h.2.2.2 ∧ (∀ a k, ¬ (a = 178 ∧ k = 0) → h'.2.2.1 a k = h.2.2.1 a k) ∧ ∀ a k, a < 178 ∨ (183 < a ∧ a < 196) ∨ 198 < a → h'.1 a k = h.1 a k ∧ h'.2.1 a k = h.2.1 a k
theorem q_lgw.rf (h : am_H) : q_lgw h h := ⟨rfl, fun _ _ _ => rfl, fun _ _ _ => ⟨rfl, rfl⟩⟩
theorem q_lgw.tr {h h' h'' : am_H} (a : q_lgw h h') (b : q_lgw h' h'') : q_lgw h h'' := ⟨b.1.trans a.1, fun x k p => (b.2.1 x k p).trans (a.2.1 x k p), fun x k p => ⟨(b.2.2 x k p).1.trans (a.2.2 x k p).1, (b.2.2 x k p).2.trans (a.2.2 x k p).2⟩⟩
theorem q_lgw.ok {h h' : am_H} (f : q_lgw h h') (ok : am_okH h) : am_okH h' := by
  refine ⟨by rw [f.1]; exact ok.1, fun p hp hn => ?_⟩
  rw [f.2.1 _ _ (fun w => hn ?_)]
  · exact ok.2 p hp hn
  · rw [w.1, w.2]
    decide
theorem q_lgw.wk {h h' : am_H} (f : q_lgw h h') (ok : am_okH h) : q_wk h h' := ⟨f.ok ok, by rw [f.1], fun a k w => f.2.2 a k (by unfold q_told at w; omega)⟩
theorem q_fb.lgw {h h' : am_H} (f : q_fb 178 h h') : q_lgw h h' := ⟨f.2.1, f.2.2.1, fun a k w => ⟨f.2.2.2 a k (by omega) (by omega) (by omega), by rw [f.1]⟩⟩
theorem q_lgw.lo {h h' : am_H} (f : q_lgw h h') {o : Nat} (ho : o + 4 < 178) (c : q_lo h o) : q_lo h' o := by
  obtain ⟨c1, c2, c3, c4, c5, c6, c7, c8, c9⟩ := c
  have kd : ∀ a, am_kd h' a = am_kd h a := fun a => by unfold am_kd; rw [f.1]
  exact ⟨by rw [kd]; exact c1, by rw [f.2.1 _ _ (by omega)]; exact c2, by rw [f.2.1 _ _ (by omega)]; exact c3, by rw [f.2.1 _ _ (by omega)]; exact c4, by rw [f.2.1 _ _ (by omega)]; exact c5, by rw [kd]; exact c6, by rw [kd]; exact c7, by rw [kd]; exact c8, by rw [kd]; exact c9⟩
theorem q_lgw.cl {h h' : am_H} (f : q_lgw h h') {o : Nat} (ho : o + 4 < 178) {l : q_Lg} (c : L_cls h.1 o l) : L_cls h'.1 o l := by
  have e : ∀ a k, a < 178 → h'.1 a k = h.1 a k := fun a k ha => (f.2.2 a k (Or.inl ha)).1
  refine ⟨by rw [e _ _ (by omega)]; exact c.1, fun k hk => ?_⟩
  rw [e _ _ (by omega), e _ _ (by omega), e _ _ (by omega), e _ _ (by omega)]
  exact c.2 k hk
theorem q_fo_196 {h : am_H} (ok : am_okH h) : q_fo h 196 := ⟨okK_196 ok, okR_196_7 ok, okR_196_8 ok, okK_197 ok, okK_198 ok⟩
theorem q_d9 {c : Nat} (hc : c < 100) : nI c / 9 = nI (c / 9) ∧ nI c - nI (c / 9) * 9 = nI (c % 9) := by
  have e1 : nI c / 9 = nI (c / 9) := pk_div (d := 9) (by omega) (by decide) (by decide)
  have e2 := pk_rem (a := c) (d := 9) (by omega) (by decide) (by decide)
  rw [show (nI 9 : Int32) = 9 from rfl, e1] at e2
  exact ⟨e1, e2⟩
set_option maxHeartbeats 1000000 in
theorem den_open (h : am_H) (ok : am_okH h) (code b d : Nat) (hc : code < 36) : ∃ h' : am_H, q_lgw h h' ∧ q_cF h' 196 (F_lg code b d) ∧ am_den 150 [.ref 196, .int (nI code), .int (nI b), .int (nI d)] h = some (none, h') := by
  obtain ⟨d1, d2⟩ := q_d9 (c := code) (by omega)
  have n9 : ¬ (9 : Int32) = 0 := by decide
  let g1 : am_H := am_sI (am_sI (am_sI (am_sI (am_sL (am_sI (am_sI h 196 0 8) 196 1 8) 196 6 0) 196 2 (-1)) 196 3 (nI d)) 196 4 (nI (code % 9 + 1))) 196 5 1
  let g2 : am_H := am_sI g1 197 0 (nI (code / 9))
  let g3 : am_H := am_sI g2 198 0 (nI b)
  have ok1 : am_okH g1 := ok
  have ok2 : am_okH g2 := ok
  have r1 : ∀ a k, g1.1 a k = if a = 196 ∧ k = 5 then 1 else if a = 196 ∧ k = 4 then nI (code % 9 + 1) else if a = 196 ∧ k = 3 then nI d else if a = 196 ∧ k = 2 then -1 else if a = 196 ∧ k = 1 then 8 else if a = 196 ∧ k = 0 then 8 else h.1 a k := fun a k => rfl
  have r3 : ∀ a k, g3.1 a k = if a = 198 ∧ k = 0 then nI b else if a = 197 ∧ k = 0 then nI (code / 9) else g1.1 a k := fun a k => rfl
  have rl : ∀ a k, g3.2.1 a k = if a = 196 ∧ k = 6 then 0 else h.2.1 a k := fun a k => rfl
  refine ⟨g3, ⟨rfl, fun _ _ _ => rfl, fun a k w => ⟨?_, ?_⟩⟩, ⟨⟨q_fo_196 (show am_okH g3 from ok), ?_, ?_, ?_, ?_, ?_, ?_, fun k hk => ?_⟩, ?_, fun k hk => ?_⟩, ?_⟩
  · rw [r3, if_neg (by omega), if_neg (by omega), r1, if_neg (by omega), if_neg (by omega), if_neg (by omega), if_neg (by omega), if_neg (by omega), if_neg (by omega)]
  · rw [rl, if_neg (by omega)]
  · rfl
  · rfl
  · rfl
  · rfl
  · rfl
  · rfl
  · obtain rfl : k = 0 := by have : k < 1 := hk; omega
    rfl
  · rfl
  · obtain rfl : k = 0 := by have : k < 1 := hk; omega
    rfl
  · have x : am_ix 0 6 = true := by decide
    have z : (0 : Int32).toNatClampNeg = 0 := rfl
    have s1 : am_ev 150 0 [some (.ref 196), some (.int (nI code)), some (.int (nI b)), some (.int (nI d))] [] h = am_ev 150 42 [some (.ref 196), some (.int (nI code)), some (.int (nI b)), some (.int (nI d))] [] g1 := by
      simp only [e150_0, e150_1, e150_3, e150_6, e150_7, e150_9, e150_12, e150_13, e150_14, e150_17, e150_18, e150_19, e150_22, e150_23, e150_24, e150_27, e150_28, e150_29, e150_31, e150_32, e150_33, e150_34, e150_37, e150_38, e150_39, e150_43, e150_46, e150_47, e150_48, e150_50, e150_51, e150_52, e150_53, e150_56, e150_57, e150_58, e150_59, am_bd_some, Option.toList_some, Option.toList_none, List.cons_append, List.nil_append, am_w8_0, am_w8_1, am_w8_2, am_w8_3, am_w8_4, eq_self, or_true, true_or, am_kd_sI, am_kd_sL, am_kd_sR, am_tc_sI, am_tc_sL, am_tc_sR, am_len_sI, am_len_sL, am_len_sR, am_rfs, if_true, if_false, am_rdL_sI, am_rR_sL, am_rt_cq, am_kd_cq, am_tc_cq, am_len_cq, am_rd_sL, am_rd_sR, am_rdL_sR, okK_196 ok, n9, d1, d2, nI_1]
      rfl
    have s2 : am_ev 150 42 [some (.ref 196), some (.int (nI code)), some (.int (nI b)), some (.int (nI d))] [] g1 = am_ev 150 52 [some (.ref 196), some (.int (nI code)), some (.int (nI b)), some (.int (nI d))] [] g2 := by
      simp only [e150_0, e150_1, e150_3, e150_6, e150_7, e150_9, e150_12, e150_13, e150_14, e150_17, e150_18, e150_19, e150_22, e150_23, e150_24, e150_27, e150_28, e150_29, e150_31, e150_32, e150_33, e150_34, e150_37, e150_38, e150_39, e150_42, e150_43, e150_46, e150_47, e150_48, e150_50, e150_51, e150_53, e150_56, e150_57, e150_58, e150_59, am_bd_some, Option.toList_some, Option.toList_none, List.cons_append, List.nil_append, am_w8_0, am_w8_1, am_w8_2, am_w8_3, am_w8_4, eq_self, or_true, true_or, am_kd_sI, am_kd_sL, am_kd_sR, am_tc_sI, am_tc_sL, am_tc_sR, am_len_sI, am_len_sL, am_len_sR, am_rfs, if_true, if_false, am_rdL_sI, am_rR_sL, am_rt_cq, am_kd_cq, am_tc_cq, am_len_cq, am_rd_sL, am_rd_sR, am_rdL_sR, okK_196 ok1, okR_196_7 ok1, okT_197 ok1, okL_197 ok1, n9, d1, x, z]
      rfl
    show am_ev 150 0 [some (.ref 196), some (.int (nI code)), some (.int (nI b)), some (.int (nI d))] [] h = _
    rw [s1, s2]
    simp only [e150_0, e150_1, e150_3, e150_6, e150_7, e150_9, e150_12, e150_13, e150_14, e150_17, e150_18, e150_19, e150_22, e150_23, e150_24, e150_27, e150_28, e150_29, e150_31, e150_32, e150_33, e150_34, e150_37, e150_38, e150_39, e150_42, e150_43, e150_46, e150_47, e150_48, e150_50, e150_51, e150_52, e150_53, e150_56, e150_57, e150_58, e150_59, am_bd_some, Option.toList_some, Option.toList_none, List.cons_append, List.nil_append, am_w8_0, am_w8_1, am_w8_2, am_w8_3, am_w8_4, eq_self, or_true, true_or, am_kd_sI, am_kd_sL, am_kd_sR, am_tc_sI, am_tc_sL, am_tc_sR, am_len_sI, am_len_sL, am_len_sR, am_rfs, if_true, if_false, am_rdL_sI, am_rR_sL, am_rt_cq, am_kd_cq, am_tc_cq, am_len_cq, am_rd_sL, am_rd_sR, am_rdL_sR, okK_196 ok2, okR_196_8 ok2, okT_198 ok2, okL_198 ok2, x, z]
    rfl
theorem den_cbm (h : am_H) (ok : am_okH h) (code b d : Nat) (hc : code < 36) (hb : b < 64) (hd : d < 64) : ∃ h' : am_H, q_lgw h h' ∧ q_cf h' 196 (F_lg code b d) ∧ am_den 149 [.ref 0, .int (nI code), .int (nI b), .int (nI d)] h = some (some (.int (nI (F_end code b d))), h') := by
  have wf := F_lg_wf hc b d
  have i0 := F_lg_0 code b d hb hd
  have q178 : q_flk 178 := Or.inl rfl
  obtain ⟨h1, f1, c1, s1⟩ := den_open h ok code b d hc
  have ok1 := f1.ok ok
  obtain ⟨h2, f2, g2, s2⟩ := den_begin h1 ok1 178 196 q178 (by decide) _ wf c1
  have ok2 := f2.ok q178 ok1
  obtain ⟨h3, f3, g3, s3⟩ := den_goes h2 178 196 _ _ g2 wf i0 0 (by show 0 < 1; decide)
  have ok3 : am_okH h3 := ok2.of (congrArg Prod.snd f3.1)
  have ea := g3.2.2.2.1 0 (by show 0 < 1; decide)
  rw [nI_0] at s3
  have x : am_ix 0 6 = true := by decide
  have z : (0 : Int32).toNatClampNeg = 0 := rfl
  refine ⟨h3, f1.tr (f2.lgw.tr f3.fb.lgw), g3.2.1, ?_⟩
  show am_ev 149 0 [some (.ref 0), some (.int (nI code)), some (.int (nI b)), some (.int (nI d))] [] h = _
  simp only [e149_0, e149_1, e149_4, e149_5, e149_6, e149_7, e149_10, e149_11, e149_14, e149_15, e149_18, e149_21, e149_22, e149_25, e149_26, e149_29, e149_30, e149_31, e149_34, e149_37, e149_38, e149_39, am_bd_some, Option.toList_some, Option.toList_none, List.cons_append, List.nil_append, am_w8_0, am_w8_1, am_w8_2, am_w8_3, am_w8_4, eq_self, or_true, true_or, am_kd_sI, am_kd_sL, am_kd_sR, am_tc_sI, am_tc_sL, am_tc_sR, am_len_sI, am_len_sL, am_len_sR, am_rfs, if_true, if_false, am_rdL_sI, am_rR_sL, am_rt_cq, am_kd_cq, am_tc_cq, am_len_cq, am_rd_sL, am_rd_sR, am_rdL_sR, okK_0 ok, okR_0_7 ok, okK_196 ok, s1, okK_0 ok1, okR_0_4 ok1, okR_0_7 ok1, okK_178 ok1, s2, okK_0 ok2, okR_0_4 ok2, okK_178 ok2, s3, okK_0 ok3, okR_0_4 ok3, okK_178 ok3, okR_178_3 ok3, okT_182 ok3, okL_182 ok3, x, z, ea]
  rfl
/-- the cell that a fact tells -/
def q_tl (did b d : Nat) : Option Nat := if did = 2 then some b else if did = 0 then q_n8 b d else (match q_n8 b d with
  | none => none
  | some t => q_n8 t d)
theorem q_n8_lt {c d t : Nat} (hc : c < 64) (h : q_n8 c d = some t) : t < 64 := (F_gx_in (F_lg_wf (code := 0) (by decide) 0 0) (F_lg_in 0 0 0 c hc) h).1
theorem den_told (h : am_H) (o : Nat) (l : q_Lg) (f : q_lo h o) (lk : L_ok l) (e : L_cls h.1 o l) (code b d : Nat) (hc : code < 36) (cf : q_cf h 196 (F_lg code b d)) (k : Nat) (hk : k < L_n l) : am_den 151 [.ref o, .int (nI k), .ref 196] h = some (some (.int (q_ov (q_tl (L_did l k) (L_beast l k) (L_dir l k)))), h) := by
  have wf := F_lg_wf hc b d
  obtain ⟨f0, r0, r1, r2, r3, k0, k1, k2, k3⟩ := f
  obtain ⟨n8, lk⟩ := lk
  obtain ⟨e0, e1⟩ := e
  obtain ⟨v0, v1, v2, v3⟩ := e1 k hk
  obtain ⟨w0, w1, w2, w3, w4⟩ := lk k hk
  have x : am_ix (nI k) 8 = true := am_ix_nI (by omega) (by decide)
  have z : (nI k).toNatClampNeg = k := nI_clamp (by omega)
  show am_ev 151 0 [some (.ref o), some (.int (nI k)), some (.ref 196), none] [] h = _
  by_cases c2 : L_did l k = 2
  · have q : q_tl (L_did l k) (L_beast l k) (L_dir l k) = some (L_beast l k) := if_pos c2
    rw [q]
    rw [c2] at v0
    have y2 : nI 2 = 2 := rfl
    simp only [e151_0, e151_1, e151_4, e151_5, e151_6, e151_7, e151_10, e151_11, e151_14, e151_15, e151_16, e151_17, e151_18, e151_19, e151_22, e151_23, e151_24, e151_25, e151_28, e151_29, e151_30, e151_33, e151_34, e151_35, e151_38, e151_39, e151_40, e151_43, e151_44, e151_45, e151_48, e151_49, e151_52, e151_53, e151_54, e151_55, e151_58, e151_59, e151_60, e151_63, am_bd_some, Option.toList_some, Option.toList_none, List.cons_append, List.nil_append, am_w8_0, am_w8_1, am_w8_2, am_w8_3, am_w8_4, eq_self, or_true, true_or, am_kd_sI, am_kd_sL, am_kd_sR, am_tc_sI, am_tc_sL, am_tc_sR, am_len_sI, am_len_sL, am_len_sR, am_rfs, if_true, if_false, am_rdL_sI, am_rR_sL, am_rt_cq, am_kd_cq, am_tc_cq, am_len_cq, am_rd_sL, am_rd_sR, am_rdL_sR, f0, r0, r1, q_tc k0, q_tc k1, q_ln k0, q_ln k1, x, z, v0, v1, y2, not_true, q_ov]
  · have c2' : ¬ nI (L_did l k) = 2 := fun w => c2 ((nI_eq (b := 2) (by omega) (by decide)).mp w)
    have w' : L_way l k = nI (L_dir l k) := if_neg c2
    rw [w'] at v3
    have dn := den_next h 196 _ cf wf (L_beast l k) (L_dir l k) (F_lg_in code b d _ w1) w4
    rw [F_lg_nx] at dn
    by_cases c0 : L_did l k = 0
    · have q : q_tl (L_did l k) (L_beast l k) (L_dir l k) = q_n8 (L_beast l k) (L_dir l k) := by
        unfold q_tl
        rw [if_neg c2, if_pos c0]
      rw [q]
      rw [c0, nI_0] at v0
      have y : ¬ (0 : Int32) = 2 := by decide
      simp only [e151_0, e151_1, e151_4, e151_5, e151_6, e151_7, e151_10, e151_11, e151_14, e151_15, e151_16, e151_17, e151_18, e151_19, e151_22, e151_23, e151_24, e151_25, e151_28, e151_29, e151_30, e151_33, e151_34, e151_35, e151_38, e151_39, e151_40, e151_43, e151_44, e151_45, e151_48, e151_49, e151_52, e151_53, e151_54, e151_55, e151_58, e151_59, e151_60, e151_63, am_bd_some, Option.toList_some, Option.toList_none, List.cons_append, List.nil_append, am_w8_0, am_w8_1, am_w8_2, am_w8_3, am_w8_4, eq_self, or_true, true_or, am_kd_sI, am_kd_sL, am_kd_sR, am_tc_sI, am_tc_sL, am_tc_sR, am_len_sI, am_len_sL, am_len_sR, am_rfs, if_true, if_false, am_rdL_sI, am_rR_sL, am_rt_cq, am_kd_cq, am_tc_cq, am_len_cq, am_rd_sL, am_rd_sR, am_rdL_sR, f0, r0, r1, r3, q_tc k0, q_tc k1, q_tc k3, q_ln k0, q_ln k1, q_ln k3, x, z, v0, v1, v3, y, not_false_eq_true, cf.1.1, dn]
    · have c0' : ¬ nI (L_did l k) = 0 := nI_ne0 (by omega) (by omega)
      cases hn : q_n8 (L_beast l k) (L_dir l k) with
      | none =>
        have q : q_tl (L_did l k) (L_beast l k) (L_dir l k) = none := by
          unfold q_tl
          rw [if_neg c2, if_neg c0, hn]
        rw [q]
        rw [hn] at dn
        have y : q_ov none = -1 := rfl
        simp only [e151_0, e151_1, e151_4, e151_5, e151_6, e151_7, e151_10, e151_11, e151_14, e151_15, e151_16, e151_17, e151_18, e151_19, e151_22, e151_23, e151_24, e151_25, e151_28, e151_29, e151_30, e151_33, e151_34, e151_35, e151_38, e151_39, e151_40, e151_43, e151_44, e151_45, e151_48, e151_49, e151_52, e151_53, e151_54, e151_55, e151_58, e151_59, e151_60, e151_63, am_bd_some, Option.toList_some, Option.toList_none, List.cons_append, List.nil_append, am_w8_0, am_w8_1, am_w8_2, am_w8_3, am_w8_4, eq_self, or_true, true_or, am_kd_sI, am_kd_sL, am_kd_sR, am_tc_sI, am_tc_sL, am_tc_sR, am_len_sI, am_len_sL, am_len_sR, am_rfs, if_true, if_false, am_rdL_sI, am_rR_sL, am_rt_cq, am_kd_cq, am_tc_cq, am_len_cq, am_rd_sL, am_rd_sR, am_rdL_sR, f0, r0, r1, r3, q_tc k0, q_tc k1, q_tc k3, q_ln k0, q_ln k1, q_ln k3, x, z, v0, v1, v3, c2', c0', not_false_eq_true, cf.1.1, dn, y, not_true]
      | some t =>
        have q : q_tl (L_did l k) (L_beast l k) (L_dir l k) = q_n8 t (L_dir l k) := by
          unfold q_tl
          rw [if_neg c2, if_neg c0, hn]
        rw [q]
        rw [hn] at dn
        have tl := q_n8_lt w1 hn
        have dn2 := den_next h 196 _ cf wf t (L_dir l k) (F_lg_in code b d _ tl) w4
        rw [F_lg_nx] at dn2
        have y : q_ov (some t) = nI t := rfl
        have y2 : ¬ nI t = -1 := q_m1_n t (by omega)
        simp only [e151_0, e151_1, e151_4, e151_5, e151_6, e151_7, e151_10, e151_11, e151_14, e151_15, e151_16, e151_17, e151_18, e151_19, e151_22, e151_23, e151_24, e151_25, e151_28, e151_29, e151_30, e151_33, e151_34, e151_35, e151_38, e151_39, e151_40, e151_43, e151_44, e151_45, e151_48, e151_49, e151_52, e151_53, e151_54, e151_55, e151_58, e151_59, e151_60, e151_63, am_bd_some, Option.toList_some, Option.toList_none, List.cons_append, List.nil_append, am_w8_0, am_w8_1, am_w8_2, am_w8_3, am_w8_4, eq_self, or_true, true_or, am_kd_sI, am_kd_sL, am_kd_sR, am_tc_sI, am_tc_sL, am_tc_sR, am_len_sI, am_len_sL, am_len_sR, am_rfs, if_true, if_false, am_rdL_sI, am_rR_sL, am_rt_cq, am_kd_cq, am_tc_cq, am_len_cq, am_rd_sL, am_rd_sR, am_rdL_sR, f0, r0, r1, r3, q_tc k0, q_tc k1, q_tc k3, q_ln k0, q_ln k1, q_ln k3, x, z, v0, v1, v3, c2', c0', not_false_eq_true, cf.1.1, dn, y, y2, dn2]
def L_so (l : q_Lg) (code k : Nat) : Bool := decide (q_tl (L_did l k) (L_beast l k) (L_dir l k) = some (F_end code (L_beast l k) (L_dog l k)))
def q_allB (P : Nat → Bool) : Nat → Nat → Bool
  | 0, _ => true
  | r + 1, i => P i && q_allB P r (i + 1)
def L_fit (l : q_Lg) (code : Nat) : Bool := q_allB (L_so l code) (L_n l) 0
theorem q_tl_lt {did b d t : Nat} (hb : b < 64) (h : q_tl did b d = some t) : t < 64 := by
  unfold q_tl at h
  split at h
  · cases h; exact hb
  · split at h
    · exact q_n8_lt hb h
    · split at h
      · cases h
      · rename_i u hu
        exact q_n8_lt (q_n8_lt hb hu) h
theorem q_fe_l (o : Nat) (ho : o + 4 < 178) (l : q_Lg) (lk : L_ok l) (code : Nat) (hc : code < 36) : ∀ (r k : Nat) (h : am_H), k + r = L_n l → am_okH h → q_lo h o → L_cls h.1 o l → ∃ h' : am_H, q_lgw h h' ∧ am_ev 148 2 [some (.ref 0), some (.ref o), some (.int (nI code)), some (.int (nI k))] [] h = some (some (.int (q_bi (q_allB (L_so l code) r k))), h') := by
  have n8 := lk.1
  intro r
  induction r with
  | zero =>
    intro k h hk ok lo cl
    have h1 : nI (L_n l) ≤ nI k := nI_le (by omega) (by omega)
    refine ⟨h, q_lgw.rf h, ?_⟩
    rw [e148_2]
    simp only [e148_0, e148_1, e148_3, e148_4, e148_7, e148_10, e148_11, e148_12, e148_13, e148_16, e148_17, e148_18, e148_19, e148_22, e148_23, e148_24, e148_27, e148_28, e148_29, e148_30, e148_33, e148_36, e148_39, e148_40, e148_41, e148_44, e148_47, e148_48, am_bd_some, Option.toList_some, Option.toList_none, List.cons_append, List.nil_append, am_w8_0, am_w8_1, am_w8_2, am_w8_3, am_w8_4, eq_self, or_true, true_or, am_kd_sI, am_kd_sL, am_kd_sR, am_tc_sI, am_tc_sL, am_tc_sR, am_len_sI, am_len_sL, am_len_sR, am_rfs, if_true, if_false, am_rdL_sI, am_rR_sL, am_rt_cq, am_kd_cq, am_tc_cq, am_len_cq, am_rd_sL, am_rd_sR, am_rdL_sR, lo.1, cl.1, h1, q_allB]
    rfl
  | succ r ih =>
    intro k h hk ok lo cl
    have h1 : ¬ nI (L_n l) ≤ nI k := nI_ge (by omega) (by omega)
    have x : am_ix (nI k) 8 = true := am_ix_nI (by omega) (by decide)
    have z : (nI k).toNatClampNeg = k := nI_clamp (by omega)
    obtain ⟨v0, v1, v2, v3⟩ := cl.2 k (by omega)
    obtain ⟨w0, w1, w2, w3, w4⟩ := lk.2 k (by omega)
    obtain ⟨g0, r0, r1, r2, r3, k0, k1, k2, k3⟩ := lo
    obtain ⟨ha, fa, ca, sa⟩ := den_cbm h ok code (L_beast l k) (L_dog l k) hc w1 w2
    have oka := fa.ok ok
    have loa := fa.lo ho (show q_lo h o from ⟨g0, r0, r1, r2, r3, k0, k1, k2, k3⟩)
    have cla := fa.cl ho cl
    have dt := den_told ha o l loa lk cla code _ _ hc ca k (by omega)
    have el := F_end_lt hc w1 w2
    have ce : nI (F_end code (L_beast l k) (L_dog l k)) = q_ov (q_tl (L_did l k) (L_beast l k) (L_dir l k)) ↔ L_so l code k = true := by
      unfold L_so
      rw [decide_eq_true_eq]
      cases ht : q_tl (L_did l k) (L_beast l k) (L_dir l k) with
      | none =>
        exact ⟨fun w => absurd w (q_m1_n _ (by omega)), fun w => by cases w⟩
      | some t =>
        have tl := q_tl_lt w1 ht
        show nI _ = nI t ↔ _
        rw [nI_eq (by omega) (by omega)]
        exact ⟨fun w => by rw [w], fun w => (Option.some.inj w).symm⟩
    rw [e148_2, q_allB]
    cases hs : L_so l code k with
    | false =>
      have c' : ¬ nI (F_end code (L_beast l k) (L_dog l k)) = q_ov (q_tl (L_did l k) (L_beast l k) (L_dir l k)) := fun w => by rw [ce.mp w] at hs; cases hs
      refine ⟨ha, fa, ?_⟩
      simp only [e148_0, e148_1, e148_3, e148_4, e148_7, e148_10, e148_11, e148_12, e148_13, e148_16, e148_17, e148_18, e148_19, e148_22, e148_23, e148_24, e148_27, e148_28, e148_29, e148_30, e148_33, e148_36, e148_39, e148_40, e148_41, e148_44, e148_47, e148_48, am_bd_some, Option.toList_some, Option.toList_none, List.cons_append, List.nil_append, am_w8_0, am_w8_1, am_w8_2, am_w8_3, am_w8_4, eq_self, or_true, true_or, am_kd_sI, am_kd_sL, am_kd_sR, am_tc_sI, am_tc_sL, am_tc_sR, am_len_sI, am_len_sL, am_len_sR, am_rfs, if_true, if_false, am_rdL_sI, am_rR_sL, am_rt_cq, am_kd_cq, am_tc_cq, am_len_cq, am_rd_sL, am_rd_sR, am_rdL_sR, g0, r1, r2, q_tc k1, q_tc k2, q_ln k1, q_ln k2, cl.1, h1, x, z, v1, v2, okK_0 ok, sa, okK_0 oka, okR_0_7 oka, loa.1, dt, c', Bool.false_and]
      rfl
    | true =>
      have c' := eq_true (ce.mpr hs)
      obtain ⟨h2, f2, s2⟩ := ih (k + 1) ha (by omega) oka loa cla
      refine ⟨h2, fa.tr f2, ?_⟩
      simp only [e148_0, e148_1, e148_3, e148_4, e148_7, e148_10, e148_11, e148_12, e148_13, e148_16, e148_17, e148_18, e148_19, e148_22, e148_23, e148_24, e148_27, e148_28, e148_29, e148_30, e148_33, e148_36, e148_39, e148_40, e148_41, e148_44, e148_47, e148_48, am_bd_some, Option.toList_some, Option.toList_none, List.cons_append, List.nil_append, am_w8_0, am_w8_1, am_w8_2, am_w8_3, am_w8_4, eq_self, or_true, true_or, am_kd_sI, am_kd_sL, am_kd_sR, am_tc_sI, am_tc_sL, am_tc_sR, am_len_sI, am_len_sL, am_len_sR, am_rfs, if_true, if_false, am_rdL_sI, am_rR_sL, am_rt_cq, am_kd_cq, am_tc_cq, am_len_cq, am_rd_sL, am_rd_sR, am_rdL_sR, g0, r1, r2, q_tc k1, q_tc k2, q_ln k1, q_ln k2, cl.1, h1, x, z, v1, v2, okK_0 ok, sa, okK_0 oka, okR_0_7 oka, loa.1, dt, c', Bool.true_and, nI_1]
      exact s2
/-- the numbers below n that have a property, as bits -/
def q_msk (P : Nat → Bool) : Nat → Nat
  | 0 => 0
  | n + 1 => if P n = true then q_msk P n ||| 2 ^ n else q_msk P n
theorem q_msk_tb (P : Nat → Bool) : ∀ n c, (q_msk P n).testBit c = (decide (c < n) && P c) := by
  intro n
  induction n with
  | zero => intro c; simp [q_msk]
  | succ n ih =>
    intro c
    rw [q_msk]
    by_cases h : P n = true
    · rw [if_pos h, Nat.testBit_or, ih, Nat.testBit_two_pow]
      by_cases e : c = n
      · subst e; simp [h]
      · have e2 : decide (n = c) = false := decide_eq_false (fun w => e w.symm)
        rw [e2]
        have e3 : decide (c < n + 1) = decide (c < n) := decide_eq_decide.mpr ⟨fun w => by omega, fun w => by omega⟩
        rw [e3, Bool.or_false]
    · rw [if_neg h, ih]
      by_cases e : c = n
      · subst e
        have : P c = false := by cases hh : P c <;> simp_all
        simp [this]
      · have e3 : decide (c < n + 1) = decide (c < n) := decide_eq_decide.mpr ⟨fun w => by omega, fun w => by omega⟩
        rw [e3]
theorem q_msk_lt (P : Nat → Bool) : ∀ n, q_msk P n < 2 ^ n := by
  intro n
  induction n with
  | zero => show 0 < 1; decide
  | succ n ih =>
    rw [q_msk]
    have h2 : (2 : Nat) ^ n < 2 ^ (n + 1) := Nat.pow_lt_pow_right (by decide) (by omega)
    split
    · exact Nat.or_lt_two_pow (by omega) h2
    · omega
theorem q_shl1L : ∀ c, c < 36 → ((1 : Int64) <<< ((nI c).toInt64 &&& 63) = lN (2 ^ c)) := by decide +kernel
theorem q_fi_l (o : Nat) (ho : o + 4 < 178) (l : q_Lg) (lk : L_ok l) : ∀ (r c : Nat) (h : am_H), c + r = 36 → am_okH h → q_lo h o → L_cls h.1 o l → ∃ h' : am_H, q_lgw h h' ∧ am_ev 147 5 [some (.ref 0), some (.ref o), some (.long (lN (q_msk (L_fit l) c))), some (.retAddr 0), some (.int (nI c))] [] h = some (some (.long (lN (q_msk (L_fit l) 36))), h') := by
  intro r
  induction r with
  | zero =>
    intro c h hc ok lo cl
    obtain rfl : c = 36 := by omega
    have h1 : (36 : Int32) ≤ nI 36 := by decide
    refine ⟨h, q_lgw.rf h, ?_⟩
    rw [e147_5]
    simp only [e147_0, e147_1, e147_2, e147_3, e147_7, e147_9, e147_12, e147_13, e147_14, e147_16, e147_19, e147_22, e147_23, e147_24, e147_26, e147_27, e147_28, e147_29, e147_32, e147_35, e147_36, am_bd_some, Option.toList_some, Option.toList_none, List.cons_append, List.nil_append, am_w8_0, am_w8_1, am_w8_2, am_w8_3, am_w8_4, eq_self, or_true, true_or, am_kd_sI, am_kd_sL, am_kd_sR, am_tc_sI, am_tc_sL, am_tc_sR, am_len_sI, am_len_sL, am_len_sR, am_rfs, if_true, if_false, am_rdL_sI, am_rR_sL, am_rt_cq, am_kd_cq, am_tc_cq, am_len_cq, am_rd_sL, am_rd_sR, am_rdL_sR, h1]
  | succ r ih =>
    intro c h hc ok lo cl
    have h1 : ¬ (36 : Int32) ≤ nI c := fun w => nI_ge (b := 36) (a := c) (by omega) (by decide) w
    obtain ⟨ha, fa, sa⟩ := q_fe_l o ho l lk c (by omega) (L_n l) 0 h (by omega) ok lo cl
    have oka := fa.ok ok
    have loa := fa.lo ho lo
    have cla := fa.cl ho cl
    have se : am_den 148 [.ref 0, .ref o, .int (nI c)] h = some (some (.int (q_bi (L_fit l c))), ha) := by
      show am_ev 148 0 [some (.ref 0), some (.ref o), some (.int (nI c)), none] [] h = _
      rw [nI_0] at sa
      simp only [e148_0, e148_1, e148_3, e148_4, e148_7, e148_10, e148_11, e148_12, e148_13, e148_16, e148_17, e148_18, e148_19, e148_22, e148_23, e148_24, e148_27, e148_28, e148_29, e148_30, e148_33, e148_36, e148_39, e148_40, e148_41, e148_44, e148_47, e148_48, am_bd_some, Option.toList_some, Option.toList_none, List.cons_append, List.nil_append, am_w8_0, am_w8_1, am_w8_2, am_w8_3, am_w8_4, eq_self, or_true, true_or, am_kd_sI, am_kd_sL, am_kd_sR, am_tc_sI, am_tc_sL, am_tc_sR, am_len_sI, am_len_sL, am_len_sR, am_rfs, if_true, if_false, am_rdL_sI, am_rR_sL, am_rt_cq, am_kd_cq, am_tc_cq, am_len_cq, am_rd_sL, am_rd_sR, am_rdL_sR]
      exact sa
    obtain ⟨h2, f2, s2⟩ := ih (c + 1) ha (by omega) oka loa cla
    have sh := q_shl1L c (by omega)
    refine ⟨h2, fa.tr f2, ?_⟩
    rw [e147_5]
    rw [q_msk] at s2
    cases hf : L_fit l c with
    | true =>
      rw [hf] at se
      rw [hf, if_pos rfl] at s2
      have y : ¬ q_bi true = 0 := by decide
      simp only [e147_0, e147_1, e147_2, e147_3, e147_7, e147_9, e147_12, e147_13, e147_14, e147_16, e147_19, e147_22, e147_23, e147_24, e147_26, e147_27, e147_28, e147_29, e147_32, e147_35, e147_36, am_bd_some, Option.toList_some, Option.toList_none, List.cons_append, List.nil_append, am_w8_0, am_w8_1, am_w8_2, am_w8_3, am_w8_4, eq_self, or_true, true_or, am_kd_sI, am_kd_sL, am_kd_sR, am_tc_sI, am_tc_sL, am_tc_sR, am_len_sI, am_len_sL, am_len_sR, am_rfs, if_true, if_false, am_rdL_sI, am_rR_sL, am_rt_cq, am_kd_cq, am_tc_cq, am_len_cq, am_rd_sL, am_rd_sR, am_rdL_sR, h1, okK_0 ok, se, y, sh, q_orL, nI_1]
      exact s2
    | false =>
      rw [hf] at se
      rw [hf, if_neg (by decide)] at s2
      have y : q_bi false = 0 := rfl
      simp only [e147_0, e147_1, e147_2, e147_3, e147_7, e147_9, e147_12, e147_13, e147_14, e147_16, e147_19, e147_22, e147_23, e147_24, e147_26, e147_27, e147_28, e147_29, e147_32, e147_35, e147_36, am_bd_some, Option.toList_some, Option.toList_none, List.cons_append, List.nil_append, am_w8_0, am_w8_1, am_w8_2, am_w8_3, am_w8_4, eq_self, or_true, true_or, am_kd_sI, am_kd_sL, am_kd_sR, am_tc_sI, am_tc_sL, am_tc_sR, am_len_sI, am_len_sL, am_len_sR, am_rfs, if_true, if_false, am_rdL_sI, am_rR_sL, am_rt_cq, am_kd_cq, am_tc_cq, am_len_cq, am_rd_sL, am_rd_sR, am_rdL_sR, h1, okK_0 ok, se, y, nI_1]
      exact s2
theorem den_fitting (o : Nat) (ho : o + 4 < 178) (l : q_Lg) (lk : L_ok l) (h : am_H) (ok : am_okH h) (lo : q_lo h o) (cl : L_cls h.1 o l) : ∃ h' : am_H, q_lgw h h' ∧ am_den 147 [.ref 0, .ref o] h = some (some (.long (lN (q_msk (L_fit l) 36))), h') := by
  obtain ⟨h1, f1, s1⟩ := q_fi_l o ho l lk 36 0 h (by omega) ok lo cl
  refine ⟨h1, f1, ?_⟩
  have e : lN (q_msk (L_fit l) 0) = 0 := rfl
  rw [e, nI_0] at s1
  show am_ev 147 0 [some (.ref 0), some (.ref o), none, none, none] [] h = _
  simp only [e147_0, e147_1, e147_2, e147_3, e147_7, e147_9, e147_12, e147_13, e147_14, e147_16, e147_19, e147_22, e147_23, e147_24, e147_26, e147_27, e147_28, e147_29, e147_32, e147_35, e147_36, am_bd_some, Option.toList_some, Option.toList_none, List.cons_append, List.nil_append, am_w8_0, am_w8_1, am_w8_2, am_w8_3, am_w8_4, eq_self, or_true, true_or, am_kd_sI, am_kd_sL, am_kd_sR, am_tc_sI, am_tc_sL, am_tc_sR, am_len_sI, am_len_sL, am_len_sR, am_rfs, if_true, if_false, am_rdL_sI, am_rR_sL, am_rt_cq, am_kd_cq, am_tc_cq, am_len_cq, am_rd_sL, am_rd_sR, am_rdL_sR]
  exact s1
