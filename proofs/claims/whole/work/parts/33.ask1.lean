/-! part 33: whistle -/
theorem e17_0 {ls : List (Option Value)} {st : List Value} {h : am_H} {l0 l1 : Option Value} {a : Int32} : am_ev 17 0 (l0 :: l1 :: some (.int a) :: ls) (st) h = am_ev 17 1 (l0 :: l1 :: some (.int a) :: ls) (.int a :: st) h := am_ev_step (q := (1, l0 :: l1 :: some (.int a) :: ls, .int a :: st, h)) _ (.iload_n 2) 1 am_my_17 (by decide +kernel) rfl
theorem e17_1 {ls : List (Option Value)} {st : List Value} {h : am_H} {a : Int32} : am_ev 17 1 ls (.int a :: st) h = if a < 0 then am_ev 17 18 ls st h else am_ev 17 4 ls st h := am_u_if1 (c := .lt) (off := 17) am_my_17 (by decide +kernel) (by decide)
theorem e17_4 {ls : List (Option Value)} {st : List Value} {h : am_H} {l0 l1 : Option Value} {a : Int32} : am_ev 17 4 (l0 :: l1 :: some (.int a) :: ls) (st) h = am_ev 17 5 (l0 :: l1 :: some (.int a) :: ls) (.int a :: st) h := am_ev_step (q := (5, l0 :: l1 :: some (.int a) :: ls, .int a :: st, h)) _ (.iload_n 2) 1 am_my_17 (by decide +kernel) rfl
theorem e17_5 {ls : List (Option Value)} {st : List Value} {h : am_H} {a : Nat} : am_ev 17 5 (some (.ref a) :: ls) (st) h = am_ev 17 6 (some (.ref a) :: ls) (.ref a :: st) h := am_ev_step (q := (6, some (.ref a) :: ls, .ref a :: st, h)) _ (.aload_n 0) 1 am_my_17 (by decide +kernel) rfl
theorem e17_6 {ls : List (Option Value)} {st : List Value} {h : am_H} {o : Nat} (hk : am_kd h o = some (.inl 8)) : am_ev 17 6 ls (.ref o :: st) h = am_ev 17 9 ls (va_rf (h.2.2.1 o 4) :: st) h := am_u_gfR (idx := 19) (wn := 1188) (a := 0) am_my_17 (by decide +kernel) (by decide +kernel) (by decide +kernel) hk
theorem e17_9 {ls : List (Option Value)} {st : List Value} {h : am_H} {l0 : Option Value} {a : Int32} : am_ev 17 9 (l0 :: some (.int a) :: ls) (st) h = am_ev 17 10 (l0 :: some (.int a) :: ls) (.int a :: st) h := am_ev_step (q := (10, l0 :: some (.int a) :: ls, .int a :: st, h)) _ (.iload_n 1) 1 am_my_17 (by decide +kernel) rfl
theorem e17_10 {ls : List (Option Value)} {st : List Value} {h : am_H} {i : Int32} {a : Nat} (ht : am_tc h a = some 0) : am_ev 17 10 ls (.int i :: .ref a :: st) h = if am_ix i (am_len h a) = true then am_ev 17 11 ls (.int (h.1 a i.toNatClampNeg) :: st) h else none := am_u_rI am_my_17 (by decide +kernel) ht
theorem e17_11 {ls : List (Option Value)} {st : List Value} {h : am_H} {a b : Int32} : am_ev 17 11 ls (.int b :: .int a :: st) h = if b ≤ a then am_ev 17 18 ls st h else am_ev 17 14 ls st h := am_u_if2 (c := .ge) (off := 7) am_my_17 (by decide +kernel) (by decide)
theorem e17_14 {ls : List (Option Value)} {st : List Value} {h : am_H} : am_ev 17 14 (ls) (st) h = am_ev 17 15 (ls) (.int (1) :: st) h := am_ev_step (q := (15, ls, .int (1) :: st, h)) _ (.iconst (1)) 1 am_my_17 (by decide +kernel) rfl
theorem e17_15 {ls : List (Option Value)} {st : List Value} {h : am_H} : am_ev 17 15 (ls) (st) h = am_ev 17 19 (ls) (st) h := am_ev_step (q := (19, ls, st, h)) _ (.goto (4)) 3 am_my_17 (by decide +kernel) rfl
theorem e17_18 {ls : List (Option Value)} {st : List Value} {h : am_H} : am_ev 17 18 (ls) (st) h = am_ev 17 19 (ls) (.int (0) :: st) h := am_ev_step (q := (19, ls, .int (0) :: st, h)) _ (.iconst (0)) 1 am_my_17 (by decide +kernel) rfl
theorem e17_19 {ls : List (Option Value)} {h : am_H} {v : Int32} (hv : v = 0 ∨ v = 1) : am_ev 17 19 ls [.int v] h = some (some (.int v), h) := am_u_rtZ am_my_17 (by decide +kernel) rfl hv
theorem e111_0 {ls : List (Option Value)} {st : List Value} {h : am_H} {a : Nat} : am_ev 111 0 (some (.ref a) :: ls) (st) h = am_ev 111 1 (some (.ref a) :: ls) (.ref a :: st) h := am_ev_step (q := (1, some (.ref a) :: ls, .ref a :: st, h)) _ (.aload_n 0) 1 am_my_111 (by decide +kernel) rfl
theorem e111_1 {ls : List (Option Value)} {st : List Value} {h : am_H} {o : Nat} (hk : am_kd h o = some (.inl 10)) : am_ev 111 1 ls (.ref o :: st) h = am_ev 111 4 ls (va_rf (h.2.2.1 o 0) :: st) h := am_u_gfR (idx := 10) (wn := 2146) (a := 0) am_my_111 (by decide +kernel) (by decide +kernel) (by decide +kernel) hk
theorem e111_4 {ls : List (Option Value)} {st : List Value} {h : am_H} : am_ev 111 4 (ls) (st) h = am_ev 111 5 (ls) (.int (1) :: st) h := am_ev_step (q := (5, ls, .int (1) :: st, h)) _ (.iconst (1)) 1 am_my_111 (by decide +kernel) rfl
theorem e111_5 {ls : List (Option Value)} {st : List Value} {h : am_H} {l0 : Option Value} {a : Int32} : am_ev 111 5 (l0 :: some (.int a) :: ls) (st) h = am_ev 111 6 (l0 :: some (.int a) :: ls) (.int a :: st) h := am_ev_step (q := (6, l0 :: some (.int a) :: ls, .int a :: st, h)) _ (.iload_n 1) 1 am_my_111 (by decide +kernel) rfl
theorem e111_6 {ls : List (Option Value)} {st : List Value} {h : am_H} {p0 : Int32} {p1 : Int32} {o : Nat} (hw : am_w8 st ≤ 8) (hk : am_kd h o = some (.inl 8)) : am_ev 111 6 ls (.int p1 :: .int p0 :: .ref o :: st) h = am_bd (am_den 17 [.ref o, .int p0, .int p1] h) (fun v h1 => am_ev 111 9 ls (v.toList ++ st) h1) := am_u_cV (idx := 108) (wn := 2200) (as := [.int p0, .int p1]) am_my_111 (by decide +kernel) (Or.inl (by decide +kernel)) am_my_17 (by decide +kernel) rfl ⟨Nat.le_of_ble_eq_true rfl, rfl⟩ (by decide +kernel) hw hk
theorem e111_9 {ls : List (Option Value)} {st : List Value} {h : am_H} {a : Int32} : am_ev 111 9 ls (.int a :: st) h = if a = 0 then am_ev 111 29 ls st h else am_ev 111 12 ls st h := am_u_if1 (c := .eq) (off := 20) am_my_111 (by decide +kernel) (by decide)
theorem e111_12 {ls : List (Option Value)} {st : List Value} {h : am_H} {a : Nat} : am_ev 111 12 (some (.ref a) :: ls) (st) h = am_ev 111 13 (some (.ref a) :: ls) (.ref a :: st) h := am_ev_step (q := (13, some (.ref a) :: ls, .ref a :: st, h)) _ (.aload_n 0) 1 am_my_111 (by decide +kernel) rfl
theorem e111_13 {ls : List (Option Value)} {st : List Value} {h : am_H} {o : Nat} (hk : am_kd h o = some (.inl 10)) : am_ev 111 13 ls (.ref o :: st) h = am_ev 111 16 ls (va_rf (h.2.2.1 o 0) :: st) h := am_u_gfR (idx := 10) (wn := 2146) (a := 0) am_my_111 (by decide +kernel) (by decide +kernel) (by decide +kernel) hk
theorem e111_16 {ls : List (Option Value)} {st : List Value} {h : am_H} {o : Nat} (hk : am_kd h o = some (.inl 8)) : am_ev 111 16 ls (.ref o :: st) h = am_ev 111 19 ls (va_rf (h.2.2.1 o 6) :: st) h := am_u_gfR (idx := 230) (wn := 1193) (a := 0) am_my_111 (by decide +kernel) (by decide +kernel) (by decide +kernel) hk
theorem e111_19 {ls : List (Option Value)} {st : List Value} {h : am_H} {l0 : Option Value} {a : Int32} : am_ev 111 19 (l0 :: some (.int a) :: ls) (st) h = am_ev 111 20 (l0 :: some (.int a) :: ls) (.int a :: st) h := am_ev_step (q := (20, l0 :: some (.int a) :: ls, .int a :: st, h)) _ (.iload_n 1) 1 am_my_111 (by decide +kernel) rfl
theorem e111_20f {ls : List (Option Value)} {st : List Value} {h : am_H} {i : Int32} {a : Nat} (ht : am_tc h a = some 4) : am_ev 111 20 ls (.int i :: .ref a :: st) h = if am_ix i (am_len h a) = true then am_ev 111 21 ls (va_rf (h.2.2.1 a i.toNatClampNeg) :: st) h else none := am_u_rA am_my_111 (by decide +kernel) ht (by decide)
theorem e111_20d {ls : List (Option Value)} {st : List Value} {h : am_H} {i : Int32} {a : Nat} (ht : am_tc h a = some 5) : am_ev 111 20 ls (.int i :: .ref a :: st) h = if am_ix i (am_len h a) = true then am_ev 111 21 ls (va_rf (h.2.2.1 a i.toNatClampNeg) :: st) h else none := am_u_rA am_my_111 (by decide +kernel) ht (by decide)
theorem e111_20b {ls : List (Option Value)} {st : List Value} {h : am_H} {i : Int32} {a : Nat} (ht : am_tc h a = some 6) : am_ev 111 20 ls (.int i :: .ref a :: st) h = if am_ix i (am_len h a) = true then am_ev 111 21 ls (va_rf (h.2.2.1 a i.toNatClampNeg) :: st) h else none := am_u_rA am_my_111 (by decide +kernel) ht (by decide)
theorem e111_20l {ls : List (Option Value)} {st : List Value} {h : am_H} {i : Int32} {a : Nat} (ht : am_tc h a = some 7) : am_ev 111 20 ls (.int i :: .ref a :: st) h = if am_ix i (am_len h a) = true then am_ev 111 21 ls (va_rf (h.2.2.1 a i.toNatClampNeg) :: st) h else none := am_u_rA am_my_111 (by decide +kernel) ht (by decide)
theorem e111_20t {ls : List (Option Value)} {st : List Value} {h : am_H} {i : Int32} {a : Nat} (ht : am_tc h a = some 8) : am_ev 111 20 ls (.int i :: .ref a :: st) h = if am_ix i (am_len h a) = true then am_ev 111 21 ls (va_rf (h.2.2.1 a i.toNatClampNeg) :: st) h else none := am_u_rA am_my_111 (by decide +kernel) ht (by decide)
theorem e111_21 {ls : List (Option Value)} {st : List Value} {h : am_H} {l0 l1 : Option Value} {a : Int32} : am_ev 111 21 (l0 :: l1 :: some (.int a) :: ls) (st) h = am_ev 111 22 (l0 :: l1 :: some (.int a) :: ls) (.int a :: st) h := am_ev_step (q := (22, l0 :: l1 :: some (.int a) :: ls, .int a :: st, h)) _ (.iload_n 2) 1 am_my_111 (by decide +kernel) rfl
theorem e111_22 {ls : List (Option Value)} {st : List Value} {h : am_H} {l0 l1 l2 : Option Value} {a : Int32} : am_ev 111 22 (l0 :: l1 :: l2 :: some (.int a) :: ls) (st) h = am_ev 111 23 (l0 :: l1 :: l2 :: some (.int a) :: ls) (.int a :: st) h := am_ev_step (q := (23, l0 :: l1 :: l2 :: some (.int a) :: ls, .int a :: st, h)) _ (.iload_n 3) 1 am_my_111 (by decide +kernel) rfl
theorem e111_23 {ls : List (Option Value)} {st : List Value} {h : am_H} {p0 : Int32} {p1 : Int32} {o : Nat} (hw : am_w8 st ≤ 8) (hk : am_kd h o = some (.inl 2)) : am_ev 111 23 ls (.int p1 :: .int p0 :: .ref o :: st) h = am_bd (am_den 112 [.ref o, .int p0, .int p1] h) (fun v h1 => am_ev 111 26 ls (v.toList ++ st) h1) := am_u_cV (idx := 234) (wn := 4147) (as := [.int p0, .int p1]) am_my_111 (by decide +kernel) (Or.inl (by decide +kernel)) am_my_112 (by decide +kernel) rfl ⟨Nat.le_of_ble_eq_true rfl, rfl⟩ (by decide +kernel) hw hk
theorem e111_26 {ls : List (Option Value)} {st : List Value} {h : am_H} : am_ev 111 26 (ls) (st) h = am_ev 111 31 (ls) (st) h := am_ev_step (q := (31, ls, st, h)) _ (.goto (5)) 3 am_my_111 (by decide +kernel) rfl
theorem e111_29 {ls : List (Option Value)} {st : List Value} {h : am_H} : am_ev 111 29 (ls) (st) h = am_ev 111 31 (ls) (.int (-2) :: st) h := am_ev_step (q := (31, ls, .int (-2) :: st, h)) _ (.bipush (-2)) 2 am_my_111 (by decide +kernel) rfl
theorem e111_31 {ls : List (Option Value)} {h : am_H} {v : Int32} : am_ev 111 31 ls [.int v] h = some (some (.int v), h) := am_u_rtI am_my_111 (by decide +kernel) rfl
theorem e112_0 {ls : List (Option Value)} {st : List Value} {h : am_H} {l0 : Option Value} {a : Int32} : am_ev 112 0 (l0 :: some (.int a) :: ls) (st) h = am_ev 112 1 (l0 :: some (.int a) :: ls) (.int a :: st) h := am_ev_step (q := (1, l0 :: some (.int a) :: ls, .int a :: st, h)) _ (.iload_n 1) 1 am_my_112 (by decide +kernel) rfl
theorem e112_1 {ls : List (Option Value)} {st : List Value} {h : am_H} : am_ev 112 1 (ls) (st) h = am_ev 112 2 (ls) (.int (-1) :: st) h := am_ev_step (q := (2, ls, .int (-1) :: st, h)) _ (.iconst (-1)) 1 am_my_112 (by decide +kernel) rfl
theorem e112_2 {ls : List (Option Value)} {st : List Value} {h : am_H} {a b : Int32} : am_ev 112 2 ls (.int b :: .int a :: st) h = if ¬ a = b then am_ev 112 14 ls st h else am_ev 112 5 ls st h := am_u_if2 (c := .ne) (off := 12) am_my_112 (by decide +kernel) (by decide)
theorem e112_5 {ls : List (Option Value)} {st : List Value} {h : am_H} {l0 l1 : Option Value} {a : Int32} : am_ev 112 5 (l0 :: l1 :: some (.int a) :: ls) (st) h = am_ev 112 6 (l0 :: l1 :: some (.int a) :: ls) (.int a :: st) h := am_ev_step (q := (6, l0 :: l1 :: some (.int a) :: ls, .int a :: st, h)) _ (.iload_n 2) 1 am_my_112 (by decide +kernel) rfl
theorem e112_6 {ls : List (Option Value)} {st : List Value} {h : am_H} {a : Int32} : am_ev 112 6 ls (.int a :: st) h = if ¬ a = 0 then am_ev 112 14 ls st h else am_ev 112 9 ls st h := am_u_if1 (c := .ne) (off := 8) am_my_112 (by decide +kernel) (by decide)
theorem e112_9 {ls : List (Option Value)} {st : List Value} {h : am_H} {a : Nat} : am_ev 112 9 (some (.ref a) :: ls) (st) h = am_ev 112 10 (some (.ref a) :: ls) (.ref a :: st) h := am_ev_step (q := (10, some (.ref a) :: ls, .ref a :: st, h)) _ (.aload_n 0) 1 am_my_112 (by decide +kernel) rfl
theorem e112_10 {ls : List (Option Value)} {st : List Value} {h : am_H} {o : Nat} (hk : am_kd h o = some (.inl 2)) : am_ev 112 10 ls (.ref o :: st) h = am_ev 112 13 ls (.int (h.1 o 0) :: st) h := am_u_gfI (idx := 15) (wn := 1103) am_my_112 (by decide +kernel) (by decide +kernel) (by decide +kernel) hk
theorem e112_13 {ls : List (Option Value)} {h : am_H} {v : Int32} : am_ev 112 13 ls [.int v] h = some (some (.int v), h) := am_u_rtI am_my_112 (by decide +kernel) rfl
theorem e112_14 {ls : List (Option Value)} {st : List Value} {h : am_H} {l0 : Option Value} {a : Int32} : am_ev 112 14 (l0 :: some (.int a) :: ls) (st) h = am_ev 112 15 (l0 :: some (.int a) :: ls) (.int a :: st) h := am_ev_step (q := (15, l0 :: some (.int a) :: ls, .int a :: st, h)) _ (.iload_n 1) 1 am_my_112 (by decide +kernel) rfl
theorem e112_15 {ls : List (Option Value)} {st : List Value} {h : am_H} {a : Int32} : am_ev 112 15 ls (.int a :: st) h = if a < 0 then am_ev 112 35 ls st h else am_ev 112 18 ls st h := am_u_if1 (c := .lt) (off := 20) am_my_112 (by decide +kernel) (by decide)
theorem e112_18 {ls : List (Option Value)} {st : List Value} {h : am_H} {l0 : Option Value} {a : Int32} : am_ev 112 18 (l0 :: some (.int a) :: ls) (st) h = am_ev 112 19 (l0 :: some (.int a) :: ls) (.int a :: st) h := am_ev_step (q := (19, l0 :: some (.int a) :: ls, .int a :: st, h)) _ (.iload_n 1) 1 am_my_112 (by decide +kernel) rfl
theorem e112_19 {ls : List (Option Value)} {st : List Value} {h : am_H} {a : Nat} : am_ev 112 19 (some (.ref a) :: ls) (st) h = am_ev 112 20 (some (.ref a) :: ls) (.ref a :: st) h := am_ev_step (q := (20, some (.ref a) :: ls, .ref a :: st, h)) _ (.aload_n 0) 1 am_my_112 (by decide +kernel) rfl
theorem e112_20 {ls : List (Option Value)} {st : List Value} {h : am_H} {o : Nat} (hk : am_kd h o = some (.inl 2)) : am_ev 112 20 ls (.ref o :: st) h = am_ev 112 23 ls (.int (h.1 o 0) :: st) h := am_u_gfI (idx := 15) (wn := 1103) am_my_112 (by decide +kernel) (by decide +kernel) (by decide +kernel) hk
theorem e112_23 {ls : List (Option Value)} {st : List Value} {h : am_H} {a b : Int32} : am_ev 112 23 ls (.int b :: .int a :: st) h = if b ≤ a then am_ev 112 35 ls st h else am_ev 112 26 ls st h := am_u_if2 (c := .ge) (off := 12) am_my_112 (by decide +kernel) (by decide)
theorem e112_26 {ls : List (Option Value)} {st : List Value} {h : am_H} {l0 l1 : Option Value} {a : Int32} : am_ev 112 26 (l0 :: l1 :: some (.int a) :: ls) (st) h = am_ev 112 27 (l0 :: l1 :: some (.int a) :: ls) (.int a :: st) h := am_ev_step (q := (27, l0 :: l1 :: some (.int a) :: ls, .int a :: st, h)) _ (.iload_n 2) 1 am_my_112 (by decide +kernel) rfl
theorem e112_27 {ls : List (Option Value)} {st : List Value} {h : am_H} {a : Int32} : am_ev 112 27 ls (.int a :: st) h = if a < 0 then am_ev 112 35 ls st h else am_ev 112 30 ls st h := am_u_if1 (c := .lt) (off := 8) am_my_112 (by decide +kernel) (by decide)
theorem e112_30 {ls : List (Option Value)} {st : List Value} {h : am_H} {l0 l1 : Option Value} {a : Int32} : am_ev 112 30 (l0 :: l1 :: some (.int a) :: ls) (st) h = am_ev 112 31 (l0 :: l1 :: some (.int a) :: ls) (.int a :: st) h := am_ev_step (q := (31, l0 :: l1 :: some (.int a) :: ls, .int a :: st, h)) _ (.iload_n 2) 1 am_my_112 (by decide +kernel) rfl
theorem e112_31 {ls : List (Option Value)} {st : List Value} {h : am_H} : am_ev 112 31 (ls) (st) h = am_ev 112 32 (ls) (.int (1) :: st) h := am_ev_step (q := (32, ls, .int (1) :: st, h)) _ (.iconst (1)) 1 am_my_112 (by decide +kernel) rfl
theorem e112_32 {ls : List (Option Value)} {st : List Value} {h : am_H} {a b : Int32} : am_ev 112 32 ls (.int b :: .int a :: st) h = if a ≤ b then am_ev 112 38 ls st h else am_ev 112 35 ls st h := am_u_if2 (c := .le) (off := 6) am_my_112 (by decide +kernel) (by decide)
theorem e112_35 {ls : List (Option Value)} {st : List Value} {h : am_H} : am_ev 112 35 (ls) (st) h = am_ev 112 37 (ls) (.int (-2) :: st) h := am_ev_step (q := (37, ls, .int (-2) :: st, h)) _ (.bipush (-2)) 2 am_my_112 (by decide +kernel) rfl
theorem e112_37 {ls : List (Option Value)} {h : am_H} {v : Int32} : am_ev 112 37 ls [.int v] h = some (some (.int v), h) := am_u_rtI am_my_112 (by decide +kernel) rfl
theorem e112_38 {ls : List (Option Value)} {st : List Value} {h : am_H} {a : Nat} : am_ev 112 38 (some (.ref a) :: ls) (st) h = am_ev 112 39 (some (.ref a) :: ls) (.ref a :: st) h := am_ev_step (q := (39, some (.ref a) :: ls, .ref a :: st, h)) _ (.aload_n 0) 1 am_my_112 (by decide +kernel) rfl
theorem e112_39 {ls : List (Option Value)} {st : List Value} {h : am_H} {o : Nat} (hk : am_kd h o = some (.inl 2)) : am_ev 112 39 ls (.ref o :: st) h = am_ev 112 42 ls (va_rf (h.2.2.1 o 1) :: st) h := am_u_gfR (idx := 9) (wn := 1107) (a := 0) am_my_112 (by decide +kernel) (by decide +kernel) (by decide +kernel) hk
theorem e112_42 {ls : List (Option Value)} {st : List Value} {h : am_H} {l0 : Option Value} {a : Int32} : am_ev 112 42 (l0 :: some (.int a) :: ls) (st) h = am_ev 112 43 (l0 :: some (.int a) :: ls) (.int a :: st) h := am_ev_step (q := (43, l0 :: some (.int a) :: ls, .int a :: st, h)) _ (.iload_n 1) 1 am_my_112 (by decide +kernel) rfl
theorem e112_43 {ls : List (Option Value)} {st : List Value} {h : am_H} {i : Int32} {a : Nat} (ht : am_tc h a = some 0) : am_ev 112 43 ls (.int i :: .ref a :: st) h = if am_ix i (am_len h a) = true then am_ev 112 44 ls (.int (h.1 a i.toNatClampNeg) :: st) h else none := am_u_rI am_my_112 (by decide +kernel) ht
theorem e112_44 {ls : List (Option Value)} {st : List Value} {h : am_H} : am_ev 112 44 (ls) (st) h = am_ev 112 45 (ls) (.int (4) :: st) h := am_ev_step (q := (45, ls, .int (4) :: st, h)) _ (.iconst (4)) 1 am_my_112 (by decide +kernel) rfl
theorem e112_45 {ls : List (Option Value)} {st : List Value} {h : am_H} {a b : Int32} : am_ev 112 45 ls (.int b :: .int a :: st) h = if b ≤ a then am_ev 112 52 ls st h else am_ev 112 48 ls st h := am_u_if2 (c := .ge) (off := 7) am_my_112 (by decide +kernel) (by decide)
theorem e112_48 {ls : List (Option Value)} {st : List Value} {h : am_H} : am_ev 112 48 (ls) (st) h = am_ev 112 49 (ls) (.int (1) :: st) h := am_ev_step (q := (49, ls, .int (1) :: st, h)) _ (.iconst (1)) 1 am_my_112 (by decide +kernel) rfl
theorem e112_49 {ls : List (Option Value)} {st : List Value} {h : am_H} : am_ev 112 49 (ls) (st) h = am_ev 112 53 (ls) (st) h := am_ev_step (q := (53, ls, st, h)) _ (.goto (4)) 3 am_my_112 (by decide +kernel) rfl
theorem e112_52 {ls : List (Option Value)} {st : List Value} {h : am_H} : am_ev 112 52 (ls) (st) h = am_ev 112 53 (ls) (.int (0) :: st) h := am_ev_step (q := (53, ls, .int (0) :: st, h)) _ (.iconst (0)) 1 am_my_112 (by decide +kernel) rfl
theorem e112_53 {ls : List (Option Value)} {st : List Value} {h : am_H} {l0 l1 l2 : Option Value} {z : Option Value} {a : Int32} : am_ev 112 53 (l0 :: l1 :: l2 :: z :: ls) (.int a :: st) h = am_ev 112 54 (l0 :: l1 :: l2 :: some (.int a) :: ls) (st) h := am_ev_step (q := (54, l0 :: l1 :: l2 :: some (.int a) :: ls, st, h)) _ (.istore_n 3) 1 am_my_112 (by decide +kernel) rfl
theorem e112_54 {ls : List (Option Value)} {st : List Value} {h : am_H} {l0 l1 : Option Value} {a : Int32} : am_ev 112 54 (l0 :: l1 :: some (.int a) :: ls) (st) h = am_ev 112 55 (l0 :: l1 :: some (.int a) :: ls) (.int a :: st) h := am_ev_step (q := (55, l0 :: l1 :: some (.int a) :: ls, .int a :: st, h)) _ (.iload_n 2) 1 am_my_112 (by decide +kernel) rfl
theorem e112_55 {ls : List (Option Value)} {st : List Value} {h : am_H} {a : Int32} : am_ev 112 55 ls (.int a :: st) h = if ¬ a = 0 then am_ev 112 77 ls st h else am_ev 112 58 ls st h := am_u_if1 (c := .ne) (off := 22) am_my_112 (by decide +kernel) (by decide)
theorem e112_58 {ls : List (Option Value)} {st : List Value} {h : am_H} {l0 l1 l2 : Option Value} {a : Int32} : am_ev 112 58 (l0 :: l1 :: l2 :: some (.int a) :: ls) (st) h = am_ev 112 59 (l0 :: l1 :: l2 :: some (.int a) :: ls) (.int a :: st) h := am_ev_step (q := (59, l0 :: l1 :: l2 :: some (.int a) :: ls, .int a :: st, h)) _ (.iload_n 3) 1 am_my_112 (by decide +kernel) rfl
theorem e112_59 {ls : List (Option Value)} {st : List Value} {h : am_H} {a : Int32} : am_ev 112 59 ls (.int a :: st) h = if a = 0 then am_ev 112 66 ls st h else am_ev 112 62 ls st h := am_u_if1 (c := .eq) (off := 7) am_my_112 (by decide +kernel) (by decide)
theorem e112_62 {ls : List (Option Value)} {st : List Value} {h : am_H} : am_ev 112 62 (ls) (st) h = am_ev 112 63 (ls) (.int (0) :: st) h := am_ev_step (q := (63, ls, .int (0) :: st, h)) _ (.iconst (0)) 1 am_my_112 (by decide +kernel) rfl
theorem e112_63 {ls : List (Option Value)} {st : List Value} {h : am_H} : am_ev 112 63 (ls) (st) h = am_ev 112 76 (ls) (st) h := am_ev_step (q := (76, ls, st, h)) _ (.goto (13)) 3 am_my_112 (by decide +kernel) rfl
theorem e112_66 {ls : List (Option Value)} {st : List Value} {h : am_H} {a : Nat} : am_ev 112 66 (some (.ref a) :: ls) (st) h = am_ev 112 67 (some (.ref a) :: ls) (.ref a :: st) h := am_ev_step (q := (67, some (.ref a) :: ls, .ref a :: st, h)) _ (.aload_n 0) 1 am_my_112 (by decide +kernel) rfl
theorem e112_67 {ls : List (Option Value)} {st : List Value} {h : am_H} {o : Nat} (hk : am_kd h o = some (.inl 2)) : am_ev 112 67 ls (.ref o :: st) h = am_ev 112 70 ls (va_rf (h.2.2.1 o 1) :: st) h := am_u_gfR (idx := 9) (wn := 1107) (a := 0) am_my_112 (by decide +kernel) (by decide +kernel) (by decide +kernel) hk
theorem e112_70 {ls : List (Option Value)} {st : List Value} {h : am_H} {l0 : Option Value} {a : Int32} : am_ev 112 70 (l0 :: some (.int a) :: ls) (st) h = am_ev 112 71 (l0 :: some (.int a) :: ls) (.int a :: st) h := am_ev_step (q := (71, l0 :: some (.int a) :: ls, .int a :: st, h)) _ (.iload_n 1) 1 am_my_112 (by decide +kernel) rfl
theorem e112_71 {ls : List (Option Value)} {st : List Value} {h : am_H} {i : Int32} {a : Nat} (ht : am_tc h a = some 0) : am_ev 112 71 ls (.int i :: .ref a :: st) h = if am_ix i (am_len h a) = true then am_ev 112 72 ls (.int (h.1 a i.toNatClampNeg) :: st) h else none := am_u_rI am_my_112 (by decide +kernel) ht
theorem e112_72 {ls : List (Option Value)} {st : List Value} {h : am_H} : am_ev 112 72 (ls) (st) h = am_ev 112 73 (ls) (.int (4) :: st) h := am_ev_step (q := (73, ls, .int (4) :: st, h)) _ (.iconst (4)) 1 am_my_112 (by decide +kernel) rfl
theorem e112_73 {ls : List (Option Value)} {st : List Value} {h : am_H} {a b : Int32} : am_ev 112 73 (ls) (.int b :: .int a :: st) h = am_ev 112 74 (ls) (.int (a - b) :: st) h := am_ev_step (q := (74, ls, .int (a - b) :: st, h)) _ (.isub) 1 am_my_112 (by decide +kernel) rfl
theorem e112_74 {ls : List (Option Value)} {st : List Value} {h : am_H} : am_ev 112 74 (ls) (st) h = am_ev 112 75 (ls) (.int (1) :: st) h := am_ev_step (q := (75, ls, .int (1) :: st, h)) _ (.iconst (1)) 1 am_my_112 (by decide +kernel) rfl
theorem e112_75 {ls : List (Option Value)} {st : List Value} {h : am_H} {a b : Int32} : am_ev 112 75 (ls) (.int b :: .int a :: st) h = am_ev 112 76 (ls) (.int (a + b) :: st) h := am_ev_step (q := (76, ls, .int (a + b) :: st, h)) _ (.iadd) 1 am_my_112 (by decide +kernel) rfl
theorem e112_76 {ls : List (Option Value)} {h : am_H} {v : Int32} : am_ev 112 76 ls [.int v] h = some (some (.int v), h) := am_u_rtI am_my_112 (by decide +kernel) rfl
theorem e112_77 {ls : List (Option Value)} {st : List Value} {h : am_H} {l0 l1 l2 : Option Value} {a : Int32} : am_ev 112 77 (l0 :: l1 :: l2 :: some (.int a) :: ls) (st) h = am_ev 112 78 (l0 :: l1 :: l2 :: some (.int a) :: ls) (.int a :: st) h := am_ev_step (q := (78, l0 :: l1 :: l2 :: some (.int a) :: ls, .int a :: st, h)) _ (.iload_n 3) 1 am_my_112 (by decide +kernel) rfl
theorem e112_78 {ls : List (Option Value)} {st : List Value} {h : am_H} {a : Int32} : am_ev 112 78 ls (.int a :: st) h = if a = 0 then am_ev 112 90 ls st h else am_ev 112 81 ls st h := am_u_if1 (c := .eq) (off := 12) am_my_112 (by decide +kernel) (by decide)
theorem e112_81 {ls : List (Option Value)} {st : List Value} {h : am_H} {a : Nat} : am_ev 112 81 (some (.ref a) :: ls) (st) h = am_ev 112 82 (some (.ref a) :: ls) (.ref a :: st) h := am_ev_step (q := (82, some (.ref a) :: ls, .ref a :: st, h)) _ (.aload_n 0) 1 am_my_112 (by decide +kernel) rfl
theorem e112_82 {ls : List (Option Value)} {st : List Value} {h : am_H} {o : Nat} (hk : am_kd h o = some (.inl 2)) : am_ev 112 82 ls (.ref o :: st) h = am_ev 112 85 ls (va_rf (h.2.2.1 o 1) :: st) h := am_u_gfR (idx := 9) (wn := 1107) (a := 0) am_my_112 (by decide +kernel) (by decide +kernel) (by decide +kernel) hk
theorem e112_85 {ls : List (Option Value)} {st : List Value} {h : am_H} {l0 : Option Value} {a : Int32} : am_ev 112 85 (l0 :: some (.int a) :: ls) (st) h = am_ev 112 86 (l0 :: some (.int a) :: ls) (.int a :: st) h := am_ev_step (q := (86, l0 :: some (.int a) :: ls, .int a :: st, h)) _ (.iload_n 1) 1 am_my_112 (by decide +kernel) rfl
theorem e112_86 {ls : List (Option Value)} {st : List Value} {h : am_H} {i : Int32} {a : Nat} (ht : am_tc h a = some 0) : am_ev 112 86 ls (.int i :: .ref a :: st) h = if am_ix i (am_len h a) = true then am_ev 112 87 ls (.int (h.1 a i.toNatClampNeg) :: st) h else none := am_u_rI am_my_112 (by decide +kernel) ht
theorem e112_87 {ls : List (Option Value)} {st : List Value} {h : am_H} : am_ev 112 87 (ls) (st) h = am_ev 112 91 (ls) (st) h := am_ev_step (q := (91, ls, st, h)) _ (.goto (4)) 3 am_my_112 (by decide +kernel) rfl
theorem e112_90 {ls : List (Option Value)} {st : List Value} {h : am_H} : am_ev 112 90 (ls) (st) h = am_ev 112 91 (ls) (.int (-1) :: st) h := am_ev_step (q := (91, ls, .int (-1) :: st, h)) _ (.iconst (-1)) 1 am_my_112 (by decide +kernel) rfl
theorem e112_91 {ls : List (Option Value)} {h : am_H} {v : Int32} : am_ev 112 91 ls [.int v] h = some (some (.int v), h) := am_u_rtI am_my_112 (by decide +kernel) rfl
theorem e170_0 {ls : List (Option Value)} {st : List Value} {h : am_H} {l0 l1 : Option Value} {a : Int32} : am_ev 170 0 (l0 :: l1 :: some (.int a) :: ls) (st) h = am_ev 170 1 (l0 :: l1 :: some (.int a) :: ls) (.int a :: st) h := am_ev_step (q := (1, l0 :: l1 :: some (.int a) :: ls, .int a :: st, h)) _ (.iload_n 2) 1 am_my_170 (by decide +kernel) rfl
theorem e170_1 {ls : List (Option Value)} {st : List Value} {h : am_H} : am_ev 170 1 (ls) (st) h = am_ev 170 2 (ls) (.int (0) :: st) h := am_ev_step (q := (2, ls, .int (0) :: st, h)) _ (.iconst (0)) 1 am_my_170 (by decide +kernel) rfl
theorem e170_2 {ls : List (Option Value)} {st : List Value} {h : am_H} {a : Nat} : am_ev 170 2 (some (.ref a) :: ls) (st) h = am_ev 170 3 (some (.ref a) :: ls) (.ref a :: st) h := am_ev_step (q := (3, some (.ref a) :: ls, .ref a :: st, h)) _ (.aload_n 0) 1 am_my_170 (by decide +kernel) rfl
theorem e170_3 {ls : List (Option Value)} {st : List Value} {h : am_H} {o : Nat} (hk : am_kd h o = some (.inl 11)) : am_ev 170 3 ls (.ref o :: st) h = am_ev 170 6 ls (va_rf (h.2.2.1 o 5) :: st) h := am_u_gfR (idx := 23) (wn := 5137) (a := 0) am_my_170 (by decide +kernel) (by decide +kernel) (by decide +kernel) hk
theorem e170_6 {ls : List (Option Value)} {st : List Value} {h : am_H} {l0 : Option Value} {a : Int32} : am_ev 170 6 (l0 :: some (.int a) :: ls) (st) h = am_ev 170 7 (l0 :: some (.int a) :: ls) (.int a :: st) h := am_ev_step (q := (7, l0 :: some (.int a) :: ls, .int a :: st, h)) _ (.iload_n 1) 1 am_my_170 (by decide +kernel) rfl
theorem e170_7 {ls : List (Option Value)} {st : List Value} {h : am_H} {i : Int32} {a : Nat} (ht : am_tc h a = some 0) : am_ev 170 7 ls (.int i :: .ref a :: st) h = if am_ix i (am_len h a) = true then am_ev 170 8 ls (.int (h.1 a i.toNatClampNeg) :: st) h else none := am_u_rI am_my_170 (by decide +kernel) ht
theorem e170_8 {ls : List (Option Value)} {st : List Value} {h : am_H} : am_ev 170 8 (ls) (st) h = am_ev 170 9 (ls) (.int (1) :: st) h := am_ev_step (q := (9, ls, .int (1) :: st, h)) _ (.iconst (1)) 1 am_my_170 (by decide +kernel) rfl
theorem e170_9 {ls : List (Option Value)} {st : List Value} {h : am_H} {a b : Int32} : am_ev 170 9 (ls) (.int b :: .int a :: st) h = am_ev 170 10 (ls) (.int (a - b) :: st) h := am_ev_step (q := (10, ls, .int (a - b) :: st, h)) _ (.isub) 1 am_my_170 (by decide +kernel) rfl
theorem e170_10 {ls : List (Option Value)} {st : List Value} {h : am_H} {p0 : Int32} {p1 : Int32} {p2 : Int32} (hw : am_w8 st ≤ 8) : am_ev 170 10 ls (.int p2 :: .int p1 :: .int p0 :: st) h = am_bd (am_den 168 [.int p0, .int p1, .int p2] h) (fun v h1 => am_ev 170 13 ls (v.toList ++ st) h1) := am_u_cS (idx := 99) (wn := 6085) (as := [.int p0, .int p1, .int p2]) am_my_170 (by decide +kernel) (by decide +kernel) am_my_168 (by decide +kernel) rfl ⟨Nat.le_of_ble_eq_true rfl, rfl⟩ hw
theorem e170_13 {ls : List (Option Value)} {h : am_H} {v : Int32} (hv : v = 0 ∨ v = 1) : am_ev 170 13 ls [.int v] h = some (some (.int v), h) := am_u_rtZ am_my_170 (by decide +kernel) rfl hv
theorem e205_0 {ls : List (Option Value)} {st : List Value} {h : am_H} {a : Nat} : am_ev 205 0 (some (.ref a) :: ls) (st) h = am_ev 205 1 (some (.ref a) :: ls) (.ref a :: st) h := am_ev_step (q := (1, some (.ref a) :: ls, .ref a :: st, h)) _ (.aload_n 0) 1 am_my_205 (by decide +kernel) rfl
theorem e205_1 {ls : List (Option Value)} {st : List Value} {h : am_H} {l0 : Option Value} {a : Int32} : am_ev 205 1 (l0 :: some (.int a) :: ls) (st) h = am_ev 205 2 (l0 :: some (.int a) :: ls) (.int a :: st) h := am_ev_step (q := (2, l0 :: some (.int a) :: ls, .int a :: st, h)) _ (.iload_n 1) 1 am_my_205 (by decide +kernel) rfl
theorem e205_2 {ls : List (Option Value)} {st : List Value} {h : am_H} {o : Nat} {v : Int32} (hk : am_kd h o = some (.inl 11)) : am_ev 205 2 ls (.int v :: .ref o :: st) h = am_ev 205 5 ls st (am_sI h o 39 v) := am_u_pfI (idx := 345) (wn := 5171) am_my_205 (by decide +kernel) (by decide +kernel) (by decide +kernel) (by decide +kernel) hk
theorem e205_5 {ls : List (Option Value)} {st : List Value} {h : am_H} {a : Nat} : am_ev 205 5 (some (.ref a) :: ls) (st) h = am_ev 205 6 (some (.ref a) :: ls) (.ref a :: st) h := am_ev_step (q := (6, some (.ref a) :: ls, .ref a :: st, h)) _ (.aload_n 0) 1 am_my_205 (by decide +kernel) rfl
theorem e205_6 {ls : List (Option Value)} {st : List Value} {h : am_H} : am_ev 205 6 (ls) (st) h = am_ev 205 7 (ls) (.int (1) :: st) h := am_ev_step (q := (7, ls, .int (1) :: st, h)) _ (.iconst (1)) 1 am_my_205 (by decide +kernel) rfl
theorem e205_7 {ls : List (Option Value)} {st : List Value} {h : am_H} {l0 : Option Value} {a : Int32} : am_ev 205 7 (l0 :: some (.int a) :: ls) (st) h = am_ev 205 8 (l0 :: some (.int a) :: ls) (.int a :: st) h := am_ev_step (q := (8, l0 :: some (.int a) :: ls, .int a :: st, h)) _ (.iload_n 1) 1 am_my_205 (by decide +kernel) rfl
theorem e205_8 {ls : List (Option Value)} {st : List Value} {h : am_H} {p0 : Int32} {p1 : Int32} {o : Nat} (hw : am_w8 st ≤ 8) (hk : am_kd h o = some (.inl 11)) : am_ev 205 8 ls (.int p1 :: .int p0 :: .ref o :: st) h = am_bd (am_den 170 [.ref o, .int p0, .int p1] h) (fun v h1 => am_ev 205 11 ls (v.toList ++ st) h1) := am_u_cV (idx := 269) (wn := 6092) (as := [.int p0, .int p1]) am_my_205 (by decide +kernel) (Or.inl (by decide +kernel)) am_my_170 (by decide +kernel) rfl ⟨Nat.le_of_ble_eq_true rfl, rfl⟩ (by decide +kernel) hw hk
theorem e205_11 {ls : List (Option Value)} {h : am_H} {v : Int32} (hv : v = 0 ∨ v = 1) : am_ev 205 11 ls [.int v] h = some (some (.int v), h) := am_u_rtZ am_my_205 (by decide +kernel) rfl hv
theorem e206_0 {ls : List (Option Value)} {st : List Value} {h : am_H} {a : Nat} : am_ev 206 0 (some (.ref a) :: ls) (st) h = am_ev 206 1 (some (.ref a) :: ls) (.ref a :: st) h := am_ev_step (q := (1, some (.ref a) :: ls, .ref a :: st, h)) _ (.aload_n 0) 1 am_my_206 (by decide +kernel) rfl
theorem e206_1 {ls : List (Option Value)} {st : List Value} {h : am_H} {o : Nat} (hk : am_kd h o = some (.inl 11)) : am_ev 206 1 ls (.ref o :: st) h = am_ev 206 4 ls (va_rf (h.2.2.1 o 7) :: st) h := am_u_gfR (idx := 29) (wn := 5139) (a := 0) am_my_206 (by decide +kernel) (by decide +kernel) (by decide +kernel) hk
theorem e206_4 {ls : List (Option Value)} {st : List Value} {h : am_H} : am_ev 206 4 (ls) (st) h = am_ev 206 6 (ls) (.int (81) :: st) h := am_ev_step (q := (6, ls, .int (81) :: st, h)) _ (.bipush (81)) 2 am_my_206 (by decide +kernel) rfl
theorem e206_6 {ls : List (Option Value)} {st : List Value} {h : am_H} {a : Nat} : am_ev 206 6 (some (.ref a) :: ls) (st) h = am_ev 206 7 (some (.ref a) :: ls) (.ref a :: st) h := am_ev_step (q := (7, some (.ref a) :: ls, .ref a :: st, h)) _ (.aload_n 0) 1 am_my_206 (by decide +kernel) rfl
theorem e206_7 {ls : List (Option Value)} {st : List Value} {h : am_H} {o : Nat} (hk : am_kd h o = some (.inl 11)) : am_ev 206 7 ls (.ref o :: st) h = am_ev 206 10 ls (.int (h.1 o 39) :: st) h := am_u_gfI (idx := 345) (wn := 5171) am_my_206 (by decide +kernel) (by decide +kernel) (by decide +kernel) hk
theorem e206_10 {ls : List (Option Value)} {st : List Value} {h : am_H} {a b : Int32} : am_ev 206 10 (ls) (.int b :: .int a :: st) h = am_ev 206 11 (ls) (.int (a * b) :: st) h := am_ev_step (q := (11, ls, .int (a * b) :: st, h)) _ (.imul) 1 am_my_206 (by decide +kernel) rfl
theorem e206_11 {ls : List (Option Value)} {st : List Value} {h : am_H} {i : Int32} {a : Nat} (ht : am_tc h a = some 0) : am_ev 206 11 ls (.int i :: .ref a :: st) h = if am_ix i (am_len h a) = true then am_ev 206 12 ls (.int (h.1 a i.toNatClampNeg) :: st) h else none := am_u_rI am_my_206 (by decide +kernel) ht
theorem e206_12 {ls : List (Option Value)} {h : am_H} {v : Int32} : am_ev 206 12 ls [.int v] h = some (some (.int v), h) := am_u_rtI am_my_206 (by decide +kernel) rfl
theorem e207_0 {ls : List (Option Value)} {st : List Value} {h : am_H} {a : Nat} : am_ev 207 0 (some (.ref a) :: ls) (st) h = am_ev 207 1 (some (.ref a) :: ls) (.ref a :: st) h := am_ev_step (q := (1, some (.ref a) :: ls, .ref a :: st, h)) _ (.aload_n 0) 1 am_my_207 (by decide +kernel) rfl
theorem e207_1 {ls : List (Option Value)} {st : List Value} {h : am_H} {o : Nat} (hk : am_kd h o = some (.inl 11)) : am_ev 207 1 ls (.ref o :: st) h = am_ev 207 4 ls (va_rf (h.2.2.1 o 7) :: st) h := am_u_gfR (idx := 29) (wn := 5139) (a := 0) am_my_207 (by decide +kernel) (by decide +kernel) (by decide +kernel) hk
theorem e207_4 {ls : List (Option Value)} {st : List Value} {h : am_H} : am_ev 207 4 (ls) (st) h = am_ev 207 6 (ls) (.int (81) :: st) h := am_ev_step (q := (6, ls, .int (81) :: st, h)) _ (.bipush (81)) 2 am_my_207 (by decide +kernel) rfl
theorem e207_6 {ls : List (Option Value)} {st : List Value} {h : am_H} {a : Nat} : am_ev 207 6 (some (.ref a) :: ls) (st) h = am_ev 207 7 (some (.ref a) :: ls) (.ref a :: st) h := am_ev_step (q := (7, some (.ref a) :: ls, .ref a :: st, h)) _ (.aload_n 0) 1 am_my_207 (by decide +kernel) rfl
theorem e207_7 {ls : List (Option Value)} {st : List Value} {h : am_H} {o : Nat} (hk : am_kd h o = some (.inl 11)) : am_ev 207 7 ls (.ref o :: st) h = am_ev 207 10 ls (.int (h.1 o 39) :: st) h := am_u_gfI (idx := 345) (wn := 5171) am_my_207 (by decide +kernel) (by decide +kernel) (by decide +kernel) hk
theorem e207_10 {ls : List (Option Value)} {st : List Value} {h : am_H} {a b : Int32} : am_ev 207 10 (ls) (.int b :: .int a :: st) h = am_ev 207 11 (ls) (.int (a * b) :: st) h := am_ev_step (q := (11, ls, .int (a * b) :: st, h)) _ (.imul) 1 am_my_207 (by decide +kernel) rfl
theorem e207_11 {ls : List (Option Value)} {st : List Value} {h : am_H} : am_ev 207 11 (ls) (st) h = am_ev 207 12 (ls) (.int (1) :: st) h := am_ev_step (q := (12, ls, .int (1) :: st, h)) _ (.iconst (1)) 1 am_my_207 (by decide +kernel) rfl
theorem e207_12 {ls : List (Option Value)} {st : List Value} {h : am_H} {a b : Int32} : am_ev 207 12 (ls) (.int b :: .int a :: st) h = am_ev 207 13 (ls) (.int (a + b) :: st) h := am_ev_step (q := (13, ls, .int (a + b) :: st, h)) _ (.iadd) 1 am_my_207 (by decide +kernel) rfl
theorem e207_13 {ls : List (Option Value)} {st : List Value} {h : am_H} : am_ev 207 13 (ls) (st) h = am_ev 207 14 (ls) (.int (2) :: st) h := am_ev_step (q := (14, ls, .int (2) :: st, h)) _ (.iconst (2)) 1 am_my_207 (by decide +kernel) rfl
theorem e207_14 {ls : List (Option Value)} {st : List Value} {h : am_H} {l0 : Option Value} {a : Int32} : am_ev 207 14 (l0 :: some (.int a) :: ls) (st) h = am_ev 207 15 (l0 :: some (.int a) :: ls) (.int a :: st) h := am_ev_step (q := (15, l0 :: some (.int a) :: ls, .int a :: st, h)) _ (.iload_n 1) 1 am_my_207 (by decide +kernel) rfl
theorem e207_15 {ls : List (Option Value)} {st : List Value} {h : am_H} {a b : Int32} : am_ev 207 15 (ls) (.int b :: .int a :: st) h = am_ev 207 16 (ls) (.int (a * b) :: st) h := am_ev_step (q := (16, ls, .int (a * b) :: st, h)) _ (.imul) 1 am_my_207 (by decide +kernel) rfl
theorem e207_16 {ls : List (Option Value)} {st : List Value} {h : am_H} {a b : Int32} : am_ev 207 16 (ls) (.int b :: .int a :: st) h = am_ev 207 17 (ls) (.int (a + b) :: st) h := am_ev_step (q := (17, ls, .int (a + b) :: st, h)) _ (.iadd) 1 am_my_207 (by decide +kernel) rfl
theorem e207_17 {ls : List (Option Value)} {st : List Value} {h : am_H} {l0 l1 : Option Value} {a : Int32} : am_ev 207 17 (l0 :: l1 :: some (.int a) :: ls) (st) h = am_ev 207 18 (l0 :: l1 :: some (.int a) :: ls) (.int a :: st) h := am_ev_step (q := (18, l0 :: l1 :: some (.int a) :: ls, .int a :: st, h)) _ (.iload_n 2) 1 am_my_207 (by decide +kernel) rfl
theorem e207_18 {ls : List (Option Value)} {st : List Value} {h : am_H} {a b : Int32} : am_ev 207 18 (ls) (.int b :: .int a :: st) h = am_ev 207 19 (ls) (.int (a + b) :: st) h := am_ev_step (q := (19, ls, .int (a + b) :: st, h)) _ (.iadd) 1 am_my_207 (by decide +kernel) rfl
theorem e207_19 {ls : List (Option Value)} {st : List Value} {h : am_H} {i : Int32} {a : Nat} (ht : am_tc h a = some 0) : am_ev 207 19 ls (.int i :: .ref a :: st) h = if am_ix i (am_len h a) = true then am_ev 207 20 ls (.int (h.1 a i.toNatClampNeg) :: st) h else none := am_u_rI am_my_207 (by decide +kernel) ht
theorem e207_20 {ls : List (Option Value)} {h : am_H} {v : Int32} : am_ev 207 20 ls [.int v] h = some (some (.int v), h) := am_u_rtI am_my_207 (by decide +kernel) rfl
theorem e204_0 {ls : List (Option Value)} {st : List Value} {h : am_H} {a : Nat} : am_ev 204 0 (some (.ref a) :: ls) (st) h = am_ev 204 1 (some (.ref a) :: ls) (.ref a :: st) h := am_ev_step (q := (1, some (.ref a) :: ls, .ref a :: st, h)) _ (.aload_n 0) 1 am_my_204 (by decide +kernel) rfl
theorem e204_1 {ls : List (Option Value)} {st : List Value} {h : am_H} : am_ev 204 1 (ls) (st) h = am_ev 204 2 (ls) (.int (0) :: st) h := am_ev_step (q := (2, ls, .int (0) :: st, h)) _ (.iconst (0)) 1 am_my_204 (by decide +kernel) rfl
theorem e204_2 {ls : List (Option Value)} {st : List Value} {h : am_H} {o : Nat} {v : Int32} (hk : am_kd h o = some (.inl 11)) : am_ev 204 2 ls (.int v :: .ref o :: st) h = am_ev 204 5 ls st (am_sI h o 0 v) := am_u_pfI (idx := 87) (wn := 5132) am_my_204 (by decide +kernel) (by decide +kernel) (by decide +kernel) (by decide +kernel) hk
theorem e204_5 {ls : List (Option Value)} {st : List Value} {h : am_H} {a : Nat} : am_ev 204 5 (some (.ref a) :: ls) (st) h = am_ev 204 6 (some (.ref a) :: ls) (.ref a :: st) h := am_ev_step (q := (6, some (.ref a) :: ls, .ref a :: st, h)) _ (.aload_n 0) 1 am_my_204 (by decide +kernel) rfl
theorem e204_6 {ls : List (Option Value)} {st : List Value} {h : am_H} {l0 : Option Value} {a : Int32} : am_ev 204 6 (l0 :: some (.int a) :: ls) (st) h = am_ev 204 7 (l0 :: some (.int a) :: ls) (.int a :: st) h := am_ev_step (q := (7, l0 :: some (.int a) :: ls, .int a :: st, h)) _ (.iload_n 1) 1 am_my_204 (by decide +kernel) rfl
theorem e204_7 {ls : List (Option Value)} {st : List Value} {h : am_H} {p0 : Int32} {o : Nat} (hw : am_w8 st ≤ 8) (hk : am_kd h o = some (.inl 11)) : am_ev 204 7 ls (.int p0 :: .ref o :: st) h = am_bd (am_den 205 [.ref o, .int p0] h) (fun v h1 => am_ev 204 10 ls (v.toList ++ st) h1) := am_u_cV (idx := 348) (wn := 7006) (as := [.int p0]) am_my_204 (by decide +kernel) (Or.inl (by decide +kernel)) am_my_205 (by decide +kernel) rfl ⟨Nat.le_of_ble_eq_true rfl, rfl⟩ (by decide +kernel) hw hk
theorem e204_10 {ls : List (Option Value)} {st : List Value} {h : am_H} {a : Int32} : am_ev 204 10 ls (.int a :: st) h = if ¬ a = 0 then am_ev 204 16 ls st h else am_ev 204 13 ls st h := am_u_if1 (c := .ne) (off := 6) am_my_204 (by decide +kernel) (by decide)
theorem e204_13 {ls : List (Option Value)} {st : List Value} {h : am_H} : am_ev 204 13 (ls) (st) h = am_ev 204 15 (ls) (.int (-2) :: st) h := am_ev_step (q := (15, ls, .int (-2) :: st, h)) _ (.bipush (-2)) 2 am_my_204 (by decide +kernel) rfl
theorem e204_15 {ls : List (Option Value)} {h : am_H} {v : Int32} : am_ev 204 15 ls [.int v] h = some (some (.int v), h) := am_u_rtI am_my_204 (by decide +kernel) rfl
theorem e204_16 {ls : List (Option Value)} {st : List Value} {h : am_H} {l0 l1 : Option Value} {a : Int32} : am_ev 204 16 (l0 :: l1 :: some (.int a) :: ls) (st) h = am_ev 204 17 (l0 :: l1 :: some (.int a) :: ls) (.int a :: st) h := am_ev_step (q := (17, l0 :: l1 :: some (.int a) :: ls, .int a :: st, h)) _ (.iload_n 2) 1 am_my_204 (by decide +kernel) rfl
theorem e204_17 {ls : List (Option Value)} {st : List Value} {h : am_H} : am_ev 204 17 (ls) (st) h = am_ev 204 18 (ls) (.int (-1) :: st) h := am_ev_step (q := (18, ls, .int (-1) :: st, h)) _ (.iconst (-1)) 1 am_my_204 (by decide +kernel) rfl
theorem e204_18 {ls : List (Option Value)} {st : List Value} {h : am_H} {a b : Int32} : am_ev 204 18 ls (.int b :: .int a :: st) h = if ¬ a = b then am_ev 204 35 ls st h else am_ev 204 21 ls st h := am_u_if2 (c := .ne) (off := 17) am_my_204 (by decide +kernel) (by decide)
theorem e204_21 {ls : List (Option Value)} {st : List Value} {h : am_H} {l0 l1 l2 : Option Value} {a : Int32} : am_ev 204 21 (l0 :: l1 :: l2 :: some (.int a) :: ls) (st) h = am_ev 204 22 (l0 :: l1 :: l2 :: some (.int a) :: ls) (.int a :: st) h := am_ev_step (q := (22, l0 :: l1 :: l2 :: some (.int a) :: ls, .int a :: st, h)) _ (.iload_n 3) 1 am_my_204 (by decide +kernel) rfl
theorem e204_22 {ls : List (Option Value)} {st : List Value} {h : am_H} {a : Int32} : am_ev 204 22 ls (.int a :: st) h = if ¬ a = 0 then am_ev 204 32 ls st h else am_ev 204 25 ls st h := am_u_if1 (c := .ne) (off := 10) am_my_204 (by decide +kernel) (by decide)
theorem e204_25 {ls : List (Option Value)} {st : List Value} {h : am_H} {a : Nat} : am_ev 204 25 (some (.ref a) :: ls) (st) h = am_ev 204 26 (some (.ref a) :: ls) (.ref a :: st) h := am_ev_step (q := (26, some (.ref a) :: ls, .ref a :: st, h)) _ (.aload_n 0) 1 am_my_204 (by decide +kernel) rfl
theorem e204_26 {ls : List (Option Value)} {st : List Value} {h : am_H}  {o : Nat} (hw : am_w8 st ≤ 8) (hk : am_kd h o = some (.inl 11)) : am_ev 204 26 ls (.ref o :: st) h = am_bd (am_den 206 [.ref o] h) (fun v h1 => am_ev 204 29 ls (v.toList ++ st) h1) := am_u_cV (idx := 351) (wn := 7010) (as := []) am_my_204 (by decide +kernel) (Or.inl (by decide +kernel)) am_my_206 (by decide +kernel) rfl ⟨Nat.le_of_ble_eq_true rfl, rfl⟩ (by decide +kernel) hw hk
theorem e204_29 {ls : List (Option Value)} {st : List Value} {h : am_H} : am_ev 204 29 (ls) (st) h = am_ev 204 34 (ls) (st) h := am_ev_step (q := (34, ls, st, h)) _ (.goto (5)) 3 am_my_204 (by decide +kernel) rfl
theorem e204_32 {ls : List (Option Value)} {st : List Value} {h : am_H} : am_ev 204 32 (ls) (st) h = am_ev 204 34 (ls) (.int (-2) :: st) h := am_ev_step (q := (34, ls, .int (-2) :: st, h)) _ (.bipush (-2)) 2 am_my_204 (by decide +kernel) rfl
theorem e204_34 {ls : List (Option Value)} {h : am_H} {v : Int32} : am_ev 204 34 ls [.int v] h = some (some (.int v), h) := am_u_rtI am_my_204 (by decide +kernel) rfl
theorem e204_35 {ls : List (Option Value)} {st : List Value} {h : am_H} {l0 l1 : Option Value} {a : Int32} : am_ev 204 35 (l0 :: l1 :: some (.int a) :: ls) (st) h = am_ev 204 36 (l0 :: l1 :: some (.int a) :: ls) (.int a :: st) h := am_ev_step (q := (36, l0 :: l1 :: some (.int a) :: ls, .int a :: st, h)) _ (.iload_n 2) 1 am_my_204 (by decide +kernel) rfl
theorem e204_36 {ls : List (Option Value)} {st : List Value} {h : am_H} : am_ev 204 36 (ls) (st) h = am_ev 204 37 (ls) (.int (0) :: st) h := am_ev_step (q := (37, ls, .int (0) :: st, h)) _ (.iconst (0)) 1 am_my_204 (by decide +kernel) rfl
theorem e204_37 {ls : List (Option Value)} {st : List Value} {h : am_H} {a : Nat} : am_ev 204 37 (some (.ref a) :: ls) (st) h = am_ev 204 38 (some (.ref a) :: ls) (.ref a :: st) h := am_ev_step (q := (38, some (.ref a) :: ls, .ref a :: st, h)) _ (.aload_n 0) 1 am_my_204 (by decide +kernel) rfl
theorem e204_38 {ls : List (Option Value)} {st : List Value} {h : am_H}  {o : Nat} (hw : am_w8 st ≤ 8) (hk : am_kd h o = some (.inl 11)) : am_ev 204 38 ls (.ref o :: st) h = am_bd (am_den 206 [.ref o] h) (fun v h1 => am_ev 204 41 ls (v.toList ++ st) h1) := am_u_cV (idx := 351) (wn := 7010) (as := []) am_my_204 (by decide +kernel) (Or.inl (by decide +kernel)) am_my_206 (by decide +kernel) rfl ⟨Nat.le_of_ble_eq_true rfl, rfl⟩ (by decide +kernel) hw hk
theorem e204_41 {ls : List (Option Value)} {st : List Value} {h : am_H} : am_ev 204 41 (ls) (st) h = am_ev 204 42 (ls) (.int (1) :: st) h := am_ev_step (q := (42, ls, .int (1) :: st, h)) _ (.iconst (1)) 1 am_my_204 (by decide +kernel) rfl
theorem e204_42 {ls : List (Option Value)} {st : List Value} {h : am_H} {a b : Int32} : am_ev 204 42 (ls) (.int b :: .int a :: st) h = am_ev 204 43 (ls) (.int (a - b) :: st) h := am_ev_step (q := (43, ls, .int (a - b) :: st, h)) _ (.isub) 1 am_my_204 (by decide +kernel) rfl
theorem e204_43 {ls : List (Option Value)} {st : List Value} {h : am_H} {p0 : Int32} {p1 : Int32} {p2 : Int32} (hw : am_w8 st ≤ 8) : am_ev 204 43 ls (.int p2 :: .int p1 :: .int p0 :: st) h = am_bd (am_den 168 [.int p0, .int p1, .int p2] h) (fun v h1 => am_ev 204 46 ls (v.toList ++ st) h1) := am_u_cS (idx := 99) (wn := 6085) (as := [.int p0, .int p1, .int p2]) am_my_204 (by decide +kernel) (by decide +kernel) am_my_168 (by decide +kernel) rfl ⟨Nat.le_of_ble_eq_true rfl, rfl⟩ hw
theorem e204_46 {ls : List (Option Value)} {st : List Value} {h : am_H} {a : Int32} : am_ev 204 46 ls (.int a :: st) h = if a = 0 then am_ev 204 67 ls st h else am_ev 204 49 ls st h := am_u_if1 (c := .eq) (off := 21) am_my_204 (by decide +kernel) (by decide)
theorem e204_49 {ls : List (Option Value)} {st : List Value} {h : am_H} {l0 l1 l2 : Option Value} {a : Int32} : am_ev 204 49 (l0 :: l1 :: l2 :: some (.int a) :: ls) (st) h = am_ev 204 50 (l0 :: l1 :: l2 :: some (.int a) :: ls) (.int a :: st) h := am_ev_step (q := (50, l0 :: l1 :: l2 :: some (.int a) :: ls, .int a :: st, h)) _ (.iload_n 3) 1 am_my_204 (by decide +kernel) rfl
theorem e204_50 {ls : List (Option Value)} {st : List Value} {h : am_H} : am_ev 204 50 (ls) (st) h = am_ev 204 51 (ls) (.int (0) :: st) h := am_ev_step (q := (51, ls, .int (0) :: st, h)) _ (.iconst (0)) 1 am_my_204 (by decide +kernel) rfl
theorem e204_51 {ls : List (Option Value)} {st : List Value} {h : am_H} : am_ev 204 51 (ls) (st) h = am_ev 204 52 (ls) (.int (1) :: st) h := am_ev_step (q := (52, ls, .int (1) :: st, h)) _ (.iconst (1)) 1 am_my_204 (by decide +kernel) rfl
theorem e204_52 {ls : List (Option Value)} {st : List Value} {h : am_H} {p0 : Int32} {p1 : Int32} {p2 : Int32} (hw : am_w8 st ≤ 8) : am_ev 204 52 ls (.int p2 :: .int p1 :: .int p0 :: st) h = am_bd (am_den 168 [.int p0, .int p1, .int p2] h) (fun v h1 => am_ev 204 55 ls (v.toList ++ st) h1) := am_u_cS (idx := 99) (wn := 6085) (as := [.int p0, .int p1, .int p2]) am_my_204 (by decide +kernel) (by decide +kernel) am_my_168 (by decide +kernel) rfl ⟨Nat.le_of_ble_eq_true rfl, rfl⟩ hw
theorem e204_55 {ls : List (Option Value)} {st : List Value} {h : am_H} {a : Int32} : am_ev 204 55 ls (.int a :: st) h = if a = 0 then am_ev 204 67 ls st h else am_ev 204 58 ls st h := am_u_if1 (c := .eq) (off := 12) am_my_204 (by decide +kernel) (by decide)
theorem e204_58 {ls : List (Option Value)} {st : List Value} {h : am_H} {a : Nat} : am_ev 204 58 (some (.ref a) :: ls) (st) h = am_ev 204 59 (some (.ref a) :: ls) (.ref a :: st) h := am_ev_step (q := (59, some (.ref a) :: ls, .ref a :: st, h)) _ (.aload_n 0) 1 am_my_204 (by decide +kernel) rfl
theorem e204_59 {ls : List (Option Value)} {st : List Value} {h : am_H} {l0 l1 : Option Value} {a : Int32} : am_ev 204 59 (l0 :: l1 :: some (.int a) :: ls) (st) h = am_ev 204 60 (l0 :: l1 :: some (.int a) :: ls) (.int a :: st) h := am_ev_step (q := (60, l0 :: l1 :: some (.int a) :: ls, .int a :: st, h)) _ (.iload_n 2) 1 am_my_204 (by decide +kernel) rfl
theorem e204_60 {ls : List (Option Value)} {st : List Value} {h : am_H} {l0 l1 l2 : Option Value} {a : Int32} : am_ev 204 60 (l0 :: l1 :: l2 :: some (.int a) :: ls) (st) h = am_ev 204 61 (l0 :: l1 :: l2 :: some (.int a) :: ls) (.int a :: st) h := am_ev_step (q := (61, l0 :: l1 :: l2 :: some (.int a) :: ls, .int a :: st, h)) _ (.iload_n 3) 1 am_my_204 (by decide +kernel) rfl
theorem e204_61 {ls : List (Option Value)} {st : List Value} {h : am_H} {p0 : Int32} {p1 : Int32} {o : Nat} (hw : am_w8 st ≤ 8) (hk : am_kd h o = some (.inl 11)) : am_ev 204 61 ls (.int p1 :: .int p0 :: .ref o :: st) h = am_bd (am_den 207 [.ref o, .int p0, .int p1] h) (fun v h1 => am_ev 204 64 ls (v.toList ++ st) h1) := am_u_cV (idx := 354) (wn := 7014) (as := [.int p0, .int p1]) am_my_204 (by decide +kernel) (Or.inl (by decide +kernel)) am_my_207 (by decide +kernel) rfl ⟨Nat.le_of_ble_eq_true rfl, rfl⟩ (by decide +kernel) hw hk
theorem e204_64 {ls : List (Option Value)} {st : List Value} {h : am_H} : am_ev 204 64 (ls) (st) h = am_ev 204 69 (ls) (st) h := am_ev_step (q := (69, ls, st, h)) _ (.goto (5)) 3 am_my_204 (by decide +kernel) rfl
theorem e204_67 {ls : List (Option Value)} {st : List Value} {h : am_H} : am_ev 204 67 (ls) (st) h = am_ev 204 69 (ls) (.int (-2) :: st) h := am_ev_step (q := (69, ls, .int (-2) :: st, h)) _ (.bipush (-2)) 2 am_my_204 (by decide +kernel) rfl
theorem e204_69 {ls : List (Option Value)} {h : am_H} {v : Int32} : am_ev 204 69 ls [.int v] h = some (some (.int v), h) := am_u_rtI am_my_204 (by decide +kernel) rfl
/-- a number of a text that is there -/
theorem den_has (h : am_H) (ok : am_okH h) (s : Nat) (hs : s < 4) (c : Nat) (hc : c ≤ 2) (e : h.1 3 s = nI c) (v : Int32) : am_den 17 [.ref 1, .int (nI s), .int v] h = some (some (.int (if 0 ≤ v ∧ v < nI c then 1 else 0)), h) := by
  have x : am_ix (nI s) 4 = true := am_ix_nI hs (by decide)
  have z : (nI s).toNatClampNeg = s := nI_clamp (by omega)
  show am_ev 17 0 [some (.ref 1), some (.int (nI s)), some (.int v)] [] h = _
  simp only [e17_0, e17_1, e17_4, e17_5, e17_6, e17_9, e17_10, e17_11, e17_14, e17_15, e17_18, e17_19, am_bd_some, Option.toList_some, Option.toList_none, List.cons_append, List.nil_append, am_w8_0, am_w8_1, am_w8_2, am_w8_3, am_w8_4, eq_self, or_true, true_or, am_kd_sI, am_kd_sL, am_kd_sR, am_tc_sI, am_tc_sL, am_tc_sR, am_len_sI, am_len_sL, am_len_sR, am_rfs, if_true, if_false, am_rdL_sI, am_rR_sL, am_rt_cq, am_kd_cq, am_tc_cq, am_len_cq, am_rd_sL, am_rd_sR, am_rdL_sR, okK_1 ok, okR_1_4 ok, okT_3 ok, okL_3 ok, x, z, e]
  by_cases c1 : v < 0
  · rw [if_pos c1, if_neg (fun q => absurd c1 (Int32.not_lt.mpr q.1))]
  · rw [if_neg c1]
    by_cases c2 : nI c ≤ v
    · rw [if_pos c2, if_neg (fun q => absurd q.2 (Int32.not_lt.mpr c2))]
    · rw [if_neg c2, if_pos ⟨Int32.not_lt.mp c1, Int32.not_le.mp c2⟩]
theorem q_m1 {c : Nat} (hc : c < 2 ^ 30) (v : Int32) : (0 ≤ v ∧ v ≤ nI c - 1) ↔ (0 ≤ v ∧ v < nI c) := by
  have e : (nI c - 1).toInt = (c : Int) - 1 := pk_sub_toInt (a := c) (b := 1) hc (by decide)
  have e2 : (nI c).toInt = (c : Int) := nI_toInt (by omega)
  rw [Int32.le_iff_toInt_le (y := nI c - 1), Int32.lt_iff_toInt_lt (y := nI c), e, e2]
  constructor
  · intro ⟨a, b⟩; exact ⟨a, by omega⟩
  · intro ⟨a, b⟩; exact ⟨a, by omega⟩
theorem den_is (h : am_H) (ok : am_okH h) (s : Nat) (hs : s < 4) (c : Nat) (hc : c ≤ 2) (e : h.1 216 s = nI c) (v : Int32) : am_den 170 [.ref 211, .int (nI s), .int v] h = some (some (.int (if 0 ≤ v ∧ v < nI c then 1 else 0)), h) := by
  have x : am_ix (nI s) 16 = true := am_ix_nI (by omega) (by decide)
  have z : (nI s).toNatClampNeg = s := nI_clamp (by omega)
  have b1 : (if 0 ≤ v ∧ v < nI c then (1 : Int32) else 0) = 0 ∨ (if 0 ≤ v ∧ v < nI c then (1 : Int32) else 0) = 1 := by split <;> simp
  show am_ev 170 0 [some (.ref 211), some (.int (nI s)), some (.int v)] [] h = _
  simp only [e170_0, e170_1, e170_2, e170_3, e170_6, e170_7, e170_8, e170_9, e170_10, e170_13, am_bd_some, Option.toList_some, Option.toList_none, List.cons_append, List.nil_append, am_w8_0, am_w8_1, am_w8_2, am_w8_3, am_w8_4, eq_self, or_true, true_or, am_kd_sI, am_kd_sL, am_kd_sR, am_tc_sI, am_tc_sL, am_tc_sR, am_len_sI, am_len_sL, am_len_sR, am_rfs, if_true, if_false, am_rdL_sI, am_rR_sL, am_rt_cq, am_kd_cq, am_tc_cq, am_len_cq, am_rd_sL, am_rd_sR, am_rdL_sR, okK_211 ok, okR_211_5 ok, okT_216 ok, okL_216 ok, x, z, e, den_in, q_m1 (show c < 2 ^ 30 by omega), b1]
/-- the pieces of the relation at what is told now -/
theorem q_Rel.cnt {A : q_All} {h : am_H} (H : q_Rel A h) (s : Nat) (hs : s < 4) : A.2.1 s ≤ 2 ∧ h.1 3 s = nI (A.2.1 s) ∧ h.1 216 s = nI (A.2.1 s) := by
  obtain ⟨c1, c2, c3⟩ := H.2.2.1.2.2.1 s hs
  refine ⟨c1, c2, ?_⟩
  rw [← c3]
  show h.1 216 s = h.1 216 (4 * 0 + s)
  rw [Nat.mul_zero, Nat.zero_add]
theorem q_in2 {v : Int32} {c : Nat} (hc : c ≤ 2) (h : 0 ≤ v ∧ v < nI c) : ∃ i : Nat, i < c ∧ v = nI i := by
  obtain ⟨j, hj, rfl⟩ := nI_of (Int32.not_lt.mpr h.1)
  exact ⟨j, (nI_ltI hj (by omega)).mp h.2, rfl⟩
theorem q_Rel.dr {A : q_All} {h : am_H} (H : q_Rel A h) (i : Nat) (hi : i < A.2.1 1) : D_ok (A.2.2.2.1 i) ∧ h.1 (11 + 16 * i) 0 = nI (A.2.2.2.1 i).1 ∧ (∀ k, k < (A.2.2.2.1 i).1 → h.1 (12 + 16 * i) k = nI ((A.2.2.2.1 i).2 k)) ∧ h.1 218 (81 * i) = nI (A.2.2.2.1 i).1 ∧ (∀ k, k < (A.2.2.2.1 i).1 → h.1 218 (81 * i + 1 + 2 * k) = nI (if (A.2.2.2.1 i).2 k < 4 then 0 else (A.2.2.2.1 i).2 k - 3) ∧ h.1 218 (81 * i + 2 + 2 * k) = if (A.2.2.2.1 i).2 k < 4 then nI ((A.2.2.2.1 i).2 k) else -1) := by
  obtain ⟨d1, d2, d3⟩ := H.2.2.1.2.2.2.2.1 i hi
  have e1 : ∀ k, q_cv h (q_at 0) (10 + 16 * i) k = h.1 (11 + 16 * i) k := fun k => by
    show h.1 (1 + (10 + 16 * i)) k = _
    rw [show 1 + (10 + 16 * i) = 11 + 16 * i by omega]
  have e2 : ∀ k, q_cv h (q_at 0) (10 + 16 * i + 1) k = h.1 (12 + 16 * i) k := fun k => by
    show h.1 (1 + (10 + 16 * i + 1)) k = _
    rw [show 1 + (10 + 16 * i + 1) = 12 + 16 * i by omega]
  have e3 : ∀ k, q_mv h 0 6 k = h.1 218 k := fun k => by
    show h.1 218 (162 * 0 + k) = _
    rw [Nat.mul_zero, Nat.zero_add]
  refine ⟨d1, (e1 0).symm.trans d2.1, fun k hk => (e2 k).symm.trans (d2.2 k hk), (e3 _).symm.trans d3.1, fun k hk => ⟨(e3 _).symm.trans (d3.2 k hk).1, (e3 _).symm.trans (d3.2 k hk).2⟩⟩
def q_drA (d : q_Dr) (k w : Int32) : Int32 := if k = -1 ∧ w = 0 then nI d.1 else if (0 ≤ k ∧ k < nI d.1) ∧ (0 ≤ w ∧ w ≤ 1) then (if w = 0 then nI (if d.2 k.toNatClampNeg < 4 then 0 else d.2 k.toNatClampNeg - 3) else if d.2 k.toNatClampNeg < 4 then nI (d.2 k.toNatClampNeg) else -1) else -2
theorem den_dans (h : am_H) (o : Nat) (d : q_Dr) (f : q_do h o) (dk : D_ok d) (e0 : h.1 o 0 = nI d.1) (e1 : ∀ k, k < d.1 → h.1 (o + 1) k = nI (d.2 k)) (k w : Int32) : am_den 112 [.ref o, .int k, .int w] h = some (some (.int (q_drA d k w)), h) := by
  obtain ⟨f1, f2, f3⟩ := f
  have d40 := dk.1
  show am_ev 112 0 [some (.ref o), some (.int k), some (.int w), none] [] h = _
  simp only [e112_0, e112_1, e112_2, e112_5, e112_6, e112_9, e112_10, e112_13, e112_14, e112_15, e112_18, e112_19, e112_20, e112_23, e112_26, e112_27, e112_30, e112_31, e112_32, e112_35, e112_37, e112_38, e112_39, e112_42, e112_43, e112_44, e112_45, e112_48, e112_49, e112_52, e112_53, e112_54, e112_55, e112_58, e112_59, e112_62, e112_63, e112_66, e112_67, e112_70, e112_71, e112_72, e112_73, e112_74, e112_75, e112_76, e112_77, e112_78, e112_81, e112_82, e112_85, e112_86, e112_87, e112_90, e112_91, am_bd_some, Option.toList_some, Option.toList_none, List.cons_append, List.nil_append, am_w8_0, am_w8_1, am_w8_2, am_w8_3, am_w8_4, eq_self, or_true, true_or, am_kd_sI, am_kd_sL, am_kd_sR, am_tc_sI, am_tc_sL, am_tc_sR, am_len_sI, am_len_sL, am_len_sR, am_rfs, if_true, if_false, am_rdL_sI, am_rR_sL, am_rt_cq, am_kd_cq, am_tc_cq, am_len_cq, am_rd_sL, am_rd_sR, am_rdL_sR, f1, f2, q_tc f3, q_ln f3, e0, q_drA]
  by_cases c1 : k = -1 ∧ w = 0
  · simp [c1]
  · by_cases c2 : (0 ≤ k ∧ k < nI d.1) ∧ (0 ≤ w ∧ w ≤ 1)
    · have n1 : ¬ k = -1 := fun q => by rw [q] at c2; exact absurd c2.1.1 (by decide)
      have n2 := Int32.not_lt.mpr c2.1.1
      have n3 := Int32.not_le.mpr c2.1.2
      have n4 := Int32.not_lt.mpr c2.2.1
      have n5 := c2.2.2
      obtain ⟨j, hj, rfl⟩ := nI_of n2
      have hj2 : j < d.1 := (nI_ltI hj (by omega)).mp c2.1.2
      have x : am_ix (nI j) 40 = true := am_ix_nI (by omega) (by decide)
      have z : (nI j).toNatClampNeg = j := nI_clamp hj
      have e := e1 j hj2
      have hd := dk.2 j hj2
      have g4 : (4 : Int32) ≤ nI (d.2 j) ↔ 4 ≤ d.2 j := nI_leI (a := 4) (by decide) (by omega)
      have s4 : 4 ≤ d.2 j → nI (d.2 j) - 4 + 1 = nI (d.2 j - 3) := fun q => by
        rw [show nI (d.2 j) - 4 = nI (d.2 j - 4) from pk_sub (b := 4) q, nI_1]
        congr 1; omega
      simp only [n1, n2, n3, n4, n5, c2, x, z, e, if_true, if_false, not_false_eq_true, false_and, and_self]
      by_cases c3 : 4 ≤ d.2 j
      · have c4 : ¬ d.2 j < 4 := by omega
        simp only [g4.mpr c3, c4, if_true, if_false, s4 c3]
        by_cases c5 : w = 0
        · simp [c5]
        · simp [c5]
      · have c4 : d.2 j < 4 := by omega
        have c6 : ¬ (4 : Int32) ≤ nI (d.2 j) := fun q => c3 (g4.mp q)
        simp only [c6, c4, if_true, if_false]
        by_cases c5 : w = 0
        · simp [c5, nI_0]
        · simp [c5]
    · rw [if_neg c1, if_neg c2]
      have t : (if ¬ k = -1 then (some (some (Value.int (-2))) : Option (Option Value)) else some (some (.int (-2)))) = some (some (.int (-2))) := by split <;> rfl
      by_cases k1 : k = -1
      · have w0 : ¬ w = 0 := fun q => c1 ⟨k1, q⟩
        have k0 : (-1 : Int32) < 0 := by decide
        simp [k1, w0, k0]
      · by_cases k2 : k < 0
        · simp [k1, k2]
        · by_cases k3 : nI d.1 ≤ k
          · simp [k1, k2, k3]
          · by_cases k4 : w < 0
            · simp [k1, k2, k3, k4]
            · have k5 : ¬ w ≤ 1 := fun q => c2 ⟨⟨Int32.not_lt.mp k2, Int32.not_le.mp k3⟩, Int32.not_lt.mp k4, q⟩
              simp [k1, k2, k3, k4, k5]
theorem q_do_now {h : am_H} (ok : am_okH h) (i : Nat) (hi : i < 2) : q_do h (11 + 16 * i) ∧ h.2.2.1 5 i = some (11 + 16 * i) := by
  obtain ⟨-, -, -, -, -, -, -, -, -, -, -, x0, x1, -, -, -, -, -, -, -, -, -, f, -, -, -, f2, -⟩ := q_to_1 ok
  have : i = 0 ∨ i = 1 := by omega
  rcases this with rfl | rfl
  · exact ⟨f, x0⟩
  · exact ⟨f2, x1⟩
def q_whA (A : q_All) (d k w : Int32) : Int32 := if 0 ≤ d ∧ d < nI (A.2.1 1) then q_drA (A.2.2.2.1 d.toNatClampNeg) k w else -2
theorem den_cwhistle {A : q_All} {h : am_H} (H : q_Rel A h) (d k w : Int32) : am_den 111 [.ref 0, .int d, .int k, .int w] h = some (some (.int (q_whA A d k w)), h) := by
  have ok := H.1
  obtain ⟨c1, c2, c3⟩ := H.cnt 1 (by decide)
  have dh := den_has h ok 1 (by decide) (A.2.1 1) c1 c2 d
  rw [show nI 1 = 1 from rfl] at dh
  show am_ev 111 0 [some (.ref 0), some (.int d), some (.int k), some (.int w)] [] h = _
  simp only [e111_0, e111_1, e111_4, e111_5, e111_6, e111_9, e111_12, e111_13, e111_16, e111_19, e111_20f, e111_20d, e111_20b, e111_20l, e111_20t, e111_21, e111_22, e111_23, e111_26, e111_29, e111_31, am_bd_some, Option.toList_some, Option.toList_none, List.cons_append, List.nil_append, am_w8_0, am_w8_1, am_w8_2, am_w8_3, am_w8_4, eq_self, or_true, true_or, am_kd_sI, am_kd_sL, am_kd_sR, am_tc_sI, am_tc_sL, am_tc_sR, am_len_sI, am_len_sL, am_len_sR, am_rfs, if_true, if_false, am_rdL_sI, am_rR_sL, am_rt_cq, am_kd_cq, am_tc_cq, am_len_cq, am_rd_sL, am_rd_sR, am_rdL_sR, okK_0 ok, okR_0_0 ok, okK_1 ok, okR_1_6 ok, okT_5 ok, okL_5 ok, dh, q_whA]
  by_cases c : 0 ≤ d ∧ d < nI (A.2.1 1)
  · obtain ⟨i, hi, rfl⟩ := q_in2 c1 c
    obtain ⟨f, r⟩ := q_do_now ok i (by omega)
    obtain ⟨d1, d2, d3, -⟩ := H.dr i hi
    have d3' : ∀ k, k < (A.2.2.2.1 i).1 → h.1 (11 + 16 * i + 1) k = nI ((A.2.2.2.1 i).2 k) := fun k hk => by rw [show 11 + 16 * i + 1 = 12 + 16 * i by omega]; exact d3 k hk
    have z : (nI i).toNatClampNeg = i := nI_clamp (by omega)
    have x : am_ix (nI i) 2 = true := am_ix_nI (by omega) (by decide)
    have y1 : (1 : Int32) = 0 ↔ False := by decide
    simp only [c, and_self, if_true, y1, if_false, z, x, r, f.1, am_bd_some, Option.toList_some, Option.toList_none, List.cons_append, List.nil_append, am_w8_0, am_w8_1, am_w8_2, am_w8_3, am_w8_4, eq_self, or_true, true_or, am_kd_sI, am_kd_sL, am_kd_sR, am_tc_sI, am_tc_sL, am_tc_sR, am_len_sI, am_len_sL, am_len_sR, am_rfs, if_true, if_false, am_rdL_sI, am_rR_sL, am_rt_cq, am_kd_cq, am_tc_cq, am_len_cq, am_rd_sL, am_rd_sR, am_rdL_sR, den_dans h (11 + 16 * i) _ f d1 d2 d3']
    simp only [e111_0, e111_1, e111_4, e111_5, e111_6, e111_9, e111_12, e111_13, e111_16, e111_19, e111_20f, e111_20d, e111_20b, e111_20l, e111_20t, e111_21, e111_22, e111_23, e111_26, e111_29, e111_31, am_bd_some, Option.toList_some, Option.toList_none, List.cons_append, List.nil_append, am_w8_0, am_w8_1, am_w8_2, am_w8_3, am_w8_4, eq_self, or_true, true_or, am_kd_sI, am_kd_sL, am_kd_sR, am_tc_sI, am_tc_sL, am_tc_sR, am_len_sI, am_len_sL, am_len_sR, am_rfs, if_true, if_false, am_rdL_sI, am_rR_sL, am_rt_cq, am_kd_cq, am_tc_cq, am_len_cq, am_rd_sL, am_rd_sR, am_rdL_sR, f.1, den_dans h (11 + 16 * i) _ f d1 d2 d3']
  · simp [c]
theorem den_mwhistle {A : q_All} {h : am_H} (ok : am_okH h) (h0 : h.1 211 0 = 0) (c1 : A.2.1 1 ≤ 2) (c3 : h.1 216 1 = nI (A.2.1 1)) (dr : ∀ i, i < A.2.1 1 → D_ok (A.2.2.2.1 i) ∧ h.1 218 (81 * i) = nI (A.2.2.2.1 i).1 ∧ (∀ k, k < (A.2.2.2.1 i).1 → h.1 218 (81 * i + 1 + 2 * k) = nI (if (A.2.2.2.1 i).2 k < 4 then 0 else (A.2.2.2.1 i).2 k - 3) ∧ h.1 218 (81 * i + 2 + 2 * k) = if (A.2.2.2.1 i).2 k < 4 then nI ((A.2.2.2.1 i).2 k) else -1)) (d k w : Int32) : am_den 204 [.ref 211, .int d, .int k, .int w] h = some (some (.int (q_whA A d k w)), am_sI h 211 39 d) := by
  have okd : am_okH (am_sI h 211 39 d) := ok
  have dis := den_is (am_sI h 211 39 d) okd 1 (by decide) (A.2.1 1) c1 c3 d
  rw [show nI 1 = 1 from rfl] at dis
  have b1 : (if 0 ≤ d ∧ d < nI (A.2.1 1) then (1 : Int32) else 0) = 0 ∨ (if 0 ≤ d ∧ d < nI (A.2.1 1) then (1 : Int32) else 0) = 1 := by split <;> simp
  have dhas : am_den 205 [.ref 211, .int d] h = some (some (.int (if 0 ≤ d ∧ d < nI (A.2.1 1) then 1 else 0)), am_sI h 211 39 d) := by
    show am_ev 205 0 [some (.ref 211), some (.int d)] [] h = _
    simp only [e205_0, e205_1, e205_2, e205_5, e205_6, e205_7, e205_8, e205_11, am_bd_some, Option.toList_some, Option.toList_none, List.cons_append, List.nil_append, am_w8_0, am_w8_1, am_w8_2, am_w8_3, am_w8_4, eq_self, or_true, true_or, am_kd_sI, am_kd_sL, am_kd_sR, am_tc_sI, am_tc_sL, am_tc_sR, am_len_sI, am_len_sL, am_len_sR, am_rfs, if_true, if_false, am_rdL_sI, am_rR_sL, am_rt_cq, am_kd_cq, am_tc_cq, am_len_cq, am_rd_sL, am_rd_sR, am_rdL_sR, okK_211 ok, dis, b1]
  show am_ev 204 0 [some (.ref 211), some (.int d), some (.int k), some (.int w)] [] h = _
  simp only [e204_0, e204_1, e204_2, e204_5, e204_6, e204_7, e204_10, e204_13, e204_15, e204_16, e204_17, e204_18, e204_21, e204_22, e204_25, e204_26, e204_29, e204_32, e204_34, e204_35, e204_36, e204_37, e204_38, e204_41, e204_42, e204_43, e204_46, e204_49, e204_50, e204_51, e204_52, e204_55, e204_58, e204_59, e204_60, e204_61, e204_64, e204_67, e204_69, am_bd_some, Option.toList_some, Option.toList_none, List.cons_append, List.nil_append, am_w8_0, am_w8_1, am_w8_2, am_w8_3, am_w8_4, eq_self, or_true, true_or, am_kd_sI, am_kd_sL, am_kd_sR, am_tc_sI, am_tc_sL, am_tc_sR, am_len_sI, am_len_sL, am_len_sR, am_rfs, if_true, if_false, am_rdL_sI, am_rR_sL, am_rt_cq, am_kd_cq, am_tc_cq, am_len_cq, am_rd_sL, am_rd_sR, am_rdL_sR, okK_211 ok, am_sI_id h0, dhas, q_whA]
  by_cases c : 0 ≤ d ∧ d < nI (A.2.1 1)
  · obtain ⟨i, hi, rfl⟩ := q_in2 c1 c
    obtain ⟨d1, d4, d5⟩ := dr i hi
    have d40 := d1.1
    have z : (nI i).toNatClampNeg = i := nI_clamp (by omega)
    have y1 : (1 : Int32) = 0 ↔ False := by decide
    have m1 : (81 : Int32) * nI i = nI (81 * i) := pk_mul 81 i
    have x1 : am_ix (nI (81 * i)) 648 = true := am_ix_nI (by omega) (by decide)
    have z1 : (nI (81 * i)).toNatClampNeg = 81 * i := nI_clamp (by omega)
    have e39 : (am_sI h 211 39 (nI i)).1 211 39 = nI i := rfl
    have e18 : ∀ j, (am_sI h 211 39 (nI i)).1 218 j = h.1 218 j := fun _ => rfl
    have dw : am_den 206 [.ref 211] (am_sI h 211 39 (nI i)) = some (some (.int (nI (A.2.2.2.1 i).1)), am_sI h 211 39 (nI i)) := by
      show am_ev 206 0 [some (.ref 211)] [] _ = _
      simp only [e206_0, e206_1, e206_4, e206_6, e206_7, e206_10, e206_11, e206_12, am_bd_some, Option.toList_some, Option.toList_none, List.cons_append, List.nil_append, am_w8_0, am_w8_1, am_w8_2, am_w8_3, am_w8_4, eq_self, or_true, true_or, am_kd_sI, am_kd_sL, am_kd_sR, am_tc_sI, am_tc_sL, am_tc_sR, am_len_sI, am_len_sL, am_len_sR, am_rfs, if_true, if_false, am_rdL_sI, am_rR_sL, am_rt_cq, am_kd_cq, am_tc_cq, am_len_cq, am_rd_sL, am_rd_sR, am_rdL_sR, okK_211 okd, okR_211_7 okd, okT_218 okd, okL_218 okd, okK_211 ok, okR_211_7 ok, okT_218 ok, okL_218 ok, e39, m1, x1, z1, e18, d4]
    simp only [c, and_self, if_true, y1, not_false_eq_true, e204_0, e204_1, e204_2, e204_5, e204_6, e204_7, e204_10, e204_13, e204_15, e204_16, e204_17, e204_18, e204_21, e204_22, e204_25, e204_26, e204_29, e204_32, e204_34, e204_35, e204_36, e204_37, e204_38, e204_41, e204_42, e204_43, e204_46, e204_49, e204_50, e204_51, e204_52, e204_55, e204_58, e204_59, e204_60, e204_61, e204_64, e204_67, e204_69, am_bd_some, Option.toList_some, Option.toList_none, List.cons_append, List.nil_append, am_w8_0, am_w8_1, am_w8_2, am_w8_3, am_w8_4, eq_self, or_true, true_or, am_kd_sI, am_kd_sL, am_kd_sR, am_tc_sI, am_tc_sL, am_tc_sR, am_len_sI, am_len_sL, am_len_sR, am_rfs, if_true, if_false, am_rdL_sI, am_rR_sL, am_rt_cq, am_kd_cq, am_tc_cq, am_len_cq, am_rd_sL, am_rd_sR, am_rdL_sR, okK_211 ok, dw, den_in, z, q_drA, q_m1 (show (A.2.2.2.1 i).1 < 2 ^ 30 by omega)]
    by_cases k1 : k = -1
    · have k0 : ¬ (0 : Int32) ≤ -1 := by decide
      by_cases w0 : w = 0
      · simp [k1, w0]
      · simp [k1, w0, k0]
    · by_cases k2 : 0 ≤ k ∧ k < nI (A.2.2.2.1 i).1
      · by_cases w1 : 0 ≤ w ∧ w ≤ 1
        · obtain ⟨j, hj, rfl⟩ := nI_of (Int32.not_lt.mpr k2.1)
          have hj2 : j < (A.2.2.2.1 i).1 := (nI_ltI hj (by omega)).mp k2.2
          obtain ⟨w', hw', rfl⟩ := q_rg 1 (by decide) w1
          have n1 : nI (81 * i) + 1 + 2 * nI j + nI w' = nI (81 * i + 1 + 2 * j + w') := by
            rw [show (2 : Int32) * nI j = nI (2 * j) from pk_mul 2 j, nI_1, nI_add, nI_add]
          have x2 : am_ix (nI (81 * i + 1 + 2 * j + w')) 648 = true := am_ix_nI (by omega) (by decide)
          have z2 : (nI (81 * i + 1 + 2 * j + w')).toNatClampNeg = 81 * i + 1 + 2 * j + w' := nI_clamp (by omega)
          have dwo : am_den 207 [.ref 211, .int (nI j), .int (nI w')] (am_sI h 211 39 (nI i)) = some (some (.int (h.1 218 (81 * i + 1 + 2 * j + w'))), am_sI h 211 39 (nI i)) := by
            show am_ev 207 0 [some (.ref 211), some (.int (nI j)), some (.int (nI w'))] [] _ = _
            simp only [e207_0, e207_1, e207_4, e207_6, e207_7, e207_10, e207_11, e207_12, e207_13, e207_14, e207_15, e207_16, e207_17, e207_18, e207_19, e207_20, am_bd_some, Option.toList_some, Option.toList_none, List.cons_append, List.nil_append, am_w8_0, am_w8_1, am_w8_2, am_w8_3, am_w8_4, eq_self, or_true, true_or, am_kd_sI, am_kd_sL, am_kd_sR, am_tc_sI, am_tc_sL, am_tc_sR, am_len_sI, am_len_sL, am_len_sR, am_rfs, if_true, if_false, am_rdL_sI, am_rR_sL, am_rt_cq, am_kd_cq, am_tc_cq, am_len_cq, am_rd_sL, am_rd_sR, am_rdL_sR, okK_211 okd, okR_211_7 okd, okT_218 okd, okL_218 okd, okK_211 ok, okR_211_7 ok, okT_218 ok, okL_218 ok, e39, m1, n1, x2, z2, e18]
          obtain ⟨g1, g2⟩ := d5 j hj2
          have zj : (nI j).toNatClampNeg = j := nI_clamp hj
          have w2 : w' = 0 ∨ w' = 1 := by omega
          rcases w2 with rfl | rfl
          · rw [Nat.add_zero, g1] at dwo
            rw [nI_0] at dwo ⊢
            simp only [k1, k2, and_self, if_true, if_false, not_false_eq_true, false_and, y1, dwo, e204_0, e204_1, e204_2, e204_5, e204_6, e204_7, e204_10, e204_13, e204_15, e204_16, e204_17, e204_18, e204_21, e204_22, e204_25, e204_26, e204_29, e204_32, e204_34, e204_35, e204_36, e204_37, e204_38, e204_41, e204_42, e204_43, e204_46, e204_49, e204_50, e204_51, e204_52, e204_55, e204_58, e204_59, e204_60, e204_61, e204_64, e204_67, e204_69, am_bd_some, Option.toList_some, Option.toList_none, List.cons_append, List.nil_append, am_w8_0, am_w8_1, am_w8_2, am_w8_3, am_w8_4, eq_self, or_true, true_or, am_kd_sI, am_kd_sL, am_kd_sR, am_tc_sI, am_tc_sL, am_tc_sR, am_len_sI, am_len_sL, am_len_sR, am_rfs, if_true, if_false, am_rdL_sI, am_rR_sL, am_rt_cq, am_kd_cq, am_tc_cq, am_len_cq, am_rd_sL, am_rd_sR, am_rdL_sR, zj, Int32.le_refl, show (0 : Int32) ≤ 1 from by decide]
          · rw [show 81 * i + 1 + 2 * j + 1 = 81 * i + 2 + 2 * j by omega, g2] at dwo
            rw [show nI 1 = 1 from rfl] at dwo ⊢
            simp only [k1, k2, and_self, if_true, if_false, not_false_eq_true, false_and, y1, dwo, e204_0, e204_1, e204_2, e204_5, e204_6, e204_7, e204_10, e204_13, e204_15, e204_16, e204_17, e204_18, e204_21, e204_22, e204_25, e204_26, e204_29, e204_32, e204_34, e204_35, e204_36, e204_37, e204_38, e204_41, e204_42, e204_43, e204_46, e204_49, e204_50, e204_51, e204_52, e204_55, e204_58, e204_59, e204_60, e204_61, e204_64, e204_67, e204_69, am_bd_some, Option.toList_some, Option.toList_none, List.cons_append, List.nil_append, am_w8_0, am_w8_1, am_w8_2, am_w8_3, am_w8_4, eq_self, or_true, true_or, am_kd_sI, am_kd_sL, am_kd_sR, am_tc_sI, am_tc_sL, am_tc_sR, am_len_sI, am_len_sL, am_len_sR, am_rfs, if_true, if_false, am_rdL_sI, am_rR_sL, am_rt_cq, am_kd_cq, am_tc_cq, am_len_cq, am_rd_sL, am_rd_sR, am_rdL_sR, zj, Int32.le_refl, show (0 : Int32) ≤ 1 from by decide]
        · simp [k1, k2, w1]
      · simp [k1, k2]
  · simp [c]
theorem ly_5 : ly_p5 := by
  intro d k w h R
  obtain ⟨A, H⟩ := R
  have ok := H.1
  obtain ⟨c1, c2, c3⟩ := H.cnt 1 (by decide)
  refine ⟨q_whA A d k w, h, am_sI h 211 39 d, ok, rfl, den_cwhistle H d k w, den_mwhistle ok H.2.1 c1 c3 (fun i hi => ?_) d k w, ⟨A, H.wk ⟨ok, rfl, fun a j q => ⟨?_, rfl⟩⟩⟩, rfl⟩
  · obtain ⟨d1, -, -, d4, d5⟩ := H.dr i hi
    exact ⟨d1, d4, d5⟩
  · rw [am_rd_sI, if_neg (fun e => ?_)]
    unfold q_told at q
    omega
