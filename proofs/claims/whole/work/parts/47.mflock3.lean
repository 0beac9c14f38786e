/-! part 47: the reference's flock goes, its dog obeys -/
theorem e214_0 {ls : List (Option Value)} {st : List Value} {h : am_H} {l0 : Option Value} {a : Int32} : am_ev 214 0 (l0 :: some (.int a) :: ls) (st) h = am_ev 214 1 (l0 :: some (.int a) :: ls) (.int a :: st) h := am_ev_step (q := (1, l0 :: some (.int a) :: ls, .int a :: st, h)) _ (.iload_n 1) 1 am_my_214 (by decide +kernel) rfl
theorem e214_1 {ls : List (Option Value)} {st : List Value} {h : am_H} : am_ev 214 1 (ls) (st) h = am_ev 214 2 (ls) (.int (-1) :: st) h := am_ev_step (q := (2, ls, .int (-1) :: st, h)) _ (.iconst (-1)) 1 am_my_214 (by decide +kernel) rfl
theorem e214_2 {ls : List (Option Value)} {st : List Value} {h : am_H} {a b : Int32} : am_ev 214 2 ls (.int b :: .int a :: st) h = if a = b then am_ev 214 34 ls st h else am_ev 214 5 ls st h := am_u_if2 (c := .eq) (off := 32) am_my_214 (by decide +kernel) (by decide)
theorem e214_5 {ls : List (Option Value)} {st : List Value} {h : am_H} {a : Nat} : am_ev 214 5 (some (.ref a) :: ls) (st) h = am_ev 214 6 (some (.ref a) :: ls) (.ref a :: st) h := am_ev_step (q := (6, some (.ref a) :: ls, .ref a :: st, h)) _ (.aload_n 0) 1 am_my_214 (by decide +kernel) rfl
theorem e214_6 {ls : List (Option Value)} {st : List Value} {h : am_H} {o : Nat} (hk : am_kd h o = some (.inl 11)) : am_ev 214 6 ls (.ref o :: st) h = am_ev 214 9 ls (va_rf (h.2.2.1 o 34) :: st) h := am_u_gfR (idx := 44) (wn := 5166) (a := 0) am_my_214 (by decide +kernel) (by decide +kernel) (by decide +kernel) hk
theorem e214_9 {ls : List (Option Value)} {st : List Value} {h : am_H} {l0 : Option Value} {a : Int32} : am_ev 214 9 (l0 :: some (.int a) :: ls) (st) h = am_ev 214 10 (l0 :: some (.int a) :: ls) (.int a :: st) h := am_ev_step (q := (10, l0 :: some (.int a) :: ls, .int a :: st, h)) _ (.iload_n 1) 1 am_my_214 (by decide +kernel) rfl
theorem e214_10 {ls : List (Option Value)} {st : List Value} {h : am_H} {i : Int32} {a : Nat} (ht : am_tc h a = some 1) : am_ev 214 10 ls (.int i :: .ref a :: st) h = if am_ix i (am_len h a) = true then am_ev 214 11 ls (.int (am_byte (h.1 a i.toNatClampNeg)) :: st) h else none := am_u_rB am_my_214 (by decide +kernel) ht
theorem e214_10z {ls : List (Option Value)} {st : List Value} {h : am_H} {i : Int32} {a : Nat} (ht : am_tc h a = some 2) : am_ev 214 10 ls (.int i :: .ref a :: st) h = if am_ix i (am_len h a) = true then am_ev 214 11 ls (.int (h.1 a i.toNatClampNeg) :: st) h else none := am_u_rZ am_my_214 (by decide +kernel) ht
theorem e214_11 {ls : List (Option Value)} {st : List Value} {h : am_H} {a : Int32} : am_ev 214 11 ls (.int a :: st) h = if ¬ a = 0 then am_ev 214 34 ls st h else am_ev 214 14 ls st h := am_u_if1 (c := .ne) (off := 23) am_my_214 (by decide +kernel) (by decide)
theorem e214_14 {ls : List (Option Value)} {st : List Value} {h : am_H} {l0 : Option Value} {a : Int32} : am_ev 214 14 (l0 :: some (.int a) :: ls) (st) h = am_ev 214 15 (l0 :: some (.int a) :: ls) (.int a :: st) h := am_ev_step (q := (15, l0 :: some (.int a) :: ls, .int a :: st, h)) _ (.iload_n 1) 1 am_my_214 (by decide +kernel) rfl
theorem e214_15 {ls : List (Option Value)} {st : List Value} {h : am_H} {a : Nat} : am_ev 214 15 (some (.ref a) :: ls) (st) h = am_ev 214 16 (some (.ref a) :: ls) (.ref a :: st) h := am_ev_step (q := (16, some (.ref a) :: ls, .ref a :: st, h)) _ (.aload_n 0) 1 am_my_214 (by decide +kernel) rfl
theorem e214_16 {ls : List (Option Value)} {st : List Value} {h : am_H} {o : Nat} (hk : am_kd h o = some (.inl 11)) : am_ev 214 16 ls (.ref o :: st) h = am_ev 214 19 ls (.int (h.1 o 27) :: st) h := am_u_gfI (idx := 291) (wn := 5159) am_my_214 (by decide +kernel) (by decide +kernel) (by decide +kernel) hk
theorem e214_19 {ls : List (Option Value)} {st : List Value} {h : am_H} {a b : Int32} : am_ev 214 19 ls (.int b :: .int a :: st) h = if a = b then am_ev 214 34 ls st h else am_ev 214 22 ls st h := am_u_if2 (c := .eq) (off := 15) am_my_214 (by decide +kernel) (by decide)
theorem e214_22 {ls : List (Option Value)} {st : List Value} {h : am_H} {a : Nat} : am_ev 214 22 (some (.ref a) :: ls) (st) h = am_ev 214 23 (some (.ref a) :: ls) (.ref a :: st) h := am_ev_step (q := (23, some (.ref a) :: ls, .ref a :: st, h)) _ (.aload_n 0) 1 am_my_214 (by decide +kernel) rfl
theorem e214_23 {ls : List (Option Value)} {st : List Value} {h : am_H} {l0 : Option Value} {a : Int32} : am_ev 214 23 (l0 :: some (.int a) :: ls) (st) h = am_ev 214 24 (l0 :: some (.int a) :: ls) (.int a :: st) h := am_ev_step (q := (24, l0 :: some (.int a) :: ls, .int a :: st, h)) _ (.iload_n 1) 1 am_my_214 (by decide +kernel) rfl
theorem e214_24 {ls : List (Option Value)} {st : List Value} {h : am_H} {p0 : Int32} {o : Nat} (hw : am_w8 st ≤ 8) (hk : am_kd h o = some (.inl 11)) : am_ev 214 24 ls (.int p0 :: .ref o :: st) h = am_bd (am_den 215 [.ref o, .int p0] h) (fun v h1 => am_ev 214 27 ls (v.toList ++ st) h1) := am_u_cV (idx := 324) (wn := 7046) (as := [.int p0]) am_my_214 (by decide +kernel) (Or.inl (by decide +kernel)) am_my_215 (by decide +kernel) rfl ⟨Nat.le_of_ble_eq_true rfl, rfl⟩ (by decide +kernel) hw hk
theorem e214_27 {ls : List (Option Value)} {st : List Value} {h : am_H} {a : Int32} : am_ev 214 27 ls (.int a :: st) h = if ¬ a = 0 then am_ev 214 34 ls st h else am_ev 214 30 ls st h := am_u_if1 (c := .ne) (off := 7) am_my_214 (by decide +kernel) (by decide)
theorem e214_30 {ls : List (Option Value)} {st : List Value} {h : am_H} : am_ev 214 30 (ls) (st) h = am_ev 214 31 (ls) (.int (1) :: st) h := am_ev_step (q := (31, ls, .int (1) :: st, h)) _ (.iconst (1)) 1 am_my_214 (by decide +kernel) rfl
theorem e214_31 {ls : List (Option Value)} {st : List Value} {h : am_H} : am_ev 214 31 (ls) (st) h = am_ev 214 35 (ls) (st) h := am_ev_step (q := (35, ls, st, h)) _ (.goto (4)) 3 am_my_214 (by decide +kernel) rfl
theorem e214_34 {ls : List (Option Value)} {st : List Value} {h : am_H} : am_ev 214 34 (ls) (st) h = am_ev 214 35 (ls) (.int (0) :: st) h := am_ev_step (q := (35, ls, .int (0) :: st, h)) _ (.iconst (0)) 1 am_my_214 (by decide +kernel) rfl
theorem e214_35 {ls : List (Option Value)} {h : am_H} {v : Int32} (hv : v = 0 ∨ v = 1) : am_ev 214 35 ls [.int v] h = some (some (.int v), h) := am_u_rtZ am_my_214 (by decide +kernel) rfl hv
theorem e212_0 {ls : List (Option Value)} {st : List Value} {h : am_H} {a : Nat} : am_ev 212 0 (some (.ref a) :: ls) (st) h = am_ev 212 1 (some (.ref a) :: ls) (.ref a :: st) h := am_ev_step (q := (1, some (.ref a) :: ls, .ref a :: st, h)) _ (.aload_n 0) 1 am_my_212 (by decide +kernel) rfl
theorem e212_1 {ls : List (Option Value)} {st : List Value} {h : am_H} {a : Nat} : am_ev 212 1 (some (.ref a) :: ls) (st) h = am_ev 212 2 (some (.ref a) :: ls) (.ref a :: st) h := am_ev_step (q := (2, some (.ref a) :: ls, .ref a :: st, h)) _ (.aload_n 0) 1 am_my_212 (by decide +kernel) rfl
theorem e212_2 {ls : List (Option Value)} {st : List Value} {h : am_H} {o : Nat} (hk : am_kd h o = some (.inl 11)) : am_ev 212 2 ls (.ref o :: st) h = am_ev 212 5 ls (.int (h.1 o 28) :: st) h := am_u_gfI (idx := 294) (wn := 5160) am_my_212 (by decide +kernel) (by decide +kernel) (by decide +kernel) hk
theorem e212_5 {ls : List (Option Value)} {st : List Value} {h : am_H} {l0 : Option Value} {a : Int32} : am_ev 212 5 (l0 :: some (.int a) :: ls) (st) h = am_ev 212 6 (l0 :: some (.int a) :: ls) (.int a :: st) h := am_ev_step (q := (6, l0 :: some (.int a) :: ls, .int a :: st, h)) _ (.iload_n 1) 1 am_my_212 (by decide +kernel) rfl
theorem e212_6 {ls : List (Option Value)} {st : List Value} {h : am_H} {p0 : Int32} {p1 : Int32} {o : Nat} (hw : am_w8 st ≤ 8) (hk : am_kd h o = some (.inl 11)) : am_ev 212 6 ls (.int p1 :: .int p0 :: .ref o :: st) h = am_bd (am_den 213 [.ref o, .int p0, .int p1] h) (fun v h1 => am_ev 212 9 ls (v.toList ++ st) h1) := am_u_cV (idx := 318) (wn := 7038) (as := [.int p0, .int p1]) am_my_212 (by decide +kernel) (Or.inl (by decide +kernel)) am_my_213 (by decide +kernel) rfl ⟨Nat.le_of_ble_eq_true rfl, rfl⟩ (by decide +kernel) hw hk
theorem e212_9 {ls : List (Option Value)} {st : List Value} {h : am_H} {l0 l1 : Option Value} {z : Option Value} {a : Int32} : am_ev 212 9 (l0 :: l1 :: z :: ls) (.int a :: st) h = am_ev 212 10 (l0 :: l1 :: some (.int a) :: ls) (st) h := am_ev_step (q := (10, l0 :: l1 :: some (.int a) :: ls, st, h)) _ (.istore_n 2) 1 am_my_212 (by decide +kernel) rfl
theorem e212_10 {ls : List (Option Value)} {st : List Value} {h : am_H} {a : Nat} : am_ev 212 10 (some (.ref a) :: ls) (st) h = am_ev 212 11 (some (.ref a) :: ls) (.ref a :: st) h := am_ev_step (q := (11, some (.ref a) :: ls, .ref a :: st, h)) _ (.aload_n 0) 1 am_my_212 (by decide +kernel) rfl
theorem e212_11 {ls : List (Option Value)} {st : List Value} {h : am_H} {l0 l1 : Option Value} {a : Int32} : am_ev 212 11 (l0 :: l1 :: some (.int a) :: ls) (st) h = am_ev 212 12 (l0 :: l1 :: some (.int a) :: ls) (.int a :: st) h := am_ev_step (q := (12, l0 :: l1 :: some (.int a) :: ls, .int a :: st, h)) _ (.iload_n 2) 1 am_my_212 (by decide +kernel) rfl
theorem e212_12 {ls : List (Option Value)} {st : List Value} {h : am_H} {p0 : Int32} {o : Nat} (hw : am_w8 st ≤ 8) (hk : am_kd h o = some (.inl 11)) : am_ev 212 12 ls (.int p0 :: .ref o :: st) h = am_bd (am_den 214 [.ref o, .int p0] h) (fun v h1 => am_ev 212 15 ls (v.toList ++ st) h1) := am_u_cV (idx := 357) (wn := 7042) (as := [.int p0]) am_my_212 (by decide +kernel) (Or.inl (by decide +kernel)) am_my_214 (by decide +kernel) rfl ⟨Nat.le_of_ble_eq_true rfl, rfl⟩ (by decide +kernel) hw hk
theorem e212_15 {ls : List (Option Value)} {st : List Value} {h : am_H} {a : Int32} : am_ev 212 15 ls (.int a :: st) h = if ¬ a = 0 then am_ev 212 20 ls st h else am_ev 212 18 ls st h := am_u_if1 (c := .ne) (off := 5) am_my_212 (by decide +kernel) (by decide)
theorem e212_18 {ls : List (Option Value)} {st : List Value} {h : am_H} : am_ev 212 18 (ls) (st) h = am_ev 212 19 (ls) (.int (0) :: st) h := am_ev_step (q := (19, ls, .int (0) :: st, h)) _ (.iconst (0)) 1 am_my_212 (by decide +kernel) rfl
theorem e212_19 {ls : List (Option Value)} {h : am_H} {v : Int32} (hv : v = 0 ∨ v = 1) : am_ev 212 19 ls [.int v] h = some (some (.int v), h) := am_u_rtZ am_my_212 (by decide +kernel) rfl hv
theorem e212_20 {ls : List (Option Value)} {st : List Value} {h : am_H} {a : Nat} : am_ev 212 20 (some (.ref a) :: ls) (st) h = am_ev 212 21 (some (.ref a) :: ls) (.ref a :: st) h := am_ev_step (q := (21, some (.ref a) :: ls, .ref a :: st, h)) _ (.aload_n 0) 1 am_my_212 (by decide +kernel) rfl
theorem e212_21 {ls : List (Option Value)} {st : List Value} {h : am_H} {l0 l1 : Option Value} {a : Int32} : am_ev 212 21 (l0 :: l1 :: some (.int a) :: ls) (st) h = am_ev 212 22 (l0 :: l1 :: some (.int a) :: ls) (.int a :: st) h := am_ev_step (q := (22, l0 :: l1 :: some (.int a) :: ls, .int a :: st, h)) _ (.iload_n 2) 1 am_my_212 (by decide +kernel) rfl
theorem e212_22 {ls : List (Option Value)} {st : List Value} {h : am_H} {o : Nat} {v : Int32} (hk : am_kd h o = some (.inl 11)) : am_ev 212 22 ls (.int v :: .ref o :: st) h = am_ev 212 25 ls st (am_sI h o 28 v) := am_u_pfI (idx := 294) (wn := 5160) am_my_212 (by decide +kernel) (by decide +kernel) (by decide +kernel) (by decide +kernel) hk
theorem e212_25 {ls : List (Option Value)} {st : List Value} {h : am_H} {a : Nat} : am_ev 212 25 (some (.ref a) :: ls) (st) h = am_ev 212 26 (some (.ref a) :: ls) (.ref a :: st) h := am_ev_step (q := (26, some (.ref a) :: ls, .ref a :: st, h)) _ (.aload_n 0) 1 am_my_212 (by decide +kernel) rfl
theorem e212_26 {ls : List (Option Value)} {st : List Value} {h : am_H} : am_ev 212 26 (ls) (st) h = am_ev 212 27 (ls) (.int (0) :: st) h := am_ev_step (q := (27, ls, .int (0) :: st, h)) _ (.iconst (0)) 1 am_my_212 (by decide +kernel) rfl
theorem e212_27 {ls : List (Option Value)} {st : List Value} {h : am_H} {o : Nat} {v : Int32} (hk : am_kd h o = some (.inl 11)) (hv : v = 0 ∨ v = 1) : am_ev 212 27 ls (.int v :: .ref o :: st) h = am_ev 212 30 ls st (am_sI h o 32 v) := am_u_pfZ (idx := 306) (wn := 5164) am_my_212 (by decide +kernel) (by decide +kernel) (by decide +kernel) (by decide +kernel) hk hv
theorem e212_30 {ls : List (Option Value)} {st : List Value} {h : am_H} : am_ev 212 30 (ls) (st) h = am_ev 212 31 (ls) (.int (1) :: st) h := am_ev_step (q := (31, ls, .int (1) :: st, h)) _ (.iconst (1)) 1 am_my_212 (by decide +kernel) rfl
theorem e212_31 {ls : List (Option Value)} {h : am_H} {v : Int32} (hv : v = 0 ∨ v = 1) : am_ev 212 31 ls [.int v] h = some (some (.int v), h) := am_u_rtZ am_my_212 (by decide +kernel) rfl hv
theorem e238_0 {ls : List (Option Value)} {st : List Value} {h : am_H} {a : Nat} : am_ev 238 0 (some (.ref a) :: ls) (st) h = am_ev 238 1 (some (.ref a) :: ls) (.ref a :: st) h := am_ev_step (q := (1, some (.ref a) :: ls, .ref a :: st, h)) _ (.aload_n 0) 1 am_my_238 (by decide +kernel) rfl
theorem e238_1 {ls : List (Option Value)} {st : List Value} {h : am_H} {l0 l1 : Option Value} {a : Int32} : am_ev 238 1 (l0 :: l1 :: some (.int a) :: ls) (st) h = am_ev 238 2 (l0 :: l1 :: some (.int a) :: ls) (.int a :: st) h := am_ev_step (q := (2, l0 :: l1 :: some (.int a) :: ls, .int a :: st, h)) _ (.iload_n 2) 1 am_my_238 (by decide +kernel) rfl
theorem e238_2 {ls : List (Option Value)} {st : List Value} {h : am_H} {o : Nat} {v : Int32} (hk : am_kd h o = some (.inl 11)) : am_ev 238 2 ls (.int v :: .ref o :: st) h = am_ev 238 5 ls st (am_sI h o 28 v) := am_u_pfI (idx := 294) (wn := 5160) am_my_238 (by decide +kernel) (by decide +kernel) (by decide +kernel) (by decide +kernel) hk
theorem e238_5 {ls : List (Option Value)} {st : List Value} {h : am_H} {a : Nat} : am_ev 238 5 (some (.ref a) :: ls) (st) h = am_ev 238 6 (some (.ref a) :: ls) (.ref a :: st) h := am_ev_step (q := (6, some (.ref a) :: ls, .ref a :: st, h)) _ (.aload_n 0) 1 am_my_238 (by decide +kernel) rfl
theorem e238_6 {ls : List (Option Value)} {st : List Value} {h : am_H} {l0 : Option Value} {a : Int32} : am_ev 238 6 (l0 :: some (.int a) :: ls) (st) h = am_ev 238 7 (l0 :: some (.int a) :: ls) (.int a :: st) h := am_ev_step (q := (7, l0 :: some (.int a) :: ls, .int a :: st, h)) _ (.iload_n 1) 1 am_my_238 (by decide +kernel) rfl
theorem e238_7 {ls : List (Option Value)} {st : List Value} {h : am_H} {p0 : Int32} {o : Nat} (hw : am_w8 st ≤ 8) (hk : am_kd h o = some (.inl 11)) : am_ev 238 7 ls (.int p0 :: .ref o :: st) h = am_bd (am_den 219 [.ref o, .int p0] h) (fun v h1 => am_ev 238 10 ls (v.toList ++ st) h1) := am_u_cV (idx := 330) (wn := 7062) (as := [.int p0]) am_my_238 (by decide +kernel) (Or.inl (by decide +kernel)) am_my_219 (by decide +kernel) rfl ⟨Nat.le_of_ble_eq_true rfl, rfl⟩ (by decide +kernel) hw hk
theorem e238_10 {ls : List (Option Value)} {st : List Value} {h : am_H} {a : Int32} : am_ev 238 10 ls (.int a :: st) h = if a = 0 then am_ev 238 26 ls st h else am_ev 238 13 ls st h := am_u_if1 (c := .eq) (off := 16) am_my_238 (by decide +kernel) (by decide)
theorem e238_13 {ls : List (Option Value)} {st : List Value} {h : am_H} {a : Nat} : am_ev 238 13 (some (.ref a) :: ls) (st) h = am_ev 238 14 (some (.ref a) :: ls) (.ref a :: st) h := am_ev_step (q := (14, some (.ref a) :: ls, .ref a :: st, h)) _ (.aload_n 0) 1 am_my_238 (by decide +kernel) rfl
theorem e238_14 {ls : List (Option Value)} {st : List Value} {h : am_H} {l0 : Option Value} {a : Int32} : am_ev 238 14 (l0 :: some (.int a) :: ls) (st) h = am_ev 238 15 (l0 :: some (.int a) :: ls) (.int a :: st) h := am_ev_step (q := (15, l0 :: some (.int a) :: ls, .int a :: st, h)) _ (.iload_n 1) 1 am_my_238 (by decide +kernel) rfl
theorem e238_15 {ls : List (Option Value)} {st : List Value} {h : am_H} {p0 : Int32} {o : Nat} (hw : am_w8 st ≤ 8) (hk : am_kd h o = some (.inl 11)) : am_ev 238 15 ls (.int p0 :: .ref o :: st) h = am_bd (am_den 223 [.ref o, .int p0] h) (fun v h1 => am_ev 238 18 ls (v.toList ++ st) h1) := am_u_cV (idx := 327) (wn := 7077) (as := [.int p0]) am_my_238 (by decide +kernel) (Or.inl (by decide +kernel)) am_my_223 (by decide +kernel) rfl ⟨Nat.le_of_ble_eq_true rfl, rfl⟩ (by decide +kernel) hw hk
theorem e238_18 {ls : List (Option Value)} {st : List Value} {h : am_H} : am_ev 238 18 (ls) (st) h = am_ev 238 19 (ls) (.int (-1) :: st) h := am_ev_step (q := (19, ls, .int (-1) :: st, h)) _ (.iconst (-1)) 1 am_my_238 (by decide +kernel) rfl
theorem e238_19 {ls : List (Option Value)} {st : List Value} {h : am_H} {a b : Int32} : am_ev 238 19 ls (.int b :: .int a :: st) h = if a = b then am_ev 238 26 ls st h else am_ev 238 22 ls st h := am_u_if2 (c := .eq) (off := 7) am_my_238 (by decide +kernel) (by decide)
theorem e238_22 {ls : List (Option Value)} {st : List Value} {h : am_H} : am_ev 238 22 (ls) (st) h = am_ev 238 23 (ls) (.int (1) :: st) h := am_ev_step (q := (23, ls, .int (1) :: st, h)) _ (.iconst (1)) 1 am_my_238 (by decide +kernel) rfl
theorem e238_23 {ls : List (Option Value)} {st : List Value} {h : am_H} : am_ev 238 23 (ls) (st) h = am_ev 238 27 (ls) (st) h := am_ev_step (q := (27, ls, st, h)) _ (.goto (4)) 3 am_my_238 (by decide +kernel) rfl
theorem e238_26 {ls : List (Option Value)} {st : List Value} {h : am_H} : am_ev 238 26 (ls) (st) h = am_ev 238 27 (ls) (.int (0) :: st) h := am_ev_step (q := (27, ls, .int (0) :: st, h)) _ (.iconst (0)) 1 am_my_238 (by decide +kernel) rfl
theorem e238_27 {ls : List (Option Value)} {h : am_H} {v : Int32} (hv : v = 0 ∨ v = 1) : am_ev 238 27 ls [.int v] h = some (some (.int v), h) := am_u_rtZ am_my_238 (by decide +kernel) rfl hv
theorem e211_0 {ls : List (Option Value)} {st : List Value} {h : am_H} {l0 : Option Value} {a : Int32} : am_ev 211 0 (l0 :: some (.int a) :: ls) (st) h = am_ev 211 1 (l0 :: some (.int a) :: ls) (.int a :: st) h := am_ev_step (q := (1, l0 :: some (.int a) :: ls, .int a :: st, h)) _ (.iload_n 1) 1 am_my_211 (by decide +kernel) rfl
theorem e211_1 {ls : List (Option Value)} {st : List Value} {h : am_H} {a : Int32} : am_ev 211 1 ls (.int a :: st) h = if ¬ a = 0 then am_ev 211 12 ls st h else am_ev 211 4 ls st h := am_u_if1 (c := .ne) (off := 11) am_my_211 (by decide +kernel) (by decide)
theorem e211_4 {ls : List (Option Value)} {st : List Value} {h : am_H} {a : Nat} : am_ev 211 4 (some (.ref a) :: ls) (st) h = am_ev 211 5 (some (.ref a) :: ls) (.ref a :: st) h := am_ev_step (q := (5, some (.ref a) :: ls, .ref a :: st, h)) _ (.aload_n 0) 1 am_my_211 (by decide +kernel) rfl
theorem e211_5 {ls : List (Option Value)} {st : List Value} {h : am_H} {l0 l1 : Option Value} {a : Int32} : am_ev 211 5 (l0 :: l1 :: some (.int a) :: ls) (st) h = am_ev 211 6 (l0 :: l1 :: some (.int a) :: ls) (.int a :: st) h := am_ev_step (q := (6, l0 :: l1 :: some (.int a) :: ls, .int a :: st, h)) _ (.iload_n 2) 1 am_my_211 (by decide +kernel) rfl
theorem e211_6 {ls : List (Option Value)} {st : List Value} {h : am_H} {p0 : Int32} {o : Nat} (hw : am_w8 st ≤ 8) (hk : am_kd h o = some (.inl 11)) : am_ev 211 6 ls (.int p0 :: .ref o :: st) h = am_bd (am_den 212 [.ref o, .int p0] h) (fun v h1 => am_ev 211 9 ls (v.toList ++ st) h1) := am_u_cV (idx := 360) (wn := 7034) (as := [.int p0]) am_my_211 (by decide +kernel) (Or.inl (by decide +kernel)) am_my_212 (by decide +kernel) rfl ⟨Nat.le_of_ble_eq_true rfl, rfl⟩ (by decide +kernel) hw hk
theorem e211_9 {ls : List (Option Value)} {st : List Value} {h : am_H} : am_ev 211 9 (ls) (st) h = am_ev 211 39 (ls) (st) h := am_ev_step (q := (39, ls, st, h)) _ (.goto (30)) 3 am_my_211 (by decide +kernel) rfl
theorem e211_12 {ls : List (Option Value)} {st : List Value} {h : am_H} {l0 : Option Value} {a : Int32} : am_ev 211 12 (l0 :: some (.int a) :: ls) (st) h = am_ev 211 13 (l0 :: some (.int a) :: ls) (.int a :: st) h := am_ev_step (q := (13, l0 :: some (.int a) :: ls, .int a :: st, h)) _ (.iload_n 1) 1 am_my_211 (by decide +kernel) rfl
theorem e211_13 {ls : List (Option Value)} {st : List Value} {h : am_H} : am_ev 211 13 (ls) (st) h = am_ev 211 14 (ls) (.int (3) :: st) h := am_ev_step (q := (14, ls, .int (3) :: st, h)) _ (.iconst (3)) 1 am_my_211 (by decide +kernel) rfl
theorem e211_14 {ls : List (Option Value)} {st : List Value} {h : am_H} {a b : Int32} : am_ev 211 14 ls (.int b :: .int a :: st) h = if a = b then am_ev 211 34 ls st h else am_ev 211 17 ls st h := am_u_if2 (c := .eq) (off := 20) am_my_211 (by decide +kernel) (by decide)
theorem e211_17 {ls : List (Option Value)} {st : List Value} {h : am_H} {a : Nat} : am_ev 211 17 (some (.ref a) :: ls) (st) h = am_ev 211 18 (some (.ref a) :: ls) (.ref a :: st) h := am_ev_step (q := (18, some (.ref a) :: ls, .ref a :: st, h)) _ (.aload_n 0) 1 am_my_211 (by decide +kernel) rfl
theorem e211_18 {ls : List (Option Value)} {st : List Value} {h : am_H} {l0 : Option Value} {a : Int32} : am_ev 211 18 (l0 :: some (.int a) :: ls) (st) h = am_ev 211 19 (l0 :: some (.int a) :: ls) (.int a :: st) h := am_ev_step (q := (19, l0 :: some (.int a) :: ls, .int a :: st, h)) _ (.iload_n 1) 1 am_my_211 (by decide +kernel) rfl
theorem e211_19 {ls : List (Option Value)} {st : List Value} {h : am_H} : am_ev 211 19 (ls) (st) h = am_ev 211 20 (ls) (.int (1) :: st) h := am_ev_step (q := (20, ls, .int (1) :: st, h)) _ (.iconst (1)) 1 am_my_211 (by decide +kernel) rfl
theorem e211_20 {ls : List (Option Value)} {st : List Value} {h : am_H} {a b : Int32} : am_ev 211 20 ls (.int b :: .int a :: st) h = if ¬ a = b then am_ev 211 27 ls st h else am_ev 211 23 ls st h := am_u_if2 (c := .ne) (off := 7) am_my_211 (by decide +kernel) (by decide)
theorem e211_23 {ls : List (Option Value)} {st : List Value} {h : am_H} : am_ev 211 23 (ls) (st) h = am_ev 211 24 (ls) (.int (1) :: st) h := am_ev_step (q := (24, ls, .int (1) :: st, h)) _ (.iconst (1)) 1 am_my_211 (by decide +kernel) rfl
theorem e211_24 {ls : List (Option Value)} {st : List Value} {h : am_H} : am_ev 211 24 (ls) (st) h = am_ev 211 28 (ls) (st) h := am_ev_step (q := (28, ls, st, h)) _ (.goto (4)) 3 am_my_211 (by decide +kernel) rfl
theorem e211_27 {ls : List (Option Value)} {st : List Value} {h : am_H} : am_ev 211 27 (ls) (st) h = am_ev 211 28 (ls) (.int (0) :: st) h := am_ev_step (q := (28, ls, .int (0) :: st, h)) _ (.iconst (0)) 1 am_my_211 (by decide +kernel) rfl
theorem e211_28 {ls : List (Option Value)} {st : List Value} {h : am_H} {p0 : Int32} {o : Nat} (hw : am_w8 st ≤ 8) (hk : am_kd h o = some (.inl 11)) : am_ev 211 28 ls (.int p0 :: .ref o :: st) h = am_bd (am_den 216 [.ref o, .int p0] h) (fun v h1 => am_ev 211 31 ls (v.toList ++ st) h1) := am_u_cV (idx := 363) (wn := 7050) (as := [.int p0]) am_my_211 (by decide +kernel) (Or.inl (by decide +kernel)) am_my_216 (by decide +kernel) rfl ⟨Nat.le_of_ble_eq_true rfl, rfl⟩ (by decide +kernel) hw hk
theorem e211_31 {ls : List (Option Value)} {st : List Value} {h : am_H} {a : Int32} : am_ev 211 31 ls (.int a :: st) h = if a = 0 then am_ev 211 38 ls st h else am_ev 211 34 ls st h := am_u_if1 (c := .eq) (off := 7) am_my_211 (by decide +kernel) (by decide)
theorem e211_34 {ls : List (Option Value)} {st : List Value} {h : am_H} : am_ev 211 34 (ls) (st) h = am_ev 211 35 (ls) (.int (1) :: st) h := am_ev_step (q := (35, ls, .int (1) :: st, h)) _ (.iconst (1)) 1 am_my_211 (by decide +kernel) rfl
theorem e211_35 {ls : List (Option Value)} {st : List Value} {h : am_H} : am_ev 211 35 (ls) (st) h = am_ev 211 39 (ls) (st) h := am_ev_step (q := (39, ls, st, h)) _ (.goto (4)) 3 am_my_211 (by decide +kernel) rfl
theorem e211_38 {ls : List (Option Value)} {st : List Value} {h : am_H} : am_ev 211 38 (ls) (st) h = am_ev 211 39 (ls) (.int (0) :: st) h := am_ev_step (q := (39, ls, .int (0) :: st, h)) _ (.iconst (0)) 1 am_my_211 (by decide +kernel) rfl
theorem e211_39 {ls : List (Option Value)} {st : List Value} {h : am_H} {l0 l1 l2 : Option Value} {z : Option Value} {a : Int32} : am_ev 211 39 (l0 :: l1 :: l2 :: z :: ls) (.int a :: st) h = am_ev 211 40 (l0 :: l1 :: l2 :: some (.int a) :: ls) (st) h := am_ev_step (q := (40, l0 :: l1 :: l2 :: some (.int a) :: ls, st, h)) _ (.istore_n 3) 1 am_my_211 (by decide +kernel) rfl
theorem e211_40 {ls : List (Option Value)} {st : List Value} {h : am_H} {l0 l1 l2 : Option Value} {a : Int32} : am_ev 211 40 (l0 :: l1 :: l2 :: some (.int a) :: ls) (st) h = am_ev 211 41 (l0 :: l1 :: l2 :: some (.int a) :: ls) (.int a :: st) h := am_ev_step (q := (41, l0 :: l1 :: l2 :: some (.int a) :: ls, .int a :: st, h)) _ (.iload_n 3) 1 am_my_211 (by decide +kernel) rfl
theorem e211_41 {ls : List (Option Value)} {st : List Value} {h : am_H} {a : Int32} : am_ev 211 41 ls (.int a :: st) h = if a = 0 then am_ev 211 76 ls st h else am_ev 211 44 ls st h := am_u_if1 (c := .eq) (off := 35) am_my_211 (by decide +kernel) (by decide)
theorem e211_44 {ls : List (Option Value)} {st : List Value} {h : am_H} {a : Nat} : am_ev 211 44 (some (.ref a) :: ls) (st) h = am_ev 211 45 (some (.ref a) :: ls) (.ref a :: st) h := am_ev_step (q := (45, some (.ref a) :: ls, .ref a :: st, h)) _ (.aload_n 0) 1 am_my_211 (by decide +kernel) rfl
theorem e211_45 {ls : List (Option Value)} {st : List Value} {h : am_H} {l0 : Option Value} {a : Int32} : am_ev 211 45 (l0 :: some (.int a) :: ls) (st) h = am_ev 211 46 (l0 :: some (.int a) :: ls) (.int a :: st) h := am_ev_step (q := (46, l0 :: some (.int a) :: ls, .int a :: st, h)) _ (.iload_n 1) 1 am_my_211 (by decide +kernel) rfl
theorem e211_46 {ls : List (Option Value)} {st : List Value} {h : am_H} : am_ev 211 46 (ls) (st) h = am_ev 211 47 (ls) (.int (3) :: st) h := am_ev_step (q := (47, ls, .int (3) :: st, h)) _ (.iconst (3)) 1 am_my_211 (by decide +kernel) rfl
theorem e211_47 {ls : List (Option Value)} {st : List Value} {h : am_H} {a b : Int32} : am_ev 211 47 ls (.int b :: .int a :: st) h = if ¬ a = b then am_ev 211 65 ls st h else am_ev 211 50 ls st h := am_u_if2 (c := .ne) (off := 18) am_my_211 (by decide +kernel) (by decide)
theorem e211_50 {ls : List (Option Value)} {st : List Value} {h : am_H} {a : Nat} : am_ev 211 50 (some (.ref a) :: ls) (st) h = am_ev 211 51 (some (.ref a) :: ls) (.ref a :: st) h := am_ev_step (q := (51, some (.ref a) :: ls, .ref a :: st, h)) _ (.aload_n 0) 1 am_my_211 (by decide +kernel) rfl
theorem e211_51 {ls : List (Option Value)} {st : List Value} {h : am_H} {o : Nat} (hk : am_kd h o = some (.inl 11)) : am_ev 211 51 ls (.ref o :: st) h = am_ev 211 54 ls (.int (h.1 o 33) :: st) h := am_u_gfI (idx := 309) (wn := 5165) am_my_211 (by decide +kernel) (by decide +kernel) (by decide +kernel) hk
theorem e211_54 {ls : List (Option Value)} {st : List Value} {h : am_H} {a : Int32} : am_ev 211 54 ls (.int a :: st) h = if ¬ a = 0 then am_ev 211 61 ls st h else am_ev 211 57 ls st h := am_u_if1 (c := .ne) (off := 7) am_my_211 (by decide +kernel) (by decide)
theorem e211_57 {ls : List (Option Value)} {st : List Value} {h : am_H} : am_ev 211 57 (ls) (st) h = am_ev 211 58 (ls) (.int (1) :: st) h := am_ev_step (q := (58, ls, .int (1) :: st, h)) _ (.iconst (1)) 1 am_my_211 (by decide +kernel) rfl
theorem e211_58 {ls : List (Option Value)} {st : List Value} {h : am_H} : am_ev 211 58 (ls) (st) h = am_ev 211 69 (ls) (st) h := am_ev_step (q := (69, ls, st, h)) _ (.goto (11)) 3 am_my_211 (by decide +kernel) rfl
theorem e211_61 {ls : List (Option Value)} {st : List Value} {h : am_H} : am_ev 211 61 (ls) (st) h = am_ev 211 62 (ls) (.int (0) :: st) h := am_ev_step (q := (62, ls, .int (0) :: st, h)) _ (.iconst (0)) 1 am_my_211 (by decide +kernel) rfl
theorem e211_62 {ls : List (Option Value)} {st : List Value} {h : am_H} : am_ev 211 62 (ls) (st) h = am_ev 211 69 (ls) (st) h := am_ev_step (q := (69, ls, st, h)) _ (.goto (7)) 3 am_my_211 (by decide +kernel) rfl
theorem e211_65 {ls : List (Option Value)} {st : List Value} {h : am_H} {a : Nat} : am_ev 211 65 (some (.ref a) :: ls) (st) h = am_ev 211 66 (some (.ref a) :: ls) (.ref a :: st) h := am_ev_step (q := (66, some (.ref a) :: ls, .ref a :: st, h)) _ (.aload_n 0) 1 am_my_211 (by decide +kernel) rfl
theorem e211_66 {ls : List (Option Value)} {st : List Value} {h : am_H} {o : Nat} (hk : am_kd h o = some (.inl 11)) : am_ev 211 66 ls (.ref o :: st) h = am_ev 211 69 ls (.int (h.1 o 33) :: st) h := am_u_gfI (idx := 309) (wn := 5165) am_my_211 (by decide +kernel) (by decide +kernel) (by decide +kernel) hk
theorem e211_69 {ls : List (Option Value)} {st : List Value} {h : am_H} {o : Nat} {v : Int32} (hk : am_kd h o = some (.inl 11)) (hv : v = 0 ∨ v = 1) : am_ev 211 69 ls (.int v :: .ref o :: st) h = am_ev 211 72 ls st (am_sI h o 33 v) := am_u_pfZ (idx := 309) (wn := 5165) am_my_211 (by decide +kernel) (by decide +kernel) (by decide +kernel) (by decide +kernel) hk hv
theorem e211_72 {ls : List (Option Value)} {st : List Value} {h : am_H} {a : Nat} : am_ev 211 72 (some (.ref a) :: ls) (st) h = am_ev 211 73 (some (.ref a) :: ls) (.ref a :: st) h := am_ev_step (q := (73, some (.ref a) :: ls, .ref a :: st, h)) _ (.aload_n 0) 1 am_my_211 (by decide +kernel) rfl
theorem e211_73 {ls : List (Option Value)} {st : List Value} {h : am_H}  {o : Nat} (hw : am_w8 st ≤ 8) (hk : am_kd h o = some (.inl 11)) : am_ev 211 73 ls (.ref o :: st) h = am_bd (am_den 217 [.ref o] h) (fun v h1 => am_ev 211 76 ls (v.toList ++ st) h1) := am_u_cV (idx := 367) (wn := 7054) (as := []) am_my_211 (by decide +kernel) (Or.inl (by decide +kernel)) am_my_217 (by decide +kernel) rfl ⟨Nat.le_of_ble_eq_true rfl, rfl⟩ (by decide +kernel) hw hk
theorem e211_76 {ls : List (Option Value)} {st : List Value} {h : am_H} {l0 l1 l2 : Option Value} {a : Int32} : am_ev 211 76 (l0 :: l1 :: l2 :: some (.int a) :: ls) (st) h = am_ev 211 77 (l0 :: l1 :: l2 :: some (.int a) :: ls) (.int a :: st) h := am_ev_step (q := (77, l0 :: l1 :: l2 :: some (.int a) :: ls, .int a :: st, h)) _ (.iload_n 3) 1 am_my_211 (by decide +kernel) rfl
theorem e211_77 {ls : List (Option Value)} {h : am_H} {v : Int32} (hv : v = 0 ∨ v = 1) : am_ev 211 77 ls [.int v] h = some (some (.int v), h) := am_u_rtZ am_my_211 (by decide +kernel) rfl hv
theorem e216_0 {ls : List (Option Value)} {st : List Value} {h : am_H} {a : Nat} : am_ev 216 0 (some (.ref a) :: ls) (st) h = am_ev 216 1 (some (.ref a) :: ls) (.ref a :: st) h := am_ev_step (q := (1, some (.ref a) :: ls, .ref a :: st, h)) _ (.aload_n 0) 1 am_my_216 (by decide +kernel) rfl
theorem e216_1 {ls : List (Option Value)} {st : List Value} {h : am_H} {o : Nat} (hk : am_kd h o = some (.inl 11)) : am_ev 216 1 ls (.ref o :: st) h = am_ev 216 4 ls (.int (h.1 o 32) :: st) h := am_u_gfI (idx := 306) (wn := 5164) am_my_216 (by decide +kernel) (by decide +kernel) (by decide +kernel) hk
theorem e216_4 {ls : List (Option Value)} {st : List Value} {h : am_H} {l0 : Option Value} {a : Int32} : am_ev 216 4 (l0 :: some (.int a) :: ls) (st) h = am_ev 216 5 (l0 :: some (.int a) :: ls) (.int a :: st) h := am_ev_step (q := (5, l0 :: some (.int a) :: ls, .int a :: st, h)) _ (.iload_n 1) 1 am_my_216 (by decide +kernel) rfl
theorem e216_5 {ls : List (Option Value)} {st : List Value} {h : am_H} {a b : Int32} : am_ev 216 5 ls (.int b :: .int a :: st) h = if a = b then am_ev 216 12 ls st h else am_ev 216 8 ls st h := am_u_if2 (c := .eq) (off := 7) am_my_216 (by decide +kernel) (by decide)
theorem e216_8 {ls : List (Option Value)} {st : List Value} {h : am_H} : am_ev 216 8 (ls) (st) h = am_ev 216 9 (ls) (.int (1) :: st) h := am_ev_step (q := (9, ls, .int (1) :: st, h)) _ (.iconst (1)) 1 am_my_216 (by decide +kernel) rfl
theorem e216_9 {ls : List (Option Value)} {st : List Value} {h : am_H} : am_ev 216 9 (ls) (st) h = am_ev 216 13 (ls) (st) h := am_ev_step (q := (13, ls, st, h)) _ (.goto (4)) 3 am_my_216 (by decide +kernel) rfl
theorem e216_12 {ls : List (Option Value)} {st : List Value} {h : am_H} : am_ev 216 12 (ls) (st) h = am_ev 216 13 (ls) (.int (0) :: st) h := am_ev_step (q := (13, ls, .int (0) :: st, h)) _ (.iconst (0)) 1 am_my_216 (by decide +kernel) rfl
theorem e216_13 {ls : List (Option Value)} {st : List Value} {h : am_H} {l0 l1 : Option Value} {z : Option Value} {a : Int32} : am_ev 216 13 (l0 :: l1 :: z :: ls) (.int a :: st) h = am_ev 216 14 (l0 :: l1 :: some (.int a) :: ls) (st) h := am_ev_step (q := (14, l0 :: l1 :: some (.int a) :: ls, st, h)) _ (.istore_n 2) 1 am_my_216 (by decide +kernel) rfl
theorem e216_14 {ls : List (Option Value)} {st : List Value} {h : am_H} {a : Nat} : am_ev 216 14 (some (.ref a) :: ls) (st) h = am_ev 216 15 (some (.ref a) :: ls) (.ref a :: st) h := am_ev_step (q := (15, some (.ref a) :: ls, .ref a :: st, h)) _ (.aload_n 0) 1 am_my_216 (by decide +kernel) rfl
theorem e216_15 {ls : List (Option Value)} {st : List Value} {h : am_H} {l0 : Option Value} {a : Int32} : am_ev 216 15 (l0 :: some (.int a) :: ls) (st) h = am_ev 216 16 (l0 :: some (.int a) :: ls) (.int a :: st) h := am_ev_step (q := (16, l0 :: some (.int a) :: ls, .int a :: st, h)) _ (.iload_n 1) 1 am_my_216 (by decide +kernel) rfl
theorem e216_16 {ls : List (Option Value)} {st : List Value} {h : am_H} {o : Nat} {v : Int32} (hk : am_kd h o = some (.inl 11)) (hv : v = 0 ∨ v = 1) : am_ev 216 16 ls (.int v :: .ref o :: st) h = am_ev 216 19 ls st (am_sI h o 32 v) := am_u_pfZ (idx := 306) (wn := 5164) am_my_216 (by decide +kernel) (by decide +kernel) (by decide +kernel) (by decide +kernel) hk hv
theorem e216_19 {ls : List (Option Value)} {st : List Value} {h : am_H} {l0 l1 : Option Value} {a : Int32} : am_ev 216 19 (l0 :: l1 :: some (.int a) :: ls) (st) h = am_ev 216 20 (l0 :: l1 :: some (.int a) :: ls) (.int a :: st) h := am_ev_step (q := (20, l0 :: l1 :: some (.int a) :: ls, .int a :: st, h)) _ (.iload_n 2) 1 am_my_216 (by decide +kernel) rfl
theorem e216_20 {ls : List (Option Value)} {h : am_H} {v : Int32} (hv : v = 0 ∨ v = 1) : am_ev 216 20 ls [.int v] h = some (some (.int v), h) := am_u_rtZ am_my_216 (by decide +kernel) rfl hv
theorem q_pn_eq {f : q_Fl} (wf : F_wf f) {t : Nat} (ht : F_in f t) : nI (q_nm f t) = q_pn f ↔ t = F_pen f := by
  have l := q_nm_64 wf ht
  unfold q_pn
  rcases wf.2.2.2.2.1 with c | c
  · rw [if_neg (by omega)]
    constructor
    · intro q
      have := nI_pos' (n := q_nm f t) (by omega)
      rw [q] at this
      exact absurd this (by decide)
    · intro q
      have := ht.1
      omega
  · have l2 := q_nm_64 wf c
    rw [if_pos c.1]
    exact (nI_eq (by omega) (by omega)).trans (q_nm_inj ht c)
theorem q_mg_step {h : am_H} {f : q_Fl} {g : q_G} (mg : q_mg h f g) (b t : Nat) (v : Int32) (hv : v = nI (if t = F_pen f then G_pen g ||| 2 ^ b else G_pen g)) : q_mg (am_sI (am_sI (am_sI h 225 b (nI (q_nm f t))) 226 b (nI (G_went g b + 1))) 211 31 v) f (G_mv f g b t) := by
  obtain ⟨⟨ok, a1, a2, a3, a4, a5, a6, a7⟩, ⟨e1, e2, e3, e4, e5⟩, ea, ew⟩ := mg
  refine ⟨⟨ok, a1, a2, a3, a4, a5, a6, a7⟩, ⟨e1, hv, e3, e4, e5⟩, fun b' hb' => ?_, fun b' hb' => ?_⟩
  · show _ = nI (q_nm f (q_up (G_at g) b t b'))
    unfold q_up
    rw [am_rd_sI, if_neg (by omega), am_rd_sI, if_neg (by omega), am_rd_sI]
    by_cases c : b' = b
    · rw [if_pos ⟨rfl, c⟩, if_pos c]
    · rw [if_neg (fun w => c w.2), if_neg c]
      exact ea b' hb'
  · show _ = nI (q_up (G_went g) b (G_went g b + 1) b')
    unfold q_up
    rw [am_rd_sI, if_neg (by omega), am_rd_sI]
    by_cases c : b' = b
    · rw [if_pos ⟨rfl, c⟩, if_pos c]
    · rw [if_neg (fun w => c w.2), am_rd_sI, if_neg (by omega), if_neg c]
      exact ew b' hb'
theorem q_mw_step (b : Nat) (h : am_H) (u v w : Int32) : q_mw h (am_sI (am_sI (am_sI h 225 b u) 226 b v) 211 31 w) := ⟨rfl, fun a k p1 p2 p3 => by
  rw [am_rd_sI, if_neg (by omega), am_rd_sI, if_neg (by omega), am_rd_sI, if_neg (by omega)]⟩
def G_so (f : q_Fl) (g : q_G) (b : Nat) : q_G := if G_pnd g b = true then g else G_s1 f g b
theorem den_stepsOn (h : am_H) (f : q_Fl) (g : q_G) (mg : q_mg h f g) (wf : F_wf f) (i : G_in f g) (p : G_pi f g) (b : Nat) (hb : b < F_n f) : ∃ h' : am_H, q_mw h h' ∧ q_mg h' f (G_so f g b) ∧ am_den 222 [.ref 211, .int (nI b)] h = some (none, h') := by
  have n6 := wf.2.2.2.1
  have mg0 := mg
  have dw := den_mway h f g mg wf i p b hb
  have dh := den_mhas h (G_pen g) b i.2.1 (by omega)
  have hin := i.2.2 b hb
  have mf := mg.1
  obtain ⟨⟨ok, a1, a2, a3, a4, a5, a6, a7⟩, ⟨e1, e2, e3, e4, e5⟩, ea, ew⟩ := mg
  show ∃ h' : am_H, q_mw h h' ∧ q_mg h' f (G_so f g b) ∧ am_ev 222 0 [some (.ref 211), some (.int (nI b)), none] [] h = _
  unfold G_so
  cases hp : G_pnd g b with
  | true =>
    have hp' : (G_pen g).testBit b = true := hp
    rw [hp'] at dh
    have y : ¬ q_bi true = 0 := by decide
    refine ⟨h, q_mw.rf h, mg0, ?_⟩
    simp only [e222_0, e222_1, e222_4, e222_5, e222_8, e222_11, e222_12, e222_15, e222_16, e222_17, e222_20, e222_21, e222_22, e222_23, e222_26, e222_27, e222_30, e222_31, e222_32, e222_33, e222_36, e222_37, e222_38, e222_39, e222_42, e222_43, e222_44, e222_47, e222_48, e222_49, e222_50, e222_51, e222_52, e222_53, e222_54, e222_54i, e222_55, e222_58, e222_59, e222_62, e222_63, e222_64, e222_65, e222_68, e222_71, e222_72, e222_73, e222_74, e222_77, e222_78, e222_79, e222_82, am_bd_some, Option.toList_some, Option.toList_none, List.cons_append, List.nil_append, am_w8_0, am_w8_1, am_w8_2, am_w8_3, am_w8_4, eq_self, or_true, true_or, am_kd_sI, am_kd_sL, am_kd_sR, am_tc_sI, am_tc_sL, am_tc_sR, am_len_sI, am_len_sL, am_len_sR, am_rfs, if_true, if_false, am_rdL_sI, am_rR_sL, am_rt_cq, am_kd_cq, am_tc_cq, am_len_cq, am_rd_sL, am_rd_sR, am_rdL_sR, okK_211 ok, e2, dh, y]
  | false =>
    have hp' : (G_pen g).testBit b = false := hp
    rw [hp'] at dh
    have y : q_bi false = 0 := rfl
    rw [if_neg (by decide)]
    unfold G_s1
    cases hw : G_way f g b with
    | none =>
      rw [hw] at dw
      have m1 : q_ov none = -1 := rfl
      refine ⟨h, q_mw.rf h, mg0, ?_⟩
      simp only [e222_0, e222_1, e222_4, e222_5, e222_8, e222_11, e222_12, e222_15, e222_16, e222_17, e222_20, e222_21, e222_22, e222_23, e222_26, e222_27, e222_30, e222_31, e222_32, e222_33, e222_36, e222_37, e222_38, e222_39, e222_42, e222_43, e222_44, e222_47, e222_48, e222_49, e222_50, e222_51, e222_52, e222_53, e222_54, e222_54i, e222_55, e222_58, e222_59, e222_62, e222_63, e222_64, e222_65, e222_68, e222_71, e222_72, e222_73, e222_74, e222_77, e222_78, e222_79, e222_82, am_bd_some, Option.toList_some, Option.toList_none, List.cons_append, List.nil_append, am_w8_0, am_w8_1, am_w8_2, am_w8_3, am_w8_4, eq_self, or_true, true_or, am_kd_sI, am_kd_sL, am_kd_sR, am_tc_sI, am_tc_sL, am_tc_sR, am_len_sI, am_len_sL, am_len_sR, am_rfs, if_true, if_false, am_rdL_sI, am_rR_sL, am_rt_cq, am_kd_cq, am_tc_cq, am_len_cq, am_rd_sL, am_rd_sR, am_rdL_sR, okK_211 ok, e2, dh, y, dw, m1]
    | some d =>
      obtain ⟨d4, dk⟩ := G_way_lt hw
      rw [hw] at dw
      have m1 : q_ov (some d) = nI d := rfl
      have nd : ¬ nI d = -1 := fun w => by
        have := nI_pos' (n := d) (by omega)
        rw [w] at this
        exact absurd this (by decide)
      show ∃ h' : am_H, q_mw h h' ∧ q_mg h' f (G_st f g b d) ∧ _
      unfold G_st
      cases hx : F_nx f (G_at g b) d with
      | none =>
        unfold G_ok1 at dk
        rw [hx] at dk
        cases dk
      | some t =>
        have ht := F_nx_in wf hin hx
        have gx : F_gx f (G_at g b) d = some t := by
          unfold F_nx at hx
          split at hx
          · cases hx
          · rename_i u hu
            split at hx
            · cases hx
            · obtain rfl := Option.some.inj hx
              exact hu
        have dn := den_mnext h f mf wf (G_at g b) d hin d4
        rw [gx] at dn
        have m3 : q_nv f (some t) = nI (q_nm f t) := rfl
        have x : am_ix (nI b) 6 = true := am_ix_nI (by omega) (by decide)
        have z : (nI b).toNatClampNeg = b := nI_clamp (by omega)
        have s1 := ea b hb
        have w1 := ew b hb
        have r5 : (am_sI h 225 b (nI (q_nm f t))).1 226 b = nI (G_went g b) := w1
        have r4 : (am_sI (am_sI h 225 b (nI (q_nm f t))) 226 b (nI (G_went g b + 1))).1 225 b = nI (q_nm f t) := by rw [am_rd_sI, if_neg (by omega), am_rd_sI, if_pos ⟨rfl, rfl⟩]
        have r2 : (am_sI (am_sI h 225 b (nI (q_nm f t))) 226 b (nI (G_went g b + 1))).1 211 31 = nI (G_pen g) := e2
        have rp : (am_sI (am_sI h 225 b (nI (q_nm f t))) 226 b (nI (G_went g b + 1))).1 211 27 = q_pn f := a3
        have po := q_por (G_pen g) i.2.1 b (by omega)
        have pe := q_pn_eq wf ht
        have o0 : nI (G_pen g) ||| 0 = nI (G_pen g) := Int32.or_zero
        by_cases m : t = F_pen f
        · have m' := pe.mpr m
          refine ⟨am_sI (am_sI (am_sI h 225 b (nI (q_nm f t))) 226 b (nI (G_went g b + 1))) 211 31 (nI (G_pen g ||| 2 ^ b)), q_mw_step b h _ _ _, q_mg_step mg0 b t _ (by rw [if_pos m]), ?_⟩
          simp only [e222_0, e222_1, e222_4, e222_5, e222_8, e222_11, e222_12, e222_15, e222_16, e222_17, e222_20, e222_21, e222_22, e222_23, e222_26, e222_27, e222_30, e222_31, e222_32, e222_33, e222_36, e222_37, e222_38, e222_39, e222_42, e222_43, e222_44, e222_47, e222_48, e222_49, e222_50, e222_51, e222_52, e222_53, e222_54, e222_54i, e222_55, e222_58, e222_59, e222_62, e222_63, e222_64, e222_65, e222_68, e222_71, e222_72, e222_73, e222_74, e222_77, e222_78, e222_79, e222_82, am_bd_some, Option.toList_some, Option.toList_none, List.cons_append, List.nil_append, am_w8_0, am_w8_1, am_w8_2, am_w8_3, am_w8_4, eq_self, or_true, true_or, am_kd_sI, am_kd_sL, am_kd_sR, am_tc_sI, am_tc_sL, am_tc_sR, am_len_sI, am_len_sL, am_len_sR, am_rfs, if_true, if_false, am_rdL_sI, am_rR_sL, am_rt_cq, am_kd_cq, am_tc_cq, am_len_cq, am_rd_sL, am_rd_sR, am_rdL_sR, okK_211 ok, okR_211_36 ok, okR_211_37 ok, okT_225 ok, okL_225 ok, okT_226 ok, okL_226 ok, e2, dh, y, dw, m1, nd, x, z, s1, dn, m3, r5, nI_1, r4, rp, eq_true m', not_true, r2, po]
        · have m' : ¬ nI (q_nm f t) = q_pn f := fun w => m (pe.mp w)
          refine ⟨am_sI (am_sI (am_sI h 225 b (nI (q_nm f t))) 226 b (nI (G_went g b + 1))) 211 31 (nI (G_pen g)), q_mw_step b h _ _ _, q_mg_step mg0 b t _ (by rw [if_neg m]), ?_⟩
          simp only [e222_0, e222_1, e222_4, e222_5, e222_8, e222_11, e222_12, e222_15, e222_16, e222_17, e222_20, e222_21, e222_22, e222_23, e222_26, e222_27, e222_30, e222_31, e222_32, e222_33, e222_36, e222_37, e222_38, e222_39, e222_42, e222_43, e222_44, e222_47, e222_48, e222_49, e222_50, e222_51, e222_52, e222_53, e222_54, e222_54i, e222_55, e222_58, e222_59, e222_62, e222_63, e222_64, e222_65, e222_68, e222_71, e222_72, e222_73, e222_74, e222_77, e222_78, e222_79, e222_82, am_bd_some, Option.toList_some, Option.toList_none, List.cons_append, List.nil_append, am_w8_0, am_w8_1, am_w8_2, am_w8_3, am_w8_4, eq_self, or_true, true_or, am_kd_sI, am_kd_sL, am_kd_sR, am_tc_sI, am_tc_sL, am_tc_sR, am_len_sI, am_len_sL, am_len_sR, am_rfs, if_true, if_false, am_rdL_sI, am_rR_sL, am_rt_cq, am_kd_cq, am_tc_cq, am_len_cq, am_rd_sL, am_rd_sR, am_rdL_sR, okK_211 ok, okR_211_36 ok, okR_211_37 ok, okT_225 ok, okL_225 ok, okT_226 ok, okL_226 ok, e2, dh, y, dw, m1, nd, x, z, s1, dn, m3, r5, nI_1, r4, rp, m', not_false_eq_true, r2, o0]
theorem den_mgoes (h : am_H) (f : q_Fl) (g : q_G) (mg : q_mg h f g) (wf : F_wf f) (i : G_in f g) (p : G_pi f g) (b : Nat) (hb : b < F_n f) : ∃ h' : am_H, q_mw h h' ∧ q_mg h' f (G_go f g b) ∧ am_den 218 [.ref 211, .int (nI b)] h = some (none, h') := by
  have n6 := wf.2.2.2.1
  have dd := den_mdriven h f g mg wf i b hb
  have ok := mg.1.1
  show ∃ h' : am_H, q_mw h h' ∧ q_mg h' f (G_go f g b) ∧ am_ev 218 0 [some (.ref 211), some (.int (nI b))] [] h = _
  unfold G_go
  cases hd : G_drv f g b with
  | false =>
    rw [hd] at dd
    have y : q_bi false = 0 := rfl
    refine ⟨h, q_mw.rf h, mg, ?_⟩
    simp only [e218_0, e218_1, e218_2, e218_5, e218_8, e218_9, e218_10, e218_13, e218_14, e218_17, e218_18, e218_19, e218_20, e218_23, e218_24, e218_25, e218_28, am_bd_some, Option.toList_some, Option.toList_none, List.cons_append, List.nil_append, am_w8_0, am_w8_1, am_w8_2, am_w8_3, am_w8_4, eq_self, or_true, true_or, am_kd_sI, am_kd_sL, am_kd_sR, am_tc_sI, am_tc_sL, am_tc_sR, am_len_sI, am_len_sL, am_len_sR, am_rfs, if_true, if_false, am_rdL_sI, am_rR_sL, am_rt_cq, am_kd_cq, am_tc_cq, am_len_cq, am_rd_sL, am_rd_sR, am_rdL_sR, okK_211 ok, dd, y]
  | true =>
    rw [hd] at dd
    have y : ¬ q_bi true = 0 := by decide
    have np := G_drv_np hd
    obtain ⟨h1, f1, g1, s1⟩ := den_stepsOn h f g mg wf i p b hb
    have so : G_so f g b = G_s1 f g b := by unfold G_so; rw [np]; rfl
    rw [so] at g1
    have ok1 := g1.1.1
    have x : am_ix (nI b) 6 = true := am_ix_nI (by omega) (by decide)
    have z : (nI b).toNatClampNeg = b := nI_clamp (by omega)
    have k1 := g1.1.2.2.2.2.2.2.2 b hb
    have kk := wf.2.2.2.2.2 b hb
    have hk2 : nI (F_kind f b) = 2 ↔ F_kind f b = 2 := nI_eq (b := 2) (by omega) (by decide)
    rw [if_pos rfl]
    by_cases m : F_kind f b = 2
    · have m' := hk2.mpr m
      obtain ⟨h2, f2, g2, s2⟩ := den_stepsOn h1 f (G_s1 f g b) g1 wf (G_s1_in wf i hb) (G_s1_pi wf i p hb np) b hb
      refine ⟨h2, f1.tr f2, ?_, ?_⟩
      · unfold G_so at g2
        cases hp : G_pnd (G_s1 f g b) b with
        | true =>
          rw [hp, if_pos rfl] at g2
          rw [if_neg (fun w => by cases w.2)]
          exact g2
        | false =>
          rw [hp, if_neg (by decide)] at g2
          rw [if_pos ⟨m, rfl⟩]
          exact g2
      · simp only [e218_0, e218_1, e218_2, e218_5, e218_8, e218_9, e218_10, e218_13, e218_14, e218_17, e218_18, e218_19, e218_20, e218_23, e218_24, e218_25, e218_28, am_bd_some, Option.toList_some, Option.toList_none, List.cons_append, List.nil_append, am_w8_0, am_w8_1, am_w8_2, am_w8_3, am_w8_4, eq_self, or_true, true_or, am_kd_sI, am_kd_sL, am_kd_sR, am_tc_sI, am_tc_sL, am_tc_sR, am_len_sI, am_len_sL, am_len_sR, am_rfs, if_true, if_false, am_rdL_sI, am_rR_sL, am_rt_cq, am_kd_cq, am_tc_cq, am_len_cq, am_rd_sL, am_rd_sR, am_rdL_sR, okK_211 ok, dd, y, s1, okK_211 ok1, okR_211_35 ok1, okT_224 ok1, okL_224 ok1, x, z, k1, eq_true m', not_true, s2]
    · have m' : ¬ nI (F_kind f b) = 2 := fun w => m (hk2.mp w)
      refine ⟨h1, f1, ?_, ?_⟩
      · rw [if_neg (fun w => m w.1)]
        exact g1
      · simp only [e218_0, e218_1, e218_2, e218_5, e218_8, e218_9, e218_10, e218_13, e218_14, e218_17, e218_18, e218_19, e218_20, e218_23, e218_24, e218_25, e218_28, am_bd_some, Option.toList_some, Option.toList_none, List.cons_append, List.nil_append, am_w8_0, am_w8_1, am_w8_2, am_w8_3, am_w8_4, eq_self, or_true, true_or, am_kd_sI, am_kd_sL, am_kd_sR, am_tc_sI, am_tc_sL, am_tc_sR, am_len_sI, am_len_sL, am_len_sR, am_rfs, if_true, if_false, am_rdL_sI, am_rR_sL, am_rt_cq, am_kd_cq, am_tc_cq, am_len_cq, am_rd_sL, am_rd_sR, am_rdL_sR, okK_211 ok, dd, y, s1, okK_211 ok1, okR_211_35 ok1, okT_224 ok1, okL_224 ok1, x, z, k1, m', not_false_eq_true]
theorem q_mag_l (f : q_Fl) (wf : F_wf f) : ∀ (r b : Nat) (g : q_G) (h : am_H), b + r = F_n f → q_mg h f g → G_in f g → G_pi f g → ∃ h' : am_H, q_mw h h' ∧ q_mg h' f (G_all f r b g) ∧ am_ev 217 2 [some (.ref 211), some (.int (nI b))] [] h = am_ev 217 21 [some (.ref 211), some (.int (nI (F_n f)))] [] h' := by
  have n6 := wf.2.2.2.1
  intro r
  induction r with
  | zero =>
    intro b g h hb mg i p
    obtain rfl : b = F_n f := by omega
    have h1 : nI (F_n f) ≤ nI (F_n f) := Int32.le_refl _
    have ok := mg.1.1
    have a5 := mg.1.2.2.2.2.2.1
    refine ⟨h, q_mw.rf h, mg, ?_⟩
    rw [e217_2]
    simp only [e217_0, e217_1, e217_3, e217_4, e217_7, e217_10, e217_11, e217_12, e217_15, e217_18, e217_22, e217_22i, e217_23, e217_26, e217_27, e217_28, e217_31, am_bd_some, Option.toList_some, Option.toList_none, List.cons_append, List.nil_append, am_w8_0, am_w8_1, am_w8_2, am_w8_3, am_w8_4, eq_self, or_true, true_or, am_kd_sI, am_kd_sL, am_kd_sR, am_tc_sI, am_tc_sL, am_tc_sR, am_len_sI, am_len_sL, am_len_sR, am_rfs, if_true, if_false, am_rdL_sI, am_rR_sL, am_rt_cq, am_kd_cq, am_tc_cq, am_len_cq, am_rd_sL, am_rd_sR, am_rdL_sR, okK_211 ok, a5, h1]
  | succ r ih =>
    intro b g h hb mg i p
    have h1 : ¬ nI (F_n f) ≤ nI b := nI_ge (by omega) (by omega)
    have ok := mg.1.1
    have a5 := mg.1.2.2.2.2.2.1
    obtain ⟨h', f1, g1, s1⟩ := den_mgoes h f g mg wf i p b (by omega)
    obtain ⟨h'', f2, g2, s2⟩ := ih (b + 1) (G_go f g b) h' (by omega) g1 (G_go_in wf i (by omega)) (G_go_pi wf i p (by omega))
    refine ⟨h'', f1.tr f2, g2, ?_⟩
    rw [e217_2]
    simp only [e217_0, e217_1, e217_3, e217_4, e217_7, e217_10, e217_11, e217_12, e217_15, e217_18, e217_22, e217_22i, e217_23, e217_26, e217_27, e217_28, e217_31, am_bd_some, Option.toList_some, Option.toList_none, List.cons_append, List.nil_append, am_w8_0, am_w8_1, am_w8_2, am_w8_3, am_w8_4, eq_self, or_true, true_or, am_kd_sI, am_kd_sL, am_kd_sR, am_tc_sI, am_tc_sL, am_tc_sR, am_len_sI, am_len_sL, am_len_sR, am_rfs, if_true, if_false, am_rdL_sI, am_rR_sL, am_rt_cq, am_kd_cq, am_tc_cq, am_len_cq, am_rd_sL, am_rd_sR, am_rdL_sR, okK_211 ok, a5, h1, s1, nI_1]
    exact s2
theorem q_mg_fld {h : am_H} {f : q_Fl} {g g' : q_G} (mg : q_mg h f g) (k : Nat) (v : Int32) (hk : k = 28 ∨ k = 31 ∨ k = 32 ∨ k = 33 ∨ k = 38) (ha : G_at g' = G_at g) (hw : G_went g' = G_went g) (h1 : (if 28 = k then v else nI (q_nm f (G_dog g))) = nI (q_nm f (G_dog g'))) (h2 : (if 31 = k then v else nI (G_pen g)) = nI (G_pen g')) (h4 : (if 32 = k then v else q_bi (G_lies g)) = q_bi (G_lies g')) (h5 : (if 33 = k then v else q_bi (G_back g)) = q_bi (G_back g')) (h6 : (if 38 = k then v else nI (G_min g)) = nI (G_min g')) : q_mg (am_sI h 211 k v) f g' := by
  obtain ⟨⟨ok, a1, a2, a3, a4, a5, a6, a7⟩, ⟨e1, e2, e3, e4, e5⟩, ea, ew⟩ := mg
  have rd : ∀ j, (am_sI h 211 k v).1 211 j = if j = k then v else h.1 211 j := fun j => by
    rw [am_rd_sI]
    by_cases c : j = k
    · rw [if_pos ⟨rfl, c⟩, if_pos c]
    · rw [if_neg (fun w => c w.2), if_neg c]
  have far : ∀ a j, a ≠ 211 → (am_sI h 211 k v).1 a j = h.1 a j := fun a j hq => by rw [am_rd_sI, if_neg (fun w => hq w.1)]
  refine ⟨⟨ok, ?_, ?_, ?_, ?_, ?_, fun c hc => ?_, fun b hb => ?_⟩, ⟨?_, ?_, ?_, ?_, ?_⟩, fun b hb => ?_, fun b hb => ?_⟩
  · rw [rd, if_neg (by omega)]; exact a1
  · rw [rd, if_neg (by omega)]; exact a2
  · rw [rd, if_neg (by omega)]; exact a3
  · rw [rd, if_neg (by omega)]; exact a4
  · rw [rd, if_neg (by omega)]; exact a5
  · rw [far _ _ (by decide)]; exact a6 c hc
  · rw [far _ _ (by decide)]; exact a7 b hb
  · rw [rd, e1]; exact h1
  · rw [rd, e2]; exact h2
  · rw [rd, e3]; exact h4
  · rw [rd, e4]; exact h5
  · rw [rd, e5]; exact h6
  · rw [far _ _ (by decide), ha]; exact ea b hb
  · rw [far _ _ (by decide), hw]; exact ew b hb
theorem q_mw_fld (k : Nat) (v : Int32) (hk : k = 28 ∨ k = 31 ∨ k = 32 ∨ k = 33 ∨ k = 38) (h : am_H) : q_mw h (am_sI h 211 k v) := ⟨rfl, fun a j _ _ p3 => by rw [am_rd_sI, if_neg (fun w => by have := p3 w.1; omega)]⟩
theorem q_mg_dog {h : am_H} {f : q_Fl} {g : q_G} (mg : q_mg h f g) (t : Nat) : q_mg (am_sI h 211 28 (nI (q_nm f t))) f (G_sdog g t) := q_mg_fld mg 28 _ (by decide) rfl rfl rfl rfl rfl rfl rfl
theorem q_mg_lies {h : am_H} {f : q_Fl} {g : q_G} (mg : q_mg h f g) (l : Bool) : q_mg (am_sI h 211 32 (q_bi l)) f (G_slies g l) := q_mg_fld mg 32 _ (by decide) rfl rfl rfl rfl rfl rfl rfl
theorem q_mg_back {h : am_H} {f : q_Fl} {g : q_G} (mg : q_mg h f g) (l : Bool) : q_mg (am_sI h 211 33 (q_bi l)) f (G_sback g l) := q_mg_fld mg 33 _ (by decide) rfl rfl rfl rfl rfl rfl rfl
theorem q_mg_tick {h : am_H} {f : q_Fl} {g : q_G} (mg : q_mg h f g) : q_mg (am_sI h 211 38 (nI (G_min g + 1))) f (G_tick g) := q_mg_fld mg 38 _ (by decide) rfl rfl rfl rfl rfl rfl rfl
theorem den_mallGo (h : am_H) (f : q_Fl) (g : q_G) (mg : q_mg h f g) (wf : F_wf f) (i : G_in f g) (p : G_pi f g) : ∃ h' : am_H, q_mw h h' ∧ q_mg h' f (G_tick (G_all f (F_n f) 0 g)) ∧ am_den 217 [.ref 211] h = some (none, h') := by
  obtain ⟨h1, f1, g1, s1⟩ := q_mag_l f wf (F_n f) 0 g h (by omega) mg i p
  have ok1 := g1.1.1
  have e5 := g1.2.1.2.2.2.2
  refine ⟨am_sI h1 211 38 (nI (G_min (G_all f (F_n f) 0 g) + 1)), f1.tr (q_mw_fld 38 _ (by decide) h1), q_mg_tick g1, ?_⟩
  show am_ev 217 0 [some (.ref 211), none] [] h = _
  have s0 : am_ev 217 0 [some (.ref 211), none] [] h = am_ev 217 2 [some (.ref 211), some (.int (nI 0))] [] h := by
    simp only [e217_0, e217_1, nI_0]
  rw [s0, s1]
  simp only [e217_0, e217_1, e217_2, e217_3, e217_4, e217_7, e217_10, e217_11, e217_12, e217_15, e217_18, e217_21, e217_22, e217_22i, e217_23, e217_26, e217_27, e217_28, e217_31, am_bd_some, Option.toList_some, Option.toList_none, List.cons_append, List.nil_append, am_w8_0, am_w8_1, am_w8_2, am_w8_3, am_w8_4, eq_self, or_true, true_or, am_kd_sI, am_kd_sL, am_kd_sR, am_tc_sI, am_tc_sL, am_tc_sR, am_len_sI, am_len_sL, am_len_sR, am_rfs, if_true, if_false, am_rdL_sI, am_rR_sL, am_rt_cq, am_kd_cq, am_tc_cq, am_len_cq, am_rd_sL, am_rd_sR, am_rdL_sR, okK_211 ok1, e5, nI_1]
