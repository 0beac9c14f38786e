/-! part 9X: the reference takes numbers -/
theorem e179_0 {ls : List (Option Value)} {st : List Value} {h : am_H} {a : Nat} : am_ev 179 0 (some (.ref a) :: ls) (st) h = am_ev 179 1 (some (.ref a) :: ls) (.ref a :: st) h := am_ev_step (q := (1, some (.ref a) :: ls, .ref a :: st, h)) _ (.aload_n 0) 1 am_my_179 (by decide +kernel) rfl
theorem e179_1 {ls : List (Option Value)} {st : List Value} {h : am_H} {a : Nat} : am_ev 179 1 (some (.ref a) :: ls) (st) h = am_ev 179 2 (some (.ref a) :: ls) (.ref a :: st) h := am_ev_step (q := (2, some (.ref a) :: ls, .ref a :: st, h)) _ (.aload_n 0) 1 am_my_179 (by decide +kernel) rfl
theorem e179_2 {ls : List (Option Value)} {st : List Value} {h : am_H} {o : Nat} (hk : am_kd h o = some (.inl 11)) : am_ev 179 2 ls (.ref o :: st) h = am_ev 179 5 ls (.int (h.1 o 12) :: st) h := am_u_gfI (idx := 117) (wn := 5144) am_my_179 (by decide +kernel) (by decide +kernel) (by decide +kernel) hk
theorem e179_5 {ls : List (Option Value)} {st : List Value} {h : am_H} {o : Nat} {v : Int32} (hk : am_kd h o = some (.inl 11)) : am_ev 179 5 ls (.int v :: .ref o :: st) h = am_ev 179 8 ls st (am_sI h o 16 v) := am_u_pfI (idx := 130) (wn := 5148) am_my_179 (by decide +kernel) (by decide +kernel) (by decide +kernel) (by decide +kernel) hk
theorem e179_8 {ls : List (Option Value)} {st : List Value} {h : am_H} : am_ev 179 8 (ls) (st) h = am_ev 179 9 (ls) (.int (0) :: st) h := am_ev_step (q := (9, ls, .int (0) :: st, h)) _ (.iconst (0)) 1 am_my_179 (by decide +kernel) rfl
theorem e179_9 {ls : List (Option Value)} {h : am_H} {v : Int32} (hv : v = 0 ∨ v = 1) : am_ev 179 9 ls [.int v] h = some (some (.int v), h) := am_u_rtZ am_my_179 (by decide +kernel) rfl hv
theorem e181_0 {ls : List (Option Value)} {st : List Value} {h : am_H} {a : Nat} : am_ev 181 0 (some (.ref a) :: ls) (st) h = am_ev 181 1 (some (.ref a) :: ls) (.ref a :: st) h := am_ev_step (q := (1, some (.ref a) :: ls, .ref a :: st, h)) _ (.aload_n 0) 1 am_my_181 (by decide +kernel) rfl
theorem e181_1 {ls : List (Option Value)} {st : List Value} {h : am_H} {o : Nat} (hk : am_kd h o = some (.inl 11)) : am_ev 181 1 ls (.ref o :: st) h = am_ev 181 4 ls (.int (h.1 o 17) :: st) h := am_u_gfI (idx := 133) (wn := 5149) am_my_181 (by decide +kernel) (by decide +kernel) (by decide +kernel) hk
theorem e181_4 {ls : List (Option Value)} {st : List Value} {h : am_H} {a : Int32} : am_ev 181 4 ls (.int a :: st) h = if a = 0 then am_ev 181 31 ls st h else am_ev 181 7 ls st h := am_u_if1 (c := .eq) (off := 27) am_my_181 (by decide +kernel) (by decide)
theorem e181_7 {ls : List (Option Value)} {st : List Value} {h : am_H} {l0 l1 : Option Value} {a : Int32} : am_ev 181 7 (l0 :: l1 :: some (.int a) :: ls) (st) h = am_ev 181 8 (l0 :: l1 :: some (.int a) :: ls) (.int a :: st) h := am_ev_step (q := (8, l0 :: l1 :: some (.int a) :: ls, .int a :: st, h)) _ (.iload_n 2) 1 am_my_181 (by decide +kernel) rfl
theorem e181_8 {ls : List (Option Value)} {st : List Value} {h : am_H} {a : Nat} : am_ev 181 8 (some (.ref a) :: ls) (st) h = am_ev 181 9 (some (.ref a) :: ls) (.ref a :: st) h := am_ev_step (q := (9, some (.ref a) :: ls, .ref a :: st, h)) _ (.aload_n 0) 1 am_my_181 (by decide +kernel) rfl
theorem e181_9 {ls : List (Option Value)} {st : List Value} {h : am_H} {o : Nat} (hk : am_kd h o = some (.inl 11)) : am_ev 181 9 ls (.ref o :: st) h = am_ev 181 12 ls (.int (h.1 o 18) :: st) h := am_u_gfI (idx := 136) (wn := 5150) am_my_181 (by decide +kernel) (by decide +kernel) (by decide +kernel) hk
theorem e181_12 {ls : List (Option Value)} {st : List Value} {h : am_H} {a b : Int32} : am_ev 181 12 ls (.int b :: .int a :: st) h = if a < b then am_ev 181 31 ls st h else am_ev 181 15 ls st h := am_u_if2 (c := .lt) (off := 19) am_my_181 (by decide +kernel) (by decide)
theorem e181_15 {ls : List (Option Value)} {st : List Value} {h : am_H} {l0 l1 : Option Value} {a : Int32} : am_ev 181 15 (l0 :: l1 :: some (.int a) :: ls) (st) h = am_ev 181 16 (l0 :: l1 :: some (.int a) :: ls) (.int a :: st) h := am_ev_step (q := (16, l0 :: l1 :: some (.int a) :: ls, .int a :: st, h)) _ (.iload_n 2) 1 am_my_181 (by decide +kernel) rfl
theorem e181_16 {ls : List (Option Value)} {st : List Value} {h : am_H} {a : Nat} : am_ev 181 16 (some (.ref a) :: ls) (st) h = am_ev 181 17 (some (.ref a) :: ls) (.ref a :: st) h := am_ev_step (q := (17, some (.ref a) :: ls, .ref a :: st, h)) _ (.aload_n 0) 1 am_my_181 (by decide +kernel) rfl
theorem e181_17 {ls : List (Option Value)} {st : List Value} {h : am_H} {o : Nat} (hk : am_kd h o = some (.inl 11)) : am_ev 181 17 ls (.ref o :: st) h = am_ev 181 20 ls (.int (h.1 o 18) :: st) h := am_u_gfI (idx := 136) (wn := 5150) am_my_181 (by decide +kernel) (by decide +kernel) (by decide +kernel) hk
theorem e181_20 {ls : List (Option Value)} {st : List Value} {h : am_H} {a b : Int32} : am_ev 181 20 ls (.int b :: .int a :: st) h = if ¬ a = b then am_ev 181 41 ls st h else am_ev 181 23 ls st h := am_u_if2 (c := .ne) (off := 21) am_my_181 (by decide +kernel) (by decide)
theorem e181_23 {ls : List (Option Value)} {st : List Value} {h : am_H} {l0 : Option Value} {a : Int32} : am_ev 181 23 (l0 :: some (.int a) :: ls) (st) h = am_ev 181 24 (l0 :: some (.int a) :: ls) (.int a :: st) h := am_ev_step (q := (24, l0 :: some (.int a) :: ls, .int a :: st, h)) _ (.iload_n 1) 1 am_my_181 (by decide +kernel) rfl
theorem e181_24 {ls : List (Option Value)} {st : List Value} {h : am_H} {a : Nat} : am_ev 181 24 (some (.ref a) :: ls) (st) h = am_ev 181 25 (some (.ref a) :: ls) (.ref a :: st) h := am_ev_step (q := (25, some (.ref a) :: ls, .ref a :: st, h)) _ (.aload_n 0) 1 am_my_181 (by decide +kernel) rfl
theorem e181_25 {ls : List (Option Value)} {st : List Value} {h : am_H} {o : Nat} (hk : am_kd h o = some (.inl 11)) : am_ev 181 25 ls (.ref o :: st) h = am_ev 181 28 ls (.int (h.1 o 17) :: st) h := am_u_gfI (idx := 133) (wn := 5149) am_my_181 (by decide +kernel) (by decide +kernel) (by decide +kernel) hk
theorem e181_28 {ls : List (Option Value)} {st : List Value} {h : am_H} {a b : Int32} : am_ev 181 28 ls (.int b :: .int a :: st) h = if b ≤ a then am_ev 181 41 ls st h else am_ev 181 31 ls st h := am_u_if2 (c := .ge) (off := 13) am_my_181 (by decide +kernel) (by decide)
theorem e181_31 {ls : List (Option Value)} {st : List Value} {h : am_H} {a : Nat} : am_ev 181 31 (some (.ref a) :: ls) (st) h = am_ev 181 32 (some (.ref a) :: ls) (.ref a :: st) h := am_ev_step (q := (32, some (.ref a) :: ls, .ref a :: st, h)) _ (.aload_n 0) 1 am_my_181 (by decide +kernel) rfl
theorem e181_32 {ls : List (Option Value)} {st : List Value} {h : am_H} {l0 : Option Value} {a : Int32} : am_ev 181 32 (l0 :: some (.int a) :: ls) (st) h = am_ev 181 33 (l0 :: some (.int a) :: ls) (.int a :: st) h := am_ev_step (q := (33, l0 :: some (.int a) :: ls, .int a :: st, h)) _ (.iload_n 1) 1 am_my_181 (by decide +kernel) rfl
theorem e181_33 {ls : List (Option Value)} {st : List Value} {h : am_H} {o : Nat} {v : Int32} (hk : am_kd h o = some (.inl 11)) : am_ev 181 33 ls (.int v :: .ref o :: st) h = am_ev 181 36 ls st (am_sI h o 17 v) := am_u_pfI (idx := 133) (wn := 5149) am_my_181 (by decide +kernel) (by decide +kernel) (by decide +kernel) (by decide +kernel) hk
theorem e181_36 {ls : List (Option Value)} {st : List Value} {h : am_H} {a : Nat} : am_ev 181 36 (some (.ref a) :: ls) (st) h = am_ev 181 37 (some (.ref a) :: ls) (.ref a :: st) h := am_ev_step (q := (37, some (.ref a) :: ls, .ref a :: st, h)) _ (.aload_n 0) 1 am_my_181 (by decide +kernel) rfl
theorem e181_37 {ls : List (Option Value)} {st : List Value} {h : am_H} {l0 l1 : Option Value} {a : Int32} : am_ev 181 37 (l0 :: l1 :: some (.int a) :: ls) (st) h = am_ev 181 38 (l0 :: l1 :: some (.int a) :: ls) (.int a :: st) h := am_ev_step (q := (38, l0 :: l1 :: some (.int a) :: ls, .int a :: st, h)) _ (.iload_n 2) 1 am_my_181 (by decide +kernel) rfl
theorem e181_38 {ls : List (Option Value)} {st : List Value} {h : am_H} {o : Nat} {v : Int32} (hk : am_kd h o = some (.inl 11)) : am_ev 181 38 ls (.int v :: .ref o :: st) h = am_ev 181 41 ls st (am_sI h o 18 v) := am_u_pfI (idx := 136) (wn := 5150) am_my_181 (by decide +kernel) (by decide +kernel) (by decide +kernel) (by decide +kernel) hk
theorem e181_41 {ls : List (Option Value)} {h : am_H} : am_ev 181 41 ls [] h = some (none, h) := am_u_rtV am_my_181 (by decide +kernel) rfl
theorem e180_0 {ls : List (Option Value)} {st : List Value} {h : am_H} {a : Nat} : am_ev 180 0 (some (.ref a) :: ls) (st) h = am_ev 180 1 (some (.ref a) :: ls) (.ref a :: st) h := am_ev_step (q := (1, some (.ref a) :: ls, .ref a :: st, h)) _ (.aload_n 0) 1 am_my_180 (by decide +kernel) rfl
theorem e180_1 {ls : List (Option Value)} {st : List Value} {h : am_H} {o : Nat} (hk : am_kd h o = some (.inl 11)) : am_ev 180 1 ls (.ref o :: st) h = am_ev 180 4 ls (va_rf (h.2.2.1 o 19) :: st) h := am_u_gfR (idx := 38) (wn := 5151) (a := 0) am_my_180 (by decide +kernel) (by decide +kernel) (by decide +kernel) hk
theorem e180_4 {ls : List (Option Value)} {st : List Value} {h : am_H} {l0 : Option Value} {a : Int32} : am_ev 180 4 (l0 :: some (.int a) :: ls) (st) h = am_ev 180 5 (l0 :: some (.int a) :: ls) (.int a :: st) h := am_ev_step (q := (5, l0 :: some (.int a) :: ls, .int a :: st, h)) _ (.iload_n 1) 1 am_my_180 (by decide +kernel) rfl
theorem e180_5 {ls : List (Option Value)} {st : List Value} {h : am_H} {i : Int32} {a : Nat} (ht : am_tc h a = some 0) : am_ev 180 5 ls (.int i :: .ref a :: st) h = if am_ix i (am_len h a) = true then am_ev 180 6 ls (.int (h.1 a i.toNatClampNeg) :: st) h else none := am_u_rI am_my_180 (by decide +kernel) ht
theorem e180_6 {ls : List (Option Value)} {st : List Value} {h : am_H} {l0 l1 : Option Value} {a : Int32} : am_ev 180 6 (l0 :: l1 :: some (.int a) :: ls) (st) h = am_ev 180 7 (l0 :: l1 :: some (.int a) :: ls) (.int a :: st) h := am_ev_step (q := (7, l0 :: l1 :: some (.int a) :: ls, .int a :: st, h)) _ (.iload_n 2) 1 am_my_180 (by decide +kernel) rfl
theorem e180_7 {ls : List (Option Value)} {st : List Value} {h : am_H} {a b : Int32} : am_ev 180 7 ls (.int b :: .int a :: st) h = if ¬ a = b then am_ev 180 16 ls st h else am_ev 180 10 ls st h := am_u_if2 (c := .ne) (off := 9) am_my_180 (by decide +kernel) (by decide)
theorem e180_10 {ls : List (Option Value)} {st : List Value} {h : am_H} {a : Nat} : am_ev 180 10 (some (.ref a) :: ls) (st) h = am_ev 180 11 (some (.ref a) :: ls) (.ref a :: st) h := am_ev_step (q := (11, some (.ref a) :: ls, .ref a :: st, h)) _ (.aload_n 0) 1 am_my_180 (by decide +kernel) rfl
theorem e180_11 {ls : List (Option Value)} {st : List Value} {h : am_H} : am_ev 180 11 (ls) (st) h = am_ev 180 12 (ls) (.int (3) :: st) h := am_ev_step (q := (12, ls, .int (3) :: st, h)) _ (.iconst (3)) 1 am_my_180 (by decide +kernel) rfl
theorem e180_12 {ls : List (Option Value)} {st : List Value} {h : am_H} {l0 l1 l2 : Option Value} {a : Int32} : am_ev 180 12 (l0 :: l1 :: l2 :: some (.int a) :: ls) (st) h = am_ev 180 13 (l0 :: l1 :: l2 :: some (.int a) :: ls) (.int a :: st) h := am_ev_step (q := (13, l0 :: l1 :: l2 :: some (.int a) :: ls, .int a :: st, h)) _ (.iload_n 3) 1 am_my_180 (by decide +kernel) rfl
theorem e180_13 {ls : List (Option Value)} {st : List Value} {h : am_H} {p0 : Int32} {p1 : Int32} {o : Nat} (hw : am_w8 st ≤ 8) (hk : am_kd h o = some (.inl 11)) : am_ev 180 13 ls (.int p1 :: .int p0 :: .ref o :: st) h = am_bd (am_den 181 [.ref o, .int p0, .int p1] h) (fun v h1 => am_ev 180 16 ls (v.toList ++ st) h1) := am_u_cV (idx := 143) (wn := 6143) (as := [.int p0, .int p1]) am_my_180 (by decide +kernel) (Or.inl (by decide +kernel)) am_my_181 (by decide +kernel) rfl ⟨Nat.le_of_ble_eq_true rfl, rfl⟩ (by decide +kernel) hw hk
theorem e180_16 {ls : List (Option Value)} {h : am_H} : am_ev 180 16 ls [] h = some (none, h) := am_u_rtV am_my_180 (by decide +kernel) rfl
theorem e186_0 {ls : List (Option Value)} {st : List Value} {h : am_H} {a : Nat} : am_ev 186 0 (some (.ref a) :: ls) (st) h = am_ev 186 1 (some (.ref a) :: ls) (.ref a :: st) h := am_ev_step (q := (1, some (.ref a) :: ls, .ref a :: st, h)) _ (.aload_n 0) 1 am_my_186 (by decide +kernel) rfl
theorem e186_1 {ls : List (Option Value)} {st : List Value} {h : am_H} {o : Nat} (hk : am_kd h o = some (.inl 11)) : am_ev 186 1 ls (.ref o :: st) h = am_ev 186 4 ls (.int (h.1 o 13) :: st) h := am_u_gfI (idx := 124) (wn := 5145) am_my_186 (by decide +kernel) (by decide +kernel) (by decide +kernel) hk
theorem e186_4 {ls : List (Option Value)} {st : List Value} {h : am_H} : am_ev 186 4 (ls) (st) h = am_ev 186 5 (ls) (.int (3) :: st) h := am_ev_step (q := (5, ls, .int (3) :: st, h)) _ (.iconst (3)) 1 am_my_186 (by decide +kernel) rfl
theorem e186_5 {ls : List (Option Value)} {st : List Value} {h : am_H} {a b : Int32} : am_ev 186 5 ls (.int b :: .int a :: st) h = if a = b then am_ev 186 13 ls st h else am_ev 186 8 ls st h := am_u_if2 (c := .eq) (off := 8) am_my_186 (by decide +kernel) (by decide)
theorem e186_8 {ls : List (Option Value)} {st : List Value} {h : am_H} {a : Nat} : am_ev 186 8 (some (.ref a) :: ls) (st) h = am_ev 186 9 (some (.ref a) :: ls) (.ref a :: st) h := am_ev_step (q := (9, some (.ref a) :: ls, .ref a :: st, h)) _ (.aload_n 0) 1 am_my_186 (by decide +kernel) rfl
theorem e186_9 {ls : List (Option Value)} {st : List Value} {h : am_H}  {o : Nat} (hw : am_w8 st ≤ 8) (hk : am_kd h o = some (.inl 11)) : am_ev 186 9 ls (.ref o :: st) h = am_bd (am_den 179 [.ref o] h) (fun v h1 => am_ev 186 12 ls (v.toList ++ st) h1) := am_u_cV (idx := 139) (wn := 6135) (as := []) am_my_186 (by decide +kernel) (Or.inl (by decide +kernel)) am_my_179 (by decide +kernel) rfl ⟨Nat.le_of_ble_eq_true rfl, rfl⟩ (by decide +kernel) hw hk
theorem e186_12 {ls : List (Option Value)} {h : am_H} {v : Int32} (hv : v = 0 ∨ v = 1) : am_ev 186 12 ls [.int v] h = some (some (.int v), h) := am_u_rtZ am_my_186 (by decide +kernel) rfl hv
theorem e186_13 {ls : List (Option Value)} {st : List Value} {h : am_H} {a : Nat} : am_ev 186 13 (some (.ref a) :: ls) (st) h = am_ev 186 14 (some (.ref a) :: ls) (.ref a :: st) h := am_ev_step (q := (14, some (.ref a) :: ls, .ref a :: st, h)) _ (.aload_n 0) 1 am_my_186 (by decide +kernel) rfl
theorem e186_14 {ls : List (Option Value)} {st : List Value} {h : am_H} {o : Nat} (hk : am_kd h o = some (.inl 11)) : am_ev 186 14 ls (.ref o :: st) h = am_ev 186 17 ls (va_rf (h.2.2.1 o 20) :: st) h := am_u_gfR (idx := 41) (wn := 5152) (a := 0) am_my_186 (by decide +kernel) (by decide +kernel) (by decide +kernel) hk
theorem e186_17 {ls : List (Option Value)} {st : List Value} {h : am_H} {l0 : Option Value} {a : Int32} : am_ev 186 17 (l0 :: some (.int a) :: ls) (st) h = am_ev 186 18 (l0 :: some (.int a) :: ls) (.int a :: st) h := am_ev_step (q := (18, l0 :: some (.int a) :: ls, .int a :: st, h)) _ (.iload_n 1) 1 am_my_186 (by decide +kernel) rfl
theorem e186_18 {ls : List (Option Value)} {st : List Value} {h : am_H} {a : Nat} : am_ev 186 18 (some (.ref a) :: ls) (st) h = am_ev 186 19 (some (.ref a) :: ls) (.ref a :: st) h := am_ev_step (q := (19, some (.ref a) :: ls, .ref a :: st, h)) _ (.aload_n 0) 1 am_my_186 (by decide +kernel) rfl
theorem e186_19 {ls : List (Option Value)} {st : List Value} {h : am_H} {o : Nat} (hk : am_kd h o = some (.inl 11)) : am_ev 186 19 ls (.ref o :: st) h = am_ev 186 22 ls (.int (h.1 o 14) :: st) h := am_u_gfI (idx := 127) (wn := 5146) am_my_186 (by decide +kernel) (by decide +kernel) (by decide +kernel) hk
theorem e186_22 {ls : List (Option Value)} {st : List Value} {h : am_H} {v i : Int32} {a : Nat} (ht : am_tc h a = some 0) : am_ev 186 22 ls (.int v :: .int i :: .ref a :: st) h = if am_ix i (am_len h a) = true then am_ev 186 23 ls st (am_sI h a i.toNatClampNeg v) else none := am_u_wI am_my_186 (by decide +kernel) ht
theorem e186_23 {ls : List (Option Value)} {st : List Value} {h : am_H} {a : Nat} : am_ev 186 23 (some (.ref a) :: ls) (st) h = am_ev 186 24 (some (.ref a) :: ls) (.ref a :: st) h := am_ev_step (q := (24, some (.ref a) :: ls, .ref a :: st, h)) _ (.aload_n 0) 1 am_my_186 (by decide +kernel) rfl
theorem e186_24 {ls : List (Option Value)} {st : List Value} {h : am_H} {o : Nat} (hk : am_kd h o = some (.inl 11)) : am_ev 186 24 ls (.ref o :: st) h = am_ev 186 27 ls (.int (h.1 o 14) :: st) h := am_u_gfI (idx := 127) (wn := 5146) am_my_186 (by decide +kernel) (by decide +kernel) (by decide +kernel) hk
theorem e186_27 {ls : List (Option Value)} {st : List Value} {h : am_H} {l0 l1 : Option Value} {a : Int32} : am_ev 186 27 (l0 :: l1 :: some (.int a) :: ls) (st) h = am_ev 186 28 (l0 :: l1 :: some (.int a) :: ls) (.int a :: st) h := am_ev_step (q := (28, l0 :: l1 :: some (.int a) :: ls, .int a :: st, h)) _ (.iload_n 2) 1 am_my_186 (by decide +kernel) rfl
theorem e186_28 {ls : List (Option Value)} {st : List Value} {h : am_H} {l0 l1 l2 : Option Value} {a : Int32} : am_ev 186 28 (l0 :: l1 :: l2 :: some (.int a) :: ls) (st) h = am_ev 186 29 (l0 :: l1 :: l2 :: some (.int a) :: ls) (.int a :: st) h := am_ev_step (q := (29, l0 :: l1 :: l2 :: some (.int a) :: ls, .int a :: st, h)) _ (.iload_n 3) 1 am_my_186 (by decide +kernel) rfl
theorem e186_29 {ls : List (Option Value)} {st : List Value} {h : am_H} {p0 : Int32} {p1 : Int32} {p2 : Int32} (hw : am_w8 st ≤ 8) : am_ev 186 29 ls (.int p2 :: .int p1 :: .int p0 :: st) h = am_bd (am_den 168 [.int p0, .int p1, .int p2] h) (fun v h1 => am_ev 186 32 ls (v.toList ++ st) h1) := am_u_cS (idx := 99) (wn := 6085) (as := [.int p0, .int p1, .int p2]) am_my_186 (by decide +kernel) (by decide +kernel) am_my_168 (by decide +kernel) rfl ⟨Nat.le_of_ble_eq_true rfl, rfl⟩ hw
theorem e186_32 {ls : List (Option Value)} {st : List Value} {h : am_H} {a : Int32} : am_ev 186 32 ls (.int a :: st) h = if a = 0 then am_ev 186 44 ls st h else am_ev 186 35 ls st h := am_u_if1 (c := .eq) (off := 12) am_my_186 (by decide +kernel) (by decide)
theorem e186_35 {ls : List (Option Value)} {st : List Value} {h : am_H} {a : Nat} : am_ev 186 35 (some (.ref a) :: ls) (st) h = am_ev 186 36 (some (.ref a) :: ls) (.ref a :: st) h := am_ev_step (q := (36, some (.ref a) :: ls, .ref a :: st, h)) _ (.aload_n 0) 1 am_my_186 (by decide +kernel) rfl
theorem e186_36 {ls : List (Option Value)} {st : List Value} {h : am_H} {o : Nat} (hk : am_kd h o = some (.inl 11)) : am_ev 186 36 ls (.ref o :: st) h = am_ev 186 39 ls (.int (h.1 o 14) :: st) h := am_u_gfI (idx := 127) (wn := 5146) am_my_186 (by decide +kernel) (by decide +kernel) (by decide +kernel) hk
theorem e186_39 {ls : List (Option Value)} {st : List Value} {h : am_H} {l0 l1 l2 l3 : Option Value} {a : Int32} : am_ev 186 39 (l0 :: l1 :: l2 :: l3 :: some (.int a) :: ls) (st) h = am_ev 186 41 (l0 :: l1 :: l2 :: l3 :: some (.int a) :: ls) (.int a :: st) h := am_ev_step (q := (41, l0 :: l1 :: l2 :: l3 :: some (.int a) :: ls, .int a :: st, h)) _ (.iload 4) 2 am_my_186 (by decide +kernel) rfl
theorem e186_41 {ls : List (Option Value)} {st : List Value} {h : am_H} {a b : Int32} : am_ev 186 41 ls (.int b :: .int a :: st) h = if ¬ a = b then am_ev 186 58 ls st h else am_ev 186 44 ls st h := am_u_if2 (c := .ne) (off := 17) am_my_186 (by decide +kernel) (by decide)
theorem e186_44 {ls : List (Option Value)} {st : List Value} {h : am_H} {a : Nat} : am_ev 186 44 (some (.ref a) :: ls) (st) h = am_ev 186 45 (some (.ref a) :: ls) (.ref a :: st) h := am_ev_step (q := (45, some (.ref a) :: ls, .ref a :: st, h)) _ (.aload_n 0) 1 am_my_186 (by decide +kernel) rfl
theorem e186_45 {ls : List (Option Value)} {st : List Value} {h : am_H} : am_ev 186 45 (ls) (st) h = am_ev 186 46 (ls) (.int (2) :: st) h := am_ev_step (q := (46, ls, .int (2) :: st, h)) _ (.iconst (2)) 1 am_my_186 (by decide +kernel) rfl
theorem e186_46 {ls : List (Option Value)} {st : List Value} {h : am_H} {a : Nat} : am_ev 186 46 (some (.ref a) :: ls) (st) h = am_ev 186 47 (some (.ref a) :: ls) (.ref a :: st) h := am_ev_step (q := (47, some (.ref a) :: ls, .ref a :: st, h)) _ (.aload_n 0) 1 am_my_186 (by decide +kernel) rfl
theorem e186_47 {ls : List (Option Value)} {st : List Value} {h : am_H} {o : Nat} (hk : am_kd h o = some (.inl 11)) : am_ev 186 47 ls (.ref o :: st) h = am_ev 186 50 ls (.int (h.1 o 12) :: st) h := am_u_gfI (idx := 117) (wn := 5144) am_my_186 (by decide +kernel) (by decide +kernel) (by decide +kernel) hk
theorem e186_50 {ls : List (Option Value)} {st : List Value} {h : am_H} {p0 : Int32} {p1 : Int32} {o : Nat} (hw : am_w8 st ≤ 8) (hk : am_kd h o = some (.inl 11)) : am_ev 186 50 ls (.int p1 :: .int p0 :: .ref o :: st) h = am_bd (am_den 181 [.ref o, .int p0, .int p1] h) (fun v h1 => am_ev 186 53 ls (v.toList ++ st) h1) := am_u_cV (idx := 143) (wn := 6143) (as := [.int p0, .int p1]) am_my_186 (by decide +kernel) (Or.inl (by decide +kernel)) am_my_181 (by decide +kernel) rfl ⟨Nat.le_of_ble_eq_true rfl, rfl⟩ (by decide +kernel) hw hk
theorem e186_53 {ls : List (Option Value)} {st : List Value} {h : am_H} {a : Nat} : am_ev 186 53 (some (.ref a) :: ls) (st) h = am_ev 186 54 (some (.ref a) :: ls) (.ref a :: st) h := am_ev_step (q := (54, some (.ref a) :: ls, .ref a :: st, h)) _ (.aload_n 0) 1 am_my_186 (by decide +kernel) rfl
theorem e186_54 {ls : List (Option Value)} {st : List Value} {h : am_H} : am_ev 186 54 (ls) (st) h = am_ev 186 55 (ls) (.int (0) :: st) h := am_ev_step (q := (55, ls, .int (0) :: st, h)) _ (.iconst (0)) 1 am_my_186 (by decide +kernel) rfl
theorem e186_55 {ls : List (Option Value)} {st : List Value} {h : am_H} {o : Nat} {v : Int32} (hk : am_kd h o = some (.inl 11)) (hv : v = 0 ∨ v = 1) : am_ev 186 55 ls (.int v :: .ref o :: st) h = am_ev 186 58 ls st (am_sI h o 23 v) := am_u_pfZ (idx := 147) (wn := 5155) am_my_186 (by decide +kernel) (by decide +kernel) (by decide +kernel) (by decide +kernel) hk hv
theorem e186_58 {ls : List (Option Value)} {st : List Value} {h : am_H} {a : Nat} : am_ev 186 58 (some (.ref a) :: ls) (st) h = am_ev 186 59 (some (.ref a) :: ls) (.ref a :: st) h := am_ev_step (q := (59, some (.ref a) :: ls, .ref a :: st, h)) _ (.aload_n 0) 1 am_my_186 (by decide +kernel) rfl
theorem e186_59 {ls : List (Option Value)} {st : List Value} {h : am_H}  {o : Nat} (hw : am_w8 st ≤ 8) (hk : am_kd h o = some (.inl 11)) : am_ev 186 59 ls (.ref o :: st) h = am_bd (am_den 173 [.ref o] h) (fun v h1 => am_ev 186 62 ls (v.toList ++ st) h1) := am_u_cV (idx := 151) (wn := 6104) (as := []) am_my_186 (by decide +kernel) (Or.inl (by decide +kernel)) am_my_173 (by decide +kernel) rfl ⟨Nat.le_of_ble_eq_true rfl, rfl⟩ (by decide +kernel) hw hk
theorem e186_62 {ls : List (Option Value)} {st : List Value} {h : am_H} : am_ev 186 62 (ls) (st) h = am_ev 186 63 (ls) (.int (1) :: st) h := am_ev_step (q := (63, ls, .int (1) :: st, h)) _ (.iconst (1)) 1 am_my_186 (by decide +kernel) rfl
theorem e186_63 {ls : List (Option Value)} {h : am_H} {v : Int32} (hv : v = 0 ∨ v = 1) : am_ev 186 63 ls [.int v] h = some (some (.int v), h) := am_u_rtZ am_my_186 (by decide +kernel) rfl hv
theorem e185_0 {ls : List (Option Value)} {st : List Value} {h : am_H} {a : Nat} : am_ev 185 0 (some (.ref a) :: ls) (st) h = am_ev 185 1 (some (.ref a) :: ls) (.ref a :: st) h := am_ev_step (q := (1, some (.ref a) :: ls, .ref a :: st, h)) _ (.aload_n 0) 1 am_my_185 (by decide +kernel) rfl
theorem e185_1 {ls : List (Option Value)} {st : List Value} {h : am_H} {l0 : Option Value} {a : Int32} : am_ev 185 1 (l0 :: some (.int a) :: ls) (st) h = am_ev 185 2 (l0 :: some (.int a) :: ls) (.int a :: st) h := am_ev_step (q := (2, l0 :: some (.int a) :: ls, .int a :: st, h)) _ (.iload_n 1) 1 am_my_185 (by decide +kernel) rfl
theorem e185_2 {ls : List (Option Value)} {st : List Value} {h : am_H} {l0 l1 : Option Value} {a : Int32} : am_ev 185 2 (l0 :: l1 :: some (.int a) :: ls) (st) h = am_ev 185 3 (l0 :: l1 :: some (.int a) :: ls) (.int a :: st) h := am_ev_step (q := (3, l0 :: l1 :: some (.int a) :: ls, .int a :: st, h)) _ (.iload_n 2) 1 am_my_185 (by decide +kernel) rfl
theorem e185_3 {ls : List (Option Value)} {st : List Value} {h : am_H} {l0 l1 l2 : Option Value} {a : Int32} : am_ev 185 3 (l0 :: l1 :: l2 :: some (.int a) :: ls) (st) h = am_ev 185 4 (l0 :: l1 :: l2 :: some (.int a) :: ls) (.int a :: st) h := am_ev_step (q := (4, l0 :: l1 :: l2 :: some (.int a) :: ls, .int a :: st, h)) _ (.iload_n 3) 1 am_my_185 (by decide +kernel) rfl
theorem e185_4 {ls : List (Option Value)} {st : List Value} {h : am_H} : am_ev 185 4 (ls) (st) h = am_ev 185 5 (ls) (.int (-1) :: st) h := am_ev_step (q := (5, ls, .int (-1) :: st, h)) _ (.iconst (-1)) 1 am_my_185 (by decide +kernel) rfl
theorem e185_5 {ls : List (Option Value)} {st : List Value} {h : am_H} {p0 : Int32} {p1 : Int32} {p2 : Int32} {p3 : Int32} {o : Nat} (hw : am_w8 st ≤ 8) (hk : am_kd h o = some (.inl 11)) : am_ev 185 5 ls (.int p3 :: .int p2 :: .int p1 :: .int p0 :: .ref o :: st) h = am_bd (am_den 186 [.ref o, .int p0, .int p1, .int p2, .int p3] h) (fun v h1 => am_ev 185 8 ls (v.toList ++ st) h1) := am_u_cV (idx := 154) (wn := 6163) (as := [.int p0, .int p1, .int p2, .int p3]) am_my_185 (by decide +kernel) (Or.inl (by decide +kernel)) am_my_186 (by decide +kernel) rfl ⟨Nat.le_of_ble_eq_true rfl, rfl⟩ (by decide +kernel) hw hk
theorem e185_8 {ls : List (Option Value)} {h : am_H} {v : Int32} (hv : v = 0 ∨ v = 1) : am_ev 185 8 ls [.int v] h = some (some (.int v), h) := am_u_rtZ am_my_185 (by decide +kernel) rfl hv
theorem e184_0 {ls : List (Option Value)} {st : List Value} {h : am_H} {a : Nat} : am_ev 184 0 (some (.ref a) :: ls) (st) h = am_ev 184 1 (some (.ref a) :: ls) (.ref a :: st) h := am_ev_step (q := (1, some (.ref a) :: ls, .ref a :: st, h)) _ (.aload_n 0) 1 am_my_184 (by decide +kernel) rfl
theorem e184_1 {ls : List (Option Value)} {st : List Value} {h : am_H} {l0 : Option Value} {a : Int32} : am_ev 184 1 (l0 :: some (.int a) :: ls) (st) h = am_ev 184 2 (l0 :: some (.int a) :: ls) (.int a :: st) h := am_ev_step (q := (2, l0 :: some (.int a) :: ls, .int a :: st, h)) _ (.iload_n 1) 1 am_my_184 (by decide +kernel) rfl
theorem e184_2 {ls : List (Option Value)} {st : List Value} {h : am_H} : am_ev 184 2 (ls) (st) h = am_ev 184 3 (ls) (.int (0) :: st) h := am_ev_step (q := (3, ls, .int (0) :: st, h)) _ (.iconst (0)) 1 am_my_184 (by decide +kernel) rfl
theorem e184_3 {ls : List (Option Value)} {st : List Value} {h : am_H} : am_ev 184 3 (ls) (st) h = am_ev 184 5 (ls) (.int (7) :: st) h := am_ev_step (q := (5, ls, .int (7) :: st, h)) _ (.bipush (7)) 2 am_my_184 (by decide +kernel) rfl
theorem e184_5 {ls : List (Option Value)} {st : List Value} {h : am_H} {p0 : Int32} {p1 : Int32} {p2 : Int32} {o : Nat} (hw : am_w8 st ≤ 8) (hk : am_kd h o = some (.inl 11)) : am_ev 184 5 ls (.int p2 :: .int p1 :: .int p0 :: .ref o :: st) h = am_bd (am_den 185 [.ref o, .int p0, .int p1, .int p2] h) (fun v h1 => am_ev 184 8 ls (v.toList ++ st) h1) := am_u_cV (idx := 158) (wn := 6159) (as := [.int p0, .int p1, .int p2]) am_my_184 (by decide +kernel) (Or.inl (by decide +kernel)) am_my_185 (by decide +kernel) rfl ⟨Nat.le_of_ble_eq_true rfl, rfl⟩ (by decide +kernel) hw hk
theorem e184_8 {ls : List (Option Value)} {h : am_H} {v : Int32} (hv : v = 0 ∨ v = 1) : am_ev 184 8 ls [.int v] h = some (some (.int v), h) := am_u_rtZ am_my_184 (by decide +kernel) rfl hv
/-- the reference's reading: which cells it writes -/
def m_fr (g h : am_H) : Prop := h.2.2 = g.2.2 ∧ ∀ x k, (x ≠ 211 ∨ k < 10) → x ≠ 221 → x ≠ 222 → h.1 x k = g.1 x k ∧ h.2.1 x k = g.2.1 x k
theorem m_fr.sI {g h : am_H} (H : m_fr g h) (o k : Nat) (v : Int32) (ho : (o = 211 ∧ 10 ≤ k) ∨ o = 221 ∨ o = 222) : m_fr g (am_sI h o k v) := ⟨H.1, fun x y hx h1 h2 => ⟨by rw [am_rd_sI, if_neg (by omega)]; exact (H.2 x y hx h1 h2).1, (H.2 x y hx h1 h2).2⟩⟩
theorem m_fr.ok {g h : am_H} (H : m_fr g h) (ok : am_okH g) : am_okH h := by
  unfold am_okH at ok ⊢
  rw [H.1]
  exact ok
/-- the token at s has been read; a fault or none, ahead of b -/
def m_st (t : Nat → Nat) (L : Nat) (g h : am_H) (s : Nat) (q : Nat × Nat) (b : Nat) : Prop := t_tx h t L ∧ m_fr g h ∧ s ≤ L ∧ (h.1 211 10 = nI (t_E t L s) ∧ h.1 211 12 = nI s ∧ h.1 211 13 = nI (t_K t L s) ∧ (t_K t L s = 3 → h.1 211 14 = nI (t_v t L s)) ∧ h.2.1 211 15 = lN (t_W t L s)) ∧ h.1 211 17 = nI q.1 ∧ (q.1 ≠ 0 → h.1 211 18 = nI q.2 ∧ q.2 < b) ∧ q.1 < 100
def m_bk (g h : am_H) (p : Nat) : Prop := m_fr g h ∧ h.1 211 16 = nI p
theorem m_st.le {t : Nat → Nat} {L : Nat} {g h : am_H} {s : Nat} {q : Nat × Nat} {b b' : Nat} (H : m_st t L g h s q b) (hb : b ≤ b') : m_st t L g h s q b' := by
  obtain ⟨a1, a2, a3, a4, a5, a6, a7⟩ := H
  exact ⟨a1, a2, a3, a4, a5, fun w => ⟨(a6 w).1, Nat.lt_of_lt_of_le (a6 w).2 hb⟩, a7⟩
theorem t_tx.sI {h : am_H} {t : Nat → Nat} {L : Nat} (x : t_tx h t L) (o k : Nat) (v : Int32) (ho : o ≠ 212 ∧ (o = 211 → k ≠ 11)) : t_tx (am_sI h o k v) t L := ⟨x.1, x.2.1, by rw [am_rd_sI, if_neg (by omega)]; exact x.2.2.1, fun j hj => by rw [am_rd_sI, if_neg (by omega)]; exact x.2.2.2 j hj⟩
/-- other cells of the reference are written -/
theorem m_st.sI {t : Nat → Nat} {L : Nat} {g h : am_H} {s : Nat} {q : Nat × Nat} {b : Nat} (H : m_st t L g h s q b) (o k : Nat) (v : Int32) (ho : (o = 211 ∧ 19 ≤ k) ∨ o = 221 ∨ o = 222) : m_st t L g (am_sI h o k v) s q b := by
  obtain ⟨a1, a2, a3, ⟨b1, b2, b3, b4, b5⟩, a5, a6, a7⟩ := H
  refine ⟨a1.sI o k v (by omega), a2.sI o k v (by omega), a3, ⟨?_, ?_, ?_, fun w => ?_, b5⟩, ?_, fun w => ⟨?_, (a6 w).2⟩, a7⟩
  · rw [am_rd_sI, if_neg (by omega)]; exact b1
  · rw [am_rd_sI, if_neg (by omega)]; exact b2
  · rw [am_rd_sI, if_neg (by omega)]; exact b3
  · rw [am_rd_sI, if_neg (by omega)]; exact b4 w
  · rw [am_rd_sI, if_neg (by omega)]; exact a5
  · rw [am_rd_sI, if_neg (by omega)]; exact (a6 w).1
theorem t_up_o (h : am_H) (a b c d : Int32) (w : Int64) (x y : Nat) (hx : x ≠ 211 ∨ y < 10 ∨ 15 < y) : (t_up h a b c d w).1 x y = h.1 x y ∧ (t_up h a b c d w).2.1 x y = h.2.1 x y := by
  constructor
  · show (if x = 211 ∧ y = 10 then a else if x = 211 ∧ y = 12 then b else if x = 211 ∧ y = 13 then c else if x = 211 ∧ y = 14 then d else h.1 x y) = h.1 x y
    rw [if_neg (by omega), if_neg (by omega), if_neg (by omega), if_neg (by omega)]
  · show (if x = 211 ∧ y = 15 then w else h.2.1 x y) = h.2.1 x y
    rw [if_neg (by omega)]
/-- the next token -/
theorem m_tok0 {t : Nat → Nat} {L : Nat} {g h : am_H} (x : t_tx h t L) (fr : m_fr g h) (a : Nat) (ha : a ≤ L) (e : h.1 211 10 = nI a) (q : Nat × Nat) (b : Nat) (e17 : h.1 211 17 = nI q.1) (e18 : q.1 ≠ 0 → h.1 211 18 = nI q.2 ∧ q.2 < b) (q9 : q.1 < 100) : ∃ h' : am_H, am_den 173 [.ref 211] h = some (none, h') ∧ m_st t L g h' (t_S t L a) q b ∧ (∀ k, h'.1 221 k = h.1 221 k) ∧ (∀ k, h'.1 222 k = h.1 222 k) ∧ (∀ k, 16 ≤ k → h'.1 211 k = h.1 211 k) := by
  have sl := t_S_le t L a ha
  refine ⟨_, den_token h t L a x ha e, ⟨t_up_tx x _ _ _ _ _, ⟨fr.1, fun y k h1 h2 h3 => ?_⟩, sl.2, ⟨rfl, rfl, rfl, fun w => (t_cV_v w _).2, rfl⟩, e17, e18, q9⟩, fun k => (t_up_o _ _ _ _ _ _ _ _ (by omega)).1, fun k => (t_up_o _ _ _ _ _ _ _ _ (by omega)).1, fun k hk => (t_up_o _ _ _ _ _ _ _ _ (by omega)).1⟩
  have := t_up_o h (nI (t_E t L (t_S t L a))) (nI (t_S t L a)) (nI (t_K t L (t_S t L a))) (t_V t L (t_S t L a) (h.1 211 14)) (lN (t_W t L (t_S t L a))) y k (by omega)
  exact ⟨this.1.trans (fr.2 y k h1 h2 h3).1, this.2.trans (fr.2 y k h1 h2 h3).2⟩
theorem m_tok {t : Nat → Nat} {L : Nat} {g h : am_H} {s : Nat} {q : Nat × Nat} (H : m_st t L g h s q (s + 1)) (hs : s < L) : ∃ h' : am_H, am_den 173 [.ref 211] h = some (none, h') ∧ m_st t L g h' (t_S t L (t_E t L s)) q (t_S t L (t_E t L s)) ∧ (∀ k, h'.1 221 k = h.1 221 k) ∧ (∀ k, h'.1 222 k = h.1 222 k) ∧ (∀ k, 16 ≤ k → h'.1 211 k = h.1 211 k) := by
  obtain ⟨a1, a2, a3, ⟨b1, b2, b3, b4, b5⟩, a5, a6, a7⟩ := H
  have el := t_E_le t L s a3
  have sl := t_S_le t L _ el.2.1
  obtain ⟨h', d, S, r⟩ := m_tok0 a1 a2 _ el.2.1 b1 q (s + 1) a5 a6 a7
  exact ⟨h', d, S.le (by omega), r⟩
theorem den_fails (h : am_H) (ok : am_okH h) : am_den 179 [.ref 211] h = some (some (.int 0), am_sI h 211 16 (h.1 211 12)) := by
  have o : (0 : Int32) = 0 ∨ (0 : Int32) = 1 := Or.inl rfl
  show am_ev 179 0 [some (.ref 211)] [] h = _
  simp only [e179_0, e179_1, e179_2, e179_5, e179_8, e179_9, am_bd_some, Option.toList_some, Option.toList_none, List.cons_append, List.nil_append, am_w8_0, am_w8_1, am_w8_2, am_w8_3, am_w8_4, eq_self, or_true, true_or, am_kd_sI, am_kd_sL, am_kd_sR, am_tc_sI, am_tc_sL, am_tc_sR, am_len_sI, am_len_sL, am_len_sR, am_rfs, if_true, if_false, am_rdL_sI, am_rR_sL, am_rt_cq, am_kd_cq, am_tc_cq, am_len_cq, am_rd_sL, am_rd_sR, am_rdL_sR, okK_211 ok, o]
theorem m_fails {t : Nat → Nat} {L : Nat} {g h : am_H} {s : Nat} {q : Nat × Nat} {b : Nat} (H : m_st t L g h s q b) : ∃ h' : am_H, am_den 179 [.ref 211] h = some (some (.int 0), h') ∧ m_bk g h' s := by
  obtain ⟨a1, a2, a3, ⟨b1, b2, b3, b4, b5⟩, a5, a6, a7⟩ := H
  exact ⟨_, den_fails h a1.1, a2.sI 211 16 _ (by omega), (c_eq _ _ _ _).trans b2⟩
theorem m_later {t : Nat → Nat} {L : Nat} {g h : am_H} {s : Nat} {q : Nat × Nat} (H : m_st t L g h s q s) (f : Nat) (hf : f < 100) : ∃ h' : am_H, am_den 181 [.ref 211, .int (nI f), .int (nI s)] h = some (none, h') ∧ m_st t L g h' s (t_nt q f s) (s + 1) ∧ (∀ k, h'.1 221 k = h.1 221 k) ∧ (∀ k, h'.1 222 k = h.1 222 k) ∧ (∀ k, 19 ≤ k → h'.1 211 k = h.1 211 k) := by
  have L6 := H.1.2.1
  have ok := H.1.1
  have H0 := H
  obtain ⟨a1, a2, a3, ⟨b1, b2, b3, b4, b5⟩, a5, a6, a7⟩ := H
  have e0 : h.1 211 17 = 0 ↔ q.1 = 0 := by rw [a5]; exact nI_eq (b := 0) (by omega) (by decide)
  unfold t_nt
  by_cases c : q.1 = 0
  · have c' := eq_true (e0.mpr c)
    rw [if_pos c]
    refine ⟨am_sI (am_sI h 211 17 (nI f)) 211 18 (nI s), ?_, ⟨(a1.sI 211 17 _ (by omega)).sI 211 18 _ (by omega), (a2.sI 211 17 _ (by omega)).sI 211 18 _ (by omega), a3, ⟨?_, ?_, ?_, fun w => ?_, b5⟩, ?_, fun w => ⟨c_eq _ _ _ _, Nat.lt_succ_self _⟩, hf⟩, fun k => ?_, fun k => ?_, fun k hk => ?_⟩
    · show am_ev 181 0 [some (.ref 211), some (.int (nI f)), some (.int (nI s))] [] h = _
      simp only [e181_0, e181_1, e181_4, e181_7, e181_8, e181_9, e181_12, e181_15, e181_16, e181_17, e181_20, e181_23, e181_24, e181_25, e181_28, e181_31, e181_32, e181_33, e181_36, e181_37, e181_38, e181_41, am_bd_some, Option.toList_some, Option.toList_none, List.cons_append, List.nil_append, am_w8_0, am_w8_1, am_w8_2, am_w8_3, am_w8_4, eq_self, or_true, true_or, am_kd_sI, am_kd_sL, am_kd_sR, am_tc_sI, am_tc_sL, am_tc_sR, am_len_sI, am_len_sL, am_len_sR, am_rfs, if_true, if_false, am_rdL_sI, am_rR_sL, am_rt_cq, am_kd_cq, am_tc_cq, am_len_cq, am_rd_sL, am_rd_sR, am_rdL_sR, okK_211 ok, c']
    · rw [am_rd_sI, if_neg (by omega), am_rd_sI, if_neg (by omega)]; exact b1
    · rw [am_rd_sI, if_neg (by omega), am_rd_sI, if_neg (by omega)]; exact b2
    · rw [am_rd_sI, if_neg (by omega), am_rd_sI, if_neg (by omega)]; exact b3
    · rw [am_rd_sI, if_neg (by omega), am_rd_sI, if_neg (by omega)]; exact b4 w
    · rw [am_rd_sI, if_neg (by omega), c_eq]
    · rw [am_rd_sI, if_neg (by omega), am_rd_sI, if_neg (by omega)]
    · rw [am_rd_sI, if_neg (by omega), am_rd_sI, if_neg (by omega)]
    · rw [am_rd_sI, if_neg (by omega), am_rd_sI, if_neg (by omega)]
  · have c' := eq_false (fun w => c (e0.mp w))
    obtain ⟨p1, p2⟩ := a6 c
    have n1 : ¬ nI s < nI q.2 := Int32.not_lt.mpr (nI_le (by omega) (by omega))
    have n2 : ¬ nI s = nI q.2 := fun w => absurd ((nI_eq (by omega) (by omega)).mp w) (by omega)
    rw [if_neg c]
    refine ⟨h, ?_, H0.le (by omega), fun _ => rfl, fun _ => rfl, fun _ _ => rfl⟩
    show am_ev 181 0 [some (.ref 211), some (.int (nI f)), some (.int (nI s))] [] h = _
    simp only [e181_0, e181_1, e181_4, e181_7, e181_8, e181_9, e181_12, e181_15, e181_16, e181_17, e181_20, e181_23, e181_24, e181_25, e181_28, e181_31, e181_32, e181_33, e181_36, e181_37, e181_38, e181_41, am_bd_some, Option.toList_some, Option.toList_none, List.cons_append, List.nil_append, am_w8_0, am_w8_1, am_w8_2, am_w8_3, am_w8_4, eq_self, or_true, true_or, am_kd_sI, am_kd_sL, am_kd_sR, am_tc_sI, am_tc_sL, am_tc_sR, am_len_sI, am_len_sL, am_len_sR, am_rfs, if_true, if_false, am_rdL_sI, am_rR_sL, am_rt_cq, am_kd_cq, am_tc_cq, am_len_cq, am_rd_sL, am_rd_sR, am_rdL_sR, okK_211 ok, c', p1, n1, n2, not_false_eq_true]
/-- one too many: a count that is known where there is no fault -/
theorem m_full {t : Nat → Nat} {L : Nat} {g h : am_H} {s : Nat} {q : Nat × Nat} (H : m_st t L g h s q s) (k m n : Nat) (hk : k < 81) (hm : m < 100) (hn : n ≤ m) (e : h.1 221 k = nI n) (fu : Bool) (hf : q.1 = 0 → (fu = true ↔ n = m)) : ∃ h' : am_H, am_den 180 [.ref 211, .int (nI k), .int (nI m), .int (nI s)] h = some (none, h') ∧ m_st t L g h' s (if fu = true then t_nt q 3 s else q) (s + 1) ∧ (∀ k, h'.1 221 k = h.1 221 k) ∧ (∀ k, h'.1 222 k = h.1 222 k) ∧ (∀ k, 19 ≤ k → h'.1 211 k = h.1 211 k) := by
  have ok := H.1.1
  have x : am_ix (nI k) 81 = true := am_ix_nI hk (by decide)
  have z : (nI k).toNatClampNeg = k := nI_clamp (by omega)
  have q1 : nI n = nI m ↔ n = m := nI_eq (by omega) (by omega)
  have kq : q.1 ≠ 0 → (if fu = true then t_nt q 3 s else q) = q := fun w => by
    rw [t_nt_k w]
    cases fu <;> rfl
  by_cases c : n = m
  · have c' := eq_true (q1.mpr c)
    obtain ⟨h', d, S, r⟩ := m_later H 3 (by decide)
    have d' : am_den 181 [.ref 211, .int 3, .int (nI s)] h = some (none, h') := d
    refine ⟨h', ?_, ?_, r⟩
    · show am_ev 180 0 [some (.ref 211), some (.int (nI k)), some (.int (nI m)), some (.int (nI s))] [] h = _
      simp only [e180_0, e180_1, e180_4, e180_5, e180_6, e180_7, e180_10, e180_11, e180_12, e180_13, e180_16, am_bd_some, Option.toList_some, Option.toList_none, List.cons_append, List.nil_append, am_w8_0, am_w8_1, am_w8_2, am_w8_3, am_w8_4, eq_self, or_true, true_or, am_kd_sI, am_kd_sL, am_kd_sR, am_tc_sI, am_tc_sL, am_tc_sR, am_len_sI, am_len_sL, am_len_sR, am_rfs, if_true, if_false, am_rdL_sI, am_rR_sL, am_rt_cq, am_kd_cq, am_tc_cq, am_len_cq, am_rd_sL, am_rd_sR, am_rdL_sR, okK_211 ok, okR_211_19 ok, okT_221 ok, okL_221 ok, x, z, e, c', not_true, d']
    · by_cases w : q.1 = 0
      · rw [if_pos ((hf w).mpr c)]; exact S
      · rw [kq w]; rw [t_nt_k w] at S; exact S
  · have c' := eq_false (fun w => c (q1.mp w))
    refine ⟨h, ?_, ?_, fun _ => rfl, fun _ => rfl, fun _ _ => rfl⟩
    · show am_ev 180 0 [some (.ref 211), some (.int (nI k)), some (.int (nI m)), some (.int (nI s))] [] h = _
      simp only [e180_0, e180_1, e180_4, e180_5, e180_6, e180_7, e180_10, e180_11, e180_12, e180_13, e180_16, am_bd_some, Option.toList_some, Option.toList_none, List.cons_append, List.nil_append, am_w8_0, am_w8_1, am_w8_2, am_w8_3, am_w8_4, eq_self, or_true, true_or, am_kd_sI, am_kd_sL, am_kd_sR, am_tc_sI, am_tc_sL, am_tc_sR, am_len_sI, am_len_sL, am_len_sR, am_rfs, if_true, if_false, am_rdL_sI, am_rR_sL, am_rt_cq, am_kd_cq, am_tc_cq, am_len_cq, am_rd_sL, am_rd_sR, am_rdL_sR, okK_211 ok, okR_211_19 ok, okT_221 ok, okL_221 ok, x, z, e, c', not_false_eq_true]
    · by_cases w : q.1 = 0
      · rw [if_neg (fun u => c ((hf w).mp u))]; exact H.le (by omega)
      · rw [kq w]; exact H.le (by omega)
/-- a number is taken -/
theorem m_takeBut {t : Nat → Nat} {L : Nat} {g h : am_H} {s : Nat} {q : Nat × Nat} (H : m_st t L g h s q s) (k lo hi : Nat) (but : Int32) (hk : k < 6) (hlo : lo < 100) (hhi : hi < 100) (can : Bool) (hc : t_K t L s = 3 → (can = true ↔ (lo ≤ t_v t L s ∧ t_v t L s ≤ hi) ∧ ¬ nI (t_v t L s) = but)) :
    (t_K t L s ≠ 3 → ∃ h' : am_H, am_den 186 [.ref 211, .int (nI k), .int (nI lo), .int (nI hi), .int but] h = some (some (.int 0), h') ∧ m_bk g h' s) ∧
    (t_K t L s = 3 → ∃ h' : am_H, am_den 186 [.ref 211, .int (nI k), .int (nI lo), .int (nI hi), .int but] h = some (some (.int 1), h') ∧ m_st t L g h' (t_S t L (t_E t L s)) (if can = true then q else t_nt q 2 s) (t_S t L (t_E t L s)) ∧ (∀ j, h'.1 221 j = h.1 221 j) ∧ (∀ j, h'.1 222 j = if j = k then nI (t_v t L s) else h.1 222 j) ∧ h'.1 211 21 = h.1 211 21 ∧ h'.1 211 22 = h.1 211 22 ∧ h'.1 211 23 = if can = true then h.1 211 23 else 0) := by
  have ok := H.1.1
  have L6 := H.1.2.1
  have e13 := H.2.2.2.1.2.2.1
  have e12 := H.2.2.2.1.2.1
  have kl := (t_CK t L s).1
  have q3 : h.1 211 13 = 3 ↔ t_K t L s = 3 := by rw [e13]; exact nI_eq (b := 3) (by omega) (by decide)
  have o0 : (0 : Int32) = 0 ∨ (0 : Int32) = 1 := Or.inl rfl
  have o1 : (1 : Int32) = 0 ∨ (1 : Int32) = 1 := Or.inr rfl
  refine ⟨fun c => ?_, fun c => ?_⟩
  · have c' := eq_false (fun w => c (q3.mp w))
    obtain ⟨h', d, b⟩ := m_fails H
    refine ⟨h', ?_, b⟩
    show am_ev 186 0 [some (.ref 211), some (.int (nI k)), some (.int (nI lo)), some (.int (nI hi)), some (.int but)] [] h = _
    simp only [e186_0, e186_1, e186_4, e186_5, e186_8, e186_9, e186_12, e186_13, e186_14, e186_17, e186_18, e186_19, e186_22, e186_23, e186_24, e186_27, e186_28, e186_29, e186_32, e186_35, e186_36, e186_39, e186_41, e186_44, e186_45, e186_46, e186_47, e186_50, e186_53, e186_54, e186_55, e186_58, e186_59, e186_62, e186_63, am_bd_some, Option.toList_some, Option.toList_none, List.cons_append, List.nil_append, am_w8_0, am_w8_1, am_w8_2, am_w8_3, am_w8_4, eq_self, or_true, true_or, am_kd_sI, am_kd_sL, am_kd_sR, am_tc_sI, am_tc_sL, am_tc_sR, am_len_sI, am_len_sL, am_len_sR, am_rfs, if_true, if_false, am_rdL_sI, am_rR_sL, am_rt_cq, am_kd_cq, am_tc_cq, am_len_cq, am_rd_sL, am_rd_sR, am_rdL_sR, okK_211 ok, c', d, o0]
  · have c' := eq_true (q3.mpr c)
    have vl := t_v_lt c
    have sL := t_K_lt (show t_K t L s ≠ 0 by omega)
    have ev := H.2.2.2.1.2.2.2.1 c
    have x : am_ix (nI k) 6 = true := am_ix_nI hk (by decide)
    have z : (nI k).toNatClampNeg = k := nI_clamp (by omega)
    let h1 : am_H := am_sI h 222 k (nI (t_v t L s))
    have S1 : m_st t L g h1 s q s := H.sI 222 k _ (by omega)
    have ok1 : am_okH h1 := ok
    have ev1 : h1.1 211 14 = nI (t_v t L s) := (c_ne _ _ _ _ _ _ (by decide)).trans ev
    have e121 : h1.1 211 12 = nI s := (c_ne _ _ _ _ _ _ (by decide)).trans e12
    have s1 : am_ev 186 0 [some (.ref 211), some (.int (nI k)), some (.int (nI lo)), some (.int (nI hi)), some (.int but)] [] h = am_ev 186 23 [some (.ref 211), some (.int (nI k)), some (.int (nI lo)), some (.int (nI hi)), some (.int but)] [] h1 := by
      simp only [e186_0, e186_1, e186_4, e186_5, e186_8, e186_9, e186_12, e186_13, e186_14, e186_17, e186_18, e186_19, e186_22, e186_24, e186_27, e186_28, e186_29, e186_32, e186_35, e186_36, e186_39, e186_41, e186_44, e186_45, e186_46, e186_47, e186_50, e186_53, e186_54, e186_55, e186_58, e186_59, e186_62, e186_63, am_bd_some, Option.toList_some, Option.toList_none, List.cons_append, List.nil_append, am_w8_0, am_w8_1, am_w8_2, am_w8_3, am_w8_4, eq_self, or_true, true_or, am_kd_sI, am_kd_sL, am_kd_sR, am_tc_sI, am_tc_sL, am_tc_sR, am_len_sI, am_len_sL, am_len_sR, am_rfs, if_true, if_false, am_rdL_sI, am_rR_sL, am_rt_cq, am_kd_cq, am_tc_cq, am_len_cq, am_rd_sL, am_rd_sR, am_rdL_sR, okK_211 ok, c', okR_211_20 ok, okT_222 ok, okL_222 ok, x, z, ev]
      rfl
    have qi : (nI lo ≤ nI (t_v t L s) ∧ nI (t_v t L s) ≤ nI hi) ↔ (lo ≤ t_v t L s ∧ t_v t L s ≤ hi) := by
      rw [nI_leI (by omega) (by omega), nI_leI (by omega) (by omega)]
    have r1 : ∀ j, h1.1 222 j = if j = k then nI (t_v t L s) else h.1 222 j := fun j => c_rw _ _ _ _ _
    have r2 : ∀ a b, a ≠ 222 → h1.1 a b = h.1 a b := fun a b w => c_ne _ _ _ _ _ _ w
    have bad : can = false → am_ev 186 23 [some (.ref 211), some (.int (nI k)), some (.int (nI lo)), some (.int (nI hi)), some (.int but)] [] h1 = am_ev 186 44 [some (.ref 211), some (.int (nI k)), some (.int (nI lo)), some (.int (nI hi)), some (.int but)] [] h1 := fun cc => by
      have nc : ¬ ((lo ≤ t_v t L s ∧ t_v t L s ≤ hi) ∧ ¬ nI (t_v t L s) = but) := fun w => by rw [(hc c).mpr w] at cc; cases cc
      by_cases w : lo ≤ t_v t L s ∧ t_v t L s ≤ hi
      · have w' := eq_true (qi.mpr w)
        have u : nI (t_v t L s) = but := Classical.byContradiction (fun u => nc ⟨w, u⟩)
        have u' := eq_true u
        have y : ¬ (1 : Int32) = 0 := by decide
        simp only [e186_0, e186_1, e186_4, e186_5, e186_8, e186_9, e186_12, e186_13, e186_14, e186_17, e186_18, e186_19, e186_22, e186_23, e186_24, e186_27, e186_28, e186_29, e186_32, e186_35, e186_36, e186_39, e186_41, e186_45, e186_46, e186_47, e186_50, e186_53, e186_54, e186_55, e186_58, e186_59, e186_62, e186_63, am_bd_some, Option.toList_some, Option.toList_none, List.cons_append, List.nil_append, am_w8_0, am_w8_1, am_w8_2, am_w8_3, am_w8_4, eq_self, or_true, true_or, am_kd_sI, am_kd_sL, am_kd_sR, am_tc_sI, am_tc_sL, am_tc_sR, am_len_sI, am_len_sL, am_len_sR, am_rfs, if_true, if_false, am_rdL_sI, am_rR_sL, am_rt_cq, am_kd_cq, am_tc_cq, am_len_cq, am_rd_sL, am_rd_sR, am_rdL_sR, okK_211 ok1, ev1, den_in, w', y, u', not_true]
      · have w' := eq_false (fun v => w (qi.mp v))
        simp only [e186_0, e186_1, e186_4, e186_5, e186_8, e186_9, e186_12, e186_13, e186_14, e186_17, e186_18, e186_19, e186_22, e186_23, e186_24, e186_27, e186_28, e186_29, e186_32, e186_35, e186_36, e186_39, e186_41, e186_45, e186_46, e186_47, e186_50, e186_53, e186_54, e186_55, e186_58, e186_59, e186_62, e186_63, am_bd_some, Option.toList_some, Option.toList_none, List.cons_append, List.nil_append, am_w8_0, am_w8_1, am_w8_2, am_w8_3, am_w8_4, eq_self, or_true, true_or, am_kd_sI, am_kd_sL, am_kd_sR, am_tc_sI, am_tc_sL, am_tc_sR, am_len_sI, am_len_sL, am_len_sR, am_rfs, if_true, if_false, am_rdL_sI, am_rR_sL, am_rt_cq, am_kd_cq, am_tc_cq, am_len_cq, am_rd_sL, am_rd_sR, am_rdL_sR, okK_211 ok1, ev1, den_in, w']
    cases cc : can with
    | true =>
      obtain ⟨w, u⟩ := (hc c).mp cc
      have w' := eq_true (qi.mpr w)
      have y : ¬ (1 : Int32) = 0 := by decide
      obtain ⟨h2, d2, S2, a1, a2, a3⟩ := m_tok (S1.le (by omega)) sL
      refine ⟨h2, ?_, by rw [if_pos rfl]; exact S2, fun j => (a1 j).trans (r2 221 j (by decide)), fun j => (a2 j).trans (r1 j), (a3 21 (by decide)).trans (r2 _ _ (by decide)), (a3 22 (by decide)).trans (r2 _ _ (by decide)), by rw [if_pos rfl]; exact (a3 23 (by decide)).trans (r2 _ _ (by decide))⟩
      show am_ev 186 0 [some (.ref 211), some (.int (nI k)), some (.int (nI lo)), some (.int (nI hi)), some (.int but)] [] h = _
      rw [s1]
      simp only [e186_0, e186_1, e186_4, e186_5, e186_8, e186_9, e186_12, e186_13, e186_14, e186_17, e186_18, e186_19, e186_22, e186_23, e186_24, e186_27, e186_28, e186_29, e186_32, e186_35, e186_36, e186_39, e186_41, e186_44, e186_45, e186_46, e186_47, e186_50, e186_53, e186_54, e186_55, e186_58, e186_59, e186_62, e186_63, am_bd_some, Option.toList_some, Option.toList_none, List.cons_append, List.nil_append, am_w8_0, am_w8_1, am_w8_2, am_w8_3, am_w8_4, eq_self, or_true, true_or, am_kd_sI, am_kd_sL, am_kd_sR, am_tc_sI, am_tc_sL, am_tc_sR, am_len_sI, am_len_sL, am_len_sR, am_rfs, if_true, if_false, am_rdL_sI, am_rR_sL, am_rt_cq, am_kd_cq, am_tc_cq, am_len_cq, am_rd_sL, am_rd_sR, am_rdL_sR, okK_211 ok1, ev1, den_in, w', y, u, not_false_eq_true, d2, o1]
    | false =>
      obtain ⟨h2, d2, S2, a1, a2, a3⟩ := m_later S1 2 (by decide)
      have d2' : am_den 181 [.ref 211, .int 2, .int (nI s)] h1 = some (none, h2) := d2
      have ok2 := S2.1.1
      have S3 : m_st t L g (am_sI h2 211 23 0) s (t_nt q 2 s) (s + 1) := S2.sI 211 23 0 (by omega)
      obtain ⟨h4, d4, S4, b1, b2, b3⟩ := m_tok S3 sL
      have ok3 := S3.1.1
      refine ⟨h4, ?_, by rw [if_neg (by decide)]; exact S4, fun j => ?_, fun j => ?_, ?_, ?_, ?_⟩
      · show am_ev 186 0 [some (.ref 211), some (.int (nI k)), some (.int (nI lo)), some (.int (nI hi)), some (.int but)] [] h = _
        rw [s1, bad cc]
        simp only [e186_0, e186_1, e186_4, e186_5, e186_8, e186_9, e186_12, e186_13, e186_14, e186_17, e186_18, e186_19, e186_22, e186_23, e186_24, e186_27, e186_28, e186_29, e186_32, e186_35, e186_36, e186_39, e186_41, e186_44, e186_45, e186_46, e186_47, e186_50, e186_53, e186_54, e186_55, e186_58, e186_59, e186_62, e186_63, am_bd_some, Option.toList_some, Option.toList_none, List.cons_append, List.nil_append, am_w8_0, am_w8_1, am_w8_2, am_w8_3, am_w8_4, eq_self, or_true, true_or, am_kd_sI, am_kd_sL, am_kd_sR, am_tc_sI, am_tc_sL, am_tc_sR, am_len_sI, am_len_sL, am_len_sR, am_rfs, if_true, if_false, am_rdL_sI, am_rR_sL, am_rt_cq, am_kd_cq, am_tc_cq, am_len_cq, am_rd_sL, am_rd_sR, am_rdL_sR, okK_211 ok1, e121, d2', okK_211 ok2, o0, okK_211 ok3, d4, o1]
      · rw [b1, c_ne _ _ _ _ _ _ (by decide), a1, r2 _ _ (by decide)]
      · rw [b2, c_ne _ _ _ _ _ _ (by decide), a2, r1]
      · rw [b3 _ (by decide), c_rw, if_neg (by decide), a3 _ (by decide), r2 _ _ (by decide)]
      · rw [b3 _ (by decide), c_rw, if_neg (by decide), a3 _ (by decide), r2 _ _ (by decide)]
      · rw [b3 _ (by decide), c_eq, if_neg (by decide)]
