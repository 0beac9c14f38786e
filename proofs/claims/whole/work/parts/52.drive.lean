/-! part 52: drives: till -/
theorem e210_0 {ls : List (Option Value)} {st : List Value} {h : am_H} : am_ev 210 0 (ls) (st) h = am_ev 210 1 (ls) (.int (0) :: st) h := am_ev_step (q := (1, ls, .int (0) :: st, h)) _ (.iconst (0)) 1 am_my_210 (by decide +kernel) rfl
theorem e210_1 {ls : List (Option Value)} {st : List Value} {h : am_H} {l0 l1 : Option Value} {z : Option Value} {a : Int32} : am_ev 210 1 (l0 :: l1 :: z :: ls) (.int a :: st) h = am_ev 210 2 (l0 :: l1 :: some (.int a) :: ls) (st) h := am_ev_step (q := (2, l0 :: l1 :: some (.int a) :: ls, st, h)) _ (.istore_n 2) 1 am_my_210 (by decide +kernel) rfl
theorem e210_2 {ls : List (Option Value)} {st : List Value} {h : am_H} {l0 l1 : Option Value} {a : Int32} : am_ev 210 2 (l0 :: l1 :: some (.int a) :: ls) (st) h = am_ev 210 3 (l0 :: l1 :: some (.int a) :: ls) (.int a :: st) h := am_ev_step (q := (3, l0 :: l1 :: some (.int a) :: ls, .int a :: st, h)) _ (.iload_n 2) 1 am_my_210 (by decide +kernel) rfl
theorem e210_3 {ls : List (Option Value)} {st : List Value} {h : am_H} {l0 : Option Value} {a : Int32} : am_ev 210 3 (l0 :: some (.int a) :: ls) (st) h = am_ev 210 4 (l0 :: some (.int a) :: ls) (.int a :: st) h := am_ev_step (q := (4, l0 :: some (.int a) :: ls, .int a :: st, h)) _ (.iload_n 1) 1 am_my_210 (by decide +kernel) rfl
theorem e210_4 {ls : List (Option Value)} {st : List Value} {h : am_H} {a b : Int32} : am_ev 210 4 ls (.int b :: .int a :: st) h = if b ≤ a then am_ev 210 32 ls st h else am_ev 210 7 ls st h := am_u_if2 (c := .ge) (off := 28) am_my_210 (by decide +kernel) (by decide)
theorem e210_7 {ls : List (Option Value)} {st : List Value} {h : am_H} {a : Nat} : am_ev 210 7 (some (.ref a) :: ls) (st) h = am_ev 210 8 (some (.ref a) :: ls) (.ref a :: st) h := am_ev_step (q := (8, some (.ref a) :: ls, .ref a :: st, h)) _ (.aload_n 0) 1 am_my_210 (by decide +kernel) rfl
theorem e210_8 {ls : List (Option Value)} {st : List Value} {h : am_H} {a : Nat} : am_ev 210 8 (some (.ref a) :: ls) (st) h = am_ev 210 9 (some (.ref a) :: ls) (.ref a :: st) h := am_ev_step (q := (9, some (.ref a) :: ls, .ref a :: st, h)) _ (.aload_n 0) 1 am_my_210 (by decide +kernel) rfl
theorem e210_9 {ls : List (Option Value)} {st : List Value} {h : am_H} {l0 l1 : Option Value} {a : Int32} : am_ev 210 9 (l0 :: l1 :: some (.int a) :: ls) (st) h = am_ev 210 10 (l0 :: l1 :: some (.int a) :: ls) (.int a :: st) h := am_ev_step (q := (10, l0 :: l1 :: some (.int a) :: ls, .int a :: st, h)) _ (.iload_n 2) 1 am_my_210 (by decide +kernel) rfl
theorem e210_10 {ls : List (Option Value)} {st : List Value} {h : am_H} : am_ev 210 10 (ls) (st) h = am_ev 210 11 (ls) (.int (0) :: st) h := am_ev_step (q := (11, ls, .int (0) :: st, h)) _ (.iconst (0)) 1 am_my_210 (by decide +kernel) rfl
theorem e210_11 {ls : List (Option Value)} {st : List Value} {h : am_H} {p0 : Int32} {p1 : Int32} {o : Nat} (hw : am_w8 st ≤ 8) (hk : am_kd h o = some (.inl 11)) : am_ev 210 11 ls (.int p1 :: .int p0 :: .ref o :: st) h = am_bd (am_den 207 [.ref o, .int p0, .int p1] h) (fun v h1 => am_ev 210 14 ls (v.toList ++ st) h1) := am_u_cV (idx := 354) (wn := 7014) (as := [.int p0, .int p1]) am_my_210 (by decide +kernel) (Or.inl (by decide +kernel)) am_my_207 (by decide +kernel) rfl ⟨Nat.le_of_ble_eq_true rfl, rfl⟩ (by decide +kernel) hw hk
theorem e210_14 {ls : List (Option Value)} {st : List Value} {h : am_H} {a : Nat} : am_ev 210 14 (some (.ref a) :: ls) (st) h = am_ev 210 15 (some (.ref a) :: ls) (.ref a :: st) h := am_ev_step (q := (15, some (.ref a) :: ls, .ref a :: st, h)) _ (.aload_n 0) 1 am_my_210 (by decide +kernel) rfl
theorem e210_15 {ls : List (Option Value)} {st : List Value} {h : am_H} {l0 l1 : Option Value} {a : Int32} : am_ev 210 15 (l0 :: l1 :: some (.int a) :: ls) (st) h = am_ev 210 16 (l0 :: l1 :: some (.int a) :: ls) (.int a :: st) h := am_ev_step (q := (16, l0 :: l1 :: some (.int a) :: ls, .int a :: st, h)) _ (.iload_n 2) 1 am_my_210 (by decide +kernel) rfl
theorem e210_16 {ls : List (Option Value)} {st : List Value} {h : am_H} : am_ev 210 16 (ls) (st) h = am_ev 210 17 (ls) (.int (1) :: st) h := am_ev_step (q := (17, ls, .int (1) :: st, h)) _ (.iconst (1)) 1 am_my_210 (by decide +kernel) rfl
theorem e210_17 {ls : List (Option Value)} {st : List Value} {h : am_H} {p0 : Int32} {p1 : Int32} {o : Nat} (hw : am_w8 st ≤ 8) (hk : am_kd h o = some (.inl 11)) : am_ev 210 17 ls (.int p1 :: .int p0 :: .ref o :: st) h = am_bd (am_den 207 [.ref o, .int p0, .int p1] h) (fun v h1 => am_ev 210 20 ls (v.toList ++ st) h1) := am_u_cV (idx := 354) (wn := 7014) (as := [.int p0, .int p1]) am_my_210 (by decide +kernel) (Or.inl (by decide +kernel)) am_my_207 (by decide +kernel) rfl ⟨Nat.le_of_ble_eq_true rfl, rfl⟩ (by decide +kernel) hw hk
theorem e210_20 {ls : List (Option Value)} {st : List Value} {h : am_H} {p0 : Int32} {p1 : Int32} {o : Nat} (hw : am_w8 st ≤ 8) (hk : am_kd h o = some (.inl 11)) : am_ev 210 20 ls (.int p1 :: .int p0 :: .ref o :: st) h = am_bd (am_den 211 [.ref o, .int p0, .int p1] h) (fun v h1 => am_ev 210 23 ls (v.toList ++ st) h1) := am_u_cV (idx := 370) (wn := 7030) (as := [.int p0, .int p1]) am_my_210 (by decide +kernel) (Or.inl (by decide +kernel)) am_my_211 (by decide +kernel) rfl ⟨Nat.le_of_ble_eq_true rfl, rfl⟩ (by decide +kernel) hw hk
theorem e210_23 {ls : List (Option Value)} {st : List Value} {h : am_H} {a : Int32} : am_ev 210 23 ls (.int a :: st) h = if a = 0 then am_ev 210 32 ls st h else am_ev 210 26 ls st h := am_u_if1 (c := .eq) (off := 9) am_my_210 (by decide +kernel) (by decide)
theorem e210_26 {ls : List (Option Value)} {st : List Value} {h : am_H} {l0 l1 : Option Value} {a : Int32} : am_ev 210 26 (l0 :: l1 :: some (.int a) :: ls) (st) h = am_ev 210 29 (l0 :: l1 :: some (.int (a + (1))) :: ls) (st) h := am_ev_step (q := (29, l0 :: l1 :: some (.int (a + (1))) :: ls, st, h)) _ (.iinc 2 (1)) 3 am_my_210 (by decide +kernel) rfl
theorem e210_29 {ls : List (Option Value)} {st : List Value} {h : am_H} : am_ev 210 29 (ls) (st) h = am_ev 210 2 (ls) (st) h := am_ev_step (q := (2, ls, st, h)) _ (.goto (-27)) 3 am_my_210 (by decide +kernel) rfl
theorem e210_32 {ls : List (Option Value)} {st : List Value} {h : am_H} {l0 l1 : Option Value} {a : Int32} : am_ev 210 32 (l0 :: l1 :: some (.int a) :: ls) (st) h = am_ev 210 33 (l0 :: l1 :: some (.int a) :: ls) (.int a :: st) h := am_ev_step (q := (33, l0 :: l1 :: some (.int a) :: ls, .int a :: st, h)) _ (.iload_n 2) 1 am_my_210 (by decide +kernel) rfl
theorem e210_33 {ls : List (Option Value)} {h : am_H} {v : Int32} : am_ev 210 33 ls [.int v] h = some (some (.int v), h) := am_u_rtI am_my_210 (by decide +kernel) rfl
theorem e209_0 {ls : List (Option Value)} {st : List Value} {h : am_H} {a : Nat} : am_ev 209 0 (some (.ref a) :: ls) (st) h = am_ev 209 1 (some (.ref a) :: ls) (.ref a :: st) h := am_ev_step (q := (1, some (.ref a) :: ls, .ref a :: st, h)) _ (.aload_n 0) 1 am_my_209 (by decide +kernel) rfl
theorem e209_1 {ls : List (Option Value)} {st : List Value} {h : am_H} {l0 l1 : Option Value} {a : Int32} : am_ev 209 1 (l0 :: l1 :: some (.int a) :: ls) (st) h = am_ev 209 2 (l0 :: l1 :: some (.int a) :: ls) (.int a :: st) h := am_ev_step (q := (2, l0 :: l1 :: some (.int a) :: ls, .int a :: st, h)) _ (.iload_n 2) 1 am_my_209 (by decide +kernel) rfl
theorem e209_2 {ls : List (Option Value)} {st : List Value} {h : am_H} {p0 : Int32} {o : Nat} (hw : am_w8 st ≤ 8) (hk : am_kd h o = some (.inl 11)) : am_ev 209 2 ls (.int p0 :: .ref o :: st) h = am_bd (am_den 205 [.ref o, .int p0] h) (fun v h1 => am_ev 209 5 ls (v.toList ++ st) h1) := am_u_cV (idx := 348) (wn := 7006) (as := [.int p0]) am_my_209 (by decide +kernel) (Or.inl (by decide +kernel)) am_my_205 (by decide +kernel) rfl ⟨Nat.le_of_ble_eq_true rfl, rfl⟩ (by decide +kernel) hw hk
theorem e209_5 {ls : List (Option Value)} {st : List Value} {h : am_H} {a : Int32} : am_ev 209 5 ls (.int a :: st) h = if a = 0 then am_ev 209 20 ls st h else am_ev 209 8 ls st h := am_u_if1 (c := .eq) (off := 15) am_my_209 (by decide +kernel) (by decide)
theorem e209_8 {ls : List (Option Value)} {st : List Value} {h : am_H} {a : Nat} : am_ev 209 8 (some (.ref a) :: ls) (st) h = am_ev 209 9 (some (.ref a) :: ls) (.ref a :: st) h := am_ev_step (q := (9, some (.ref a) :: ls, .ref a :: st, h)) _ (.aload_n 0) 1 am_my_209 (by decide +kernel) rfl
theorem e209_9 {ls : List (Option Value)} {st : List Value} {h : am_H} {l0 : Option Value} {a : Int32} : am_ev 209 9 (l0 :: some (.int a) :: ls) (st) h = am_ev 209 10 (l0 :: some (.int a) :: ls) (.int a :: st) h := am_ev_step (q := (10, l0 :: some (.int a) :: ls, .int a :: st, h)) _ (.iload_n 1) 1 am_my_209 (by decide +kernel) rfl
theorem e209_10 {ls : List (Option Value)} {st : List Value} {h : am_H} {p0 : Int32} {o : Nat} (hw : am_w8 st ≤ 8) (hk : am_kd h o = some (.inl 11)) : am_ev 209 10 ls (.int p0 :: .ref o :: st) h = am_bd (am_den 201 [.ref o, .int p0] h) (fun v h1 => am_ev 209 13 ls (v.toList ++ st) h1) := am_u_cV (idx := 339) (wn := 6230) (as := [.int p0]) am_my_209 (by decide +kernel) (Or.inl (by decide +kernel)) am_my_201 (by decide +kernel) rfl ⟨Nat.le_of_ble_eq_true rfl, rfl⟩ (by decide +kernel) hw hk
theorem e209_13 {ls : List (Option Value)} {st : List Value} {h : am_H} {a : Int32} : am_ev 209 13 ls (.int a :: st) h = if a = 0 then am_ev 209 20 ls st h else am_ev 209 16 ls st h := am_u_if1 (c := .eq) (off := 7) am_my_209 (by decide +kernel) (by decide)
theorem e209_16 {ls : List (Option Value)} {st : List Value} {h : am_H} : am_ev 209 16 (ls) (st) h = am_ev 209 17 (ls) (.int (1) :: st) h := am_ev_step (q := (17, ls, .int (1) :: st, h)) _ (.iconst (1)) 1 am_my_209 (by decide +kernel) rfl
theorem e209_17 {ls : List (Option Value)} {st : List Value} {h : am_H} : am_ev 209 17 (ls) (st) h = am_ev 209 21 (ls) (st) h := am_ev_step (q := (21, ls, st, h)) _ (.goto (4)) 3 am_my_209 (by decide +kernel) rfl
theorem e209_20 {ls : List (Option Value)} {st : List Value} {h : am_H} : am_ev 209 20 (ls) (st) h = am_ev 209 21 (ls) (.int (0) :: st) h := am_ev_step (q := (21, ls, .int (0) :: st, h)) _ (.iconst (0)) 1 am_my_209 (by decide +kernel) rfl
theorem e209_21 {ls : List (Option Value)} {h : am_H} {v : Int32} (hv : v = 0 ∨ v = 1) : am_ev 209 21 ls [.int v] h = some (some (.int v), h) := am_u_rtZ am_my_209 (by decide +kernel) rfl hv
theorem e208_0 {ls : List (Option Value)} {st : List Value} {h : am_H} {a : Nat} : am_ev 208 0 (some (.ref a) :: ls) (st) h = am_ev 208 1 (some (.ref a) :: ls) (.ref a :: st) h := am_ev_step (q := (1, some (.ref a) :: ls, .ref a :: st, h)) _ (.aload_n 0) 1 am_my_208 (by decide +kernel) rfl
theorem e208_1 {ls : List (Option Value)} {st : List Value} {h : am_H} : am_ev 208 1 (ls) (st) h = am_ev 208 2 (ls) (.int (0) :: st) h := am_ev_step (q := (2, ls, .int (0) :: st, h)) _ (.iconst (0)) 1 am_my_208 (by decide +kernel) rfl
theorem e208_2 {ls : List (Option Value)} {st : List Value} {h : am_H} {o : Nat} {v : Int32} (hk : am_kd h o = some (.inl 11)) : am_ev 208 2 ls (.int v :: .ref o :: st) h = am_ev 208 5 ls st (am_sI h o 0 v) := am_u_pfI (idx := 87) (wn := 5132) am_my_208 (by decide +kernel) (by decide +kernel) (by decide +kernel) (by decide +kernel) hk
theorem e208_5 {ls : List (Option Value)} {st : List Value} {h : am_H} {a : Nat} : am_ev 208 5 (some (.ref a) :: ls) (st) h = am_ev 208 6 (some (.ref a) :: ls) (.ref a :: st) h := am_ev_step (q := (6, some (.ref a) :: ls, .ref a :: st, h)) _ (.aload_n 0) 1 am_my_208 (by decide +kernel) rfl
theorem e208_6 {ls : List (Option Value)} {st : List Value} {h : am_H} {l0 : Option Value} {a : Int32} : am_ev 208 6 (l0 :: some (.int a) :: ls) (st) h = am_ev 208 7 (l0 :: some (.int a) :: ls) (.int a :: st) h := am_ev_step (q := (7, l0 :: some (.int a) :: ls, .int a :: st, h)) _ (.iload_n 1) 1 am_my_208 (by decide +kernel) rfl
theorem e208_7 {ls : List (Option Value)} {st : List Value} {h : am_H} {l0 l1 : Option Value} {a : Int32} : am_ev 208 7 (l0 :: l1 :: some (.int a) :: ls) (st) h = am_ev 208 8 (l0 :: l1 :: some (.int a) :: ls) (.int a :: st) h := am_ev_step (q := (8, l0 :: l1 :: some (.int a) :: ls, .int a :: st, h)) _ (.iload_n 2) 1 am_my_208 (by decide +kernel) rfl
theorem e208_8 {ls : List (Option Value)} {st : List Value} {h : am_H} {p0 : Int32} {p1 : Int32} {o : Nat} (hw : am_w8 st ≤ 8) (hk : am_kd h o = some (.inl 11)) : am_ev 208 8 ls (.int p1 :: .int p0 :: .ref o :: st) h = am_bd (am_den 209 [.ref o, .int p0, .int p1] h) (fun v h1 => am_ev 208 11 ls (v.toList ++ st) h1) := am_u_cV (idx := 373) (wn := 7022) (as := [.int p0, .int p1]) am_my_208 (by decide +kernel) (Or.inl (by decide +kernel)) am_my_209 (by decide +kernel) rfl ⟨Nat.le_of_ble_eq_true rfl, rfl⟩ (by decide +kernel) hw hk
theorem e208_11 {ls : List (Option Value)} {st : List Value} {h : am_H} {a : Int32} : am_ev 208 11 ls (.int a :: st) h = if a = 0 then am_ev 208 25 ls st h else am_ev 208 14 ls st h := am_u_if1 (c := .eq) (off := 14) am_my_208 (by decide +kernel) (by decide)
theorem e208_14 {ls : List (Option Value)} {st : List Value} {h : am_H} {a : Nat} : am_ev 208 14 (some (.ref a) :: ls) (st) h = am_ev 208 15 (some (.ref a) :: ls) (.ref a :: st) h := am_ev_step (q := (15, some (.ref a) :: ls, .ref a :: st, h)) _ (.aload_n 0) 1 am_my_208 (by decide +kernel) rfl
theorem e208_15 {ls : List (Option Value)} {st : List Value} {h : am_H} {a : Nat} : am_ev 208 15 (some (.ref a) :: ls) (st) h = am_ev 208 16 (some (.ref a) :: ls) (.ref a :: st) h := am_ev_step (q := (16, some (.ref a) :: ls, .ref a :: st, h)) _ (.aload_n 0) 1 am_my_208 (by decide +kernel) rfl
theorem e208_16 {ls : List (Option Value)} {st : List Value} {h : am_H}  {o : Nat} (hw : am_w8 st ≤ 8) (hk : am_kd h o = some (.inl 11)) : am_ev 208 16 ls (.ref o :: st) h = am_bd (am_den 206 [.ref o] h) (fun v h1 => am_ev 208 19 ls (v.toList ++ st) h1) := am_u_cV (idx := 351) (wn := 7010) (as := []) am_my_208 (by decide +kernel) (Or.inl (by decide +kernel)) am_my_206 (by decide +kernel) rfl ⟨Nat.le_of_ble_eq_true rfl, rfl⟩ (by decide +kernel) hw hk
theorem e208_19 {ls : List (Option Value)} {st : List Value} {h : am_H} {p0 : Int32} {o : Nat} (hw : am_w8 st ≤ 8) (hk : am_kd h o = some (.inl 11)) : am_ev 208 19 ls (.int p0 :: .ref o :: st) h = am_bd (am_den 210 [.ref o, .int p0] h) (fun v h1 => am_ev 208 22 ls (v.toList ++ st) h1) := am_u_cV (idx := 376) (wn := 7026) (as := [.int p0]) am_my_208 (by decide +kernel) (Or.inl (by decide +kernel)) am_my_210 (by decide +kernel) rfl ⟨Nat.le_of_ble_eq_true rfl, rfl⟩ (by decide +kernel) hw hk
theorem e208_22 {ls : List (Option Value)} {st : List Value} {h : am_H} : am_ev 208 22 (ls) (st) h = am_ev 208 26 (ls) (st) h := am_ev_step (q := (26, ls, st, h)) _ (.goto (4)) 3 am_my_208 (by decide +kernel) rfl
theorem e208_25 {ls : List (Option Value)} {st : List Value} {h : am_H} : am_ev 208 25 (ls) (st) h = am_ev 208 26 (ls) (.int (-1) :: st) h := am_ev_step (q := (26, ls, .int (-1) :: st, h)) _ (.iconst (-1)) 1 am_my_208 (by decide +kernel) rfl
theorem e208_26 {ls : List (Option Value)} {h : am_H} {v : Int32} : am_ev 208 26 ls [.int v] h = some (some (.int v), h) := am_u_rtI am_my_208 (by decide +kernel) rfl
theorem e113_0 {ls : List (Option Value)} {st : List Value} {h : am_H} {a : Nat} : am_ev 113 0 (some (.ref a) :: ls) (st) h = am_ev 113 1 (some (.ref a) :: ls) (.ref a :: st) h := am_ev_step (q := (1, some (.ref a) :: ls, .ref a :: st, h)) _ (.aload_n 0) 1 am_my_113 (by decide +kernel) rfl
theorem e113_1 {ls : List (Option Value)} {st : List Value} {h : am_H} {l0 : Option Value} {a : Int32} : am_ev 113 1 (l0 :: some (.int a) :: ls) (st) h = am_ev 113 2 (l0 :: some (.int a) :: ls) (.int a :: st) h := am_ev_step (q := (2, l0 :: some (.int a) :: ls, .int a :: st, h)) _ (.iload_n 1) 1 am_my_113 (by decide +kernel) rfl
theorem e113_2 {ls : List (Option Value)} {st : List Value} {h : am_H} {l0 l1 : Option Value} {a : Int32} : am_ev 113 2 (l0 :: l1 :: some (.int a) :: ls) (st) h = am_ev 113 3 (l0 :: l1 :: some (.int a) :: ls) (.int a :: st) h := am_ev_step (q := (3, l0 :: l1 :: some (.int a) :: ls, .int a :: st, h)) _ (.iload_n 2) 1 am_my_113 (by decide +kernel) rfl
theorem e113_3 {ls : List (Option Value)} {st : List Value} {h : am_H} {p0 : Int32} {p1 : Int32} {o : Nat} (hw : am_w8 st ≤ 8) (hk : am_kd h o = some (.inl 10)) : am_ev 113 3 ls (.int p1 :: .int p0 :: .ref o :: st) h = am_bd (am_den 114 [.ref o, .int p0, .int p1] h) (fun v h1 => am_ev 113 6 ls (v.toList ++ st) h1) := am_u_cV (idx := 238) (wn := 4155) (as := [.int p0, .int p1]) am_my_113 (by decide +kernel) (Or.inl (by decide +kernel)) am_my_114 (by decide +kernel) rfl ⟨Nat.le_of_ble_eq_true rfl, rfl⟩ (by decide +kernel) hw hk
theorem e113_6 {ls : List (Option Value)} {st : List Value} {h : am_H} {a : Int32} : am_ev 113 6 ls (.int a :: st) h = if ¬ a = 0 then am_ev 113 11 ls st h else am_ev 113 9 ls st h := am_u_if1 (c := .ne) (off := 5) am_my_113 (by decide +kernel) (by decide)
theorem e113_9 {ls : List (Option Value)} {st : List Value} {h : am_H} : am_ev 113 9 (ls) (st) h = am_ev 113 10 (ls) (.int (-1) :: st) h := am_ev_step (q := (10, ls, .int (-1) :: st, h)) _ (.iconst (-1)) 1 am_my_113 (by decide +kernel) rfl
theorem e113_10 {ls : List (Option Value)} {h : am_H} {v : Int32} : am_ev 113 10 ls [.int v] h = some (some (.int v), h) := am_u_rtI am_my_113 (by decide +kernel) rfl
theorem e113_11 {ls : List (Option Value)} {st : List Value} {h : am_H} {a : Nat} : am_ev 113 11 (some (.ref a) :: ls) (st) h = am_ev 113 12 (some (.ref a) :: ls) (.ref a :: st) h := am_ev_step (q := (12, some (.ref a) :: ls, .ref a :: st, h)) _ (.aload_n 0) 1 am_my_113 (by decide +kernel) rfl
theorem e113_12 {ls : List (Option Value)} {st : List Value} {h : am_H} {o : Nat} (hk : am_kd h o = some (.inl 10)) : am_ev 113 12 ls (.ref o :: st) h = am_ev 113 15 ls (va_rf (h.2.2.1 o 4) :: st) h := am_u_gfR (idx := 34) (wn := 2150) (a := 0) am_my_113 (by decide +kernel) (by decide +kernel) (by decide +kernel) hk
theorem e113_15 {ls : List (Option Value)} {st : List Value} {h : am_H} {a : Nat} : am_ev 113 15 (some (.ref a) :: ls) (st) h = am_ev 113 16 (some (.ref a) :: ls) (.ref a :: st) h := am_ev_step (q := (16, some (.ref a) :: ls, .ref a :: st, h)) _ (.aload_n 0) 1 am_my_113 (by decide +kernel) rfl
theorem e113_16 {ls : List (Option Value)} {st : List Value} {h : am_H} {o : Nat} (hk : am_kd h o = some (.inl 10)) : am_ev 113 16 ls (.ref o :: st) h = am_ev 113 19 ls (va_rf (h.2.2.1 o 0) :: st) h := am_u_gfR (idx := 10) (wn := 2146) (a := 0) am_my_113 (by decide +kernel) (by decide +kernel) (by decide +kernel) hk
theorem e113_19 {ls : List (Option Value)} {st : List Value} {h : am_H} {o : Nat} (hk : am_kd h o = some (.inl 8)) : am_ev 113 19 ls (.ref o :: st) h = am_ev 113 22 ls (va_rf (h.2.2.1 o 5) :: st) h := am_u_gfR (idx := 116) (wn := 1191) (a := 0) am_my_113 (by decide +kernel) (by decide +kernel) (by decide +kernel) hk
theorem e113_22 {ls : List (Option Value)} {st : List Value} {h : am_H} {l0 : Option Value} {a : Int32} : am_ev 113 22 (l0 :: some (.int a) :: ls) (st) h = am_ev 113 23 (l0 :: some (.int a) :: ls) (.int a :: st) h := am_ev_step (q := (23, l0 :: some (.int a) :: ls, .int a :: st, h)) _ (.iload_n 1) 1 am_my_113 (by decide +kernel) rfl
theorem e113_23f {ls : List (Option Value)} {st : List Value} {h : am_H} {i : Int32} {a : Nat} (ht : am_tc h a = some 4) : am_ev 113 23 ls (.int i :: .ref a :: st) h = if am_ix i (am_len h a) = true then am_ev 113 24 ls (va_rf (h.2.2.1 a i.toNatClampNeg) :: st) h else none := am_u_rA am_my_113 (by decide +kernel) ht (by decide)
theorem e113_23d {ls : List (Option Value)} {st : List Value} {h : am_H} {i : Int32} {a : Nat} (ht : am_tc h a = some 5) : am_ev 113 23 ls (.int i :: .ref a :: st) h = if am_ix i (am_len h a) = true then am_ev 113 24 ls (va_rf (h.2.2.1 a i.toNatClampNeg) :: st) h else none := am_u_rA am_my_113 (by decide +kernel) ht (by decide)
theorem e113_23b {ls : List (Option Value)} {st : List Value} {h : am_H} {i : Int32} {a : Nat} (ht : am_tc h a = some 6) : am_ev 113 23 ls (.int i :: .ref a :: st) h = if am_ix i (am_len h a) = true then am_ev 113 24 ls (va_rf (h.2.2.1 a i.toNatClampNeg) :: st) h else none := am_u_rA am_my_113 (by decide +kernel) ht (by decide)
theorem e113_23l {ls : List (Option Value)} {st : List Value} {h : am_H} {i : Int32} {a : Nat} (ht : am_tc h a = some 7) : am_ev 113 23 ls (.int i :: .ref a :: st) h = if am_ix i (am_len h a) = true then am_ev 113 24 ls (va_rf (h.2.2.1 a i.toNatClampNeg) :: st) h else none := am_u_rA am_my_113 (by decide +kernel) ht (by decide)
theorem e113_23t {ls : List (Option Value)} {st : List Value} {h : am_H} {i : Int32} {a : Nat} (ht : am_tc h a = some 8) : am_ev 113 23 ls (.int i :: .ref a :: st) h = if am_ix i (am_len h a) = true then am_ev 113 24 ls (va_rf (h.2.2.1 a i.toNatClampNeg) :: st) h else none := am_u_rA am_my_113 (by decide +kernel) ht (by decide)
theorem e113_24 {ls : List (Option Value)} {st : List Value} {h : am_H} {p0 : Nat} {o : Nat} (hw : am_w8 st ≤ 8) (hk : am_kd h o = some (.inl 4)) : am_ev 113 24 ls (.ref p0 :: .ref o :: st) h = am_bd (am_den 72 [.ref o, .ref p0] h) (fun v h1 => am_ev 113 27 ls (v.toList ++ st) h1) := am_u_cV (idx := 130) (wn := 3210) (as := [.ref p0]) am_my_113 (by decide +kernel) (Or.inl (by decide +kernel)) am_my_72 (by decide +kernel) rfl ⟨Nat.le_of_ble_eq_true rfl, rfl⟩ (by decide +kernel) hw hk
theorem e113_27 {ls : List (Option Value)} {st : List Value} {h : am_H} {a : Nat} : am_ev 113 27 (some (.ref a) :: ls) (st) h = am_ev 113 28 (some (.ref a) :: ls) (.ref a :: st) h := am_ev_step (q := (28, some (.ref a) :: ls, .ref a :: st, h)) _ (.aload_n 0) 1 am_my_113 (by decide +kernel) rfl
theorem e113_28 {ls : List (Option Value)} {st : List Value} {h : am_H} {o : Nat} (hk : am_kd h o = some (.inl 10)) : am_ev 113 28 ls (.ref o :: st) h = am_ev 113 31 ls (va_rf (h.2.2.1 o 4) :: st) h := am_u_gfR (idx := 34) (wn := 2150) (a := 0) am_my_113 (by decide +kernel) (by decide +kernel) (by decide +kernel) hk
theorem e113_31 {ls : List (Option Value)} {st : List Value} {h : am_H} {a : Nat} : am_ev 113 31 (some (.ref a) :: ls) (st) h = am_ev 113 32 (some (.ref a) :: ls) (.ref a :: st) h := am_ev_step (q := (32, some (.ref a) :: ls, .ref a :: st, h)) _ (.aload_n 0) 1 am_my_113 (by decide +kernel) rfl
theorem e113_32 {ls : List (Option Value)} {st : List Value} {h : am_H} {o : Nat} (hk : am_kd h o = some (.inl 10)) : am_ev 113 32 ls (.ref o :: st) h = am_ev 113 35 ls (va_rf (h.2.2.1 o 0) :: st) h := am_u_gfR (idx := 10) (wn := 2146) (a := 0) am_my_113 (by decide +kernel) (by decide +kernel) (by decide +kernel) hk
theorem e113_35 {ls : List (Option Value)} {st : List Value} {h : am_H} {o : Nat} (hk : am_kd h o = some (.inl 8)) : am_ev 113 35 ls (.ref o :: st) h = am_ev 113 38 ls (va_rf (h.2.2.1 o 6) :: st) h := am_u_gfR (idx := 230) (wn := 1193) (a := 0) am_my_113 (by decide +kernel) (by decide +kernel) (by decide +kernel) hk
theorem e113_38 {ls : List (Option Value)} {st : List Value} {h : am_H} {l0 l1 : Option Value} {a : Int32} : am_ev 113 38 (l0 :: l1 :: some (.int a) :: ls) (st) h = am_ev 113 39 (l0 :: l1 :: some (.int a) :: ls) (.int a :: st) h := am_ev_step (q := (39, l0 :: l1 :: some (.int a) :: ls, .int a :: st, h)) _ (.iload_n 2) 1 am_my_113 (by decide +kernel) rfl
theorem e113_39f {ls : List (Option Value)} {st : List Value} {h : am_H} {i : Int32} {a : Nat} (ht : am_tc h a = some 4) : am_ev 113 39 ls (.int i :: .ref a :: st) h = if am_ix i (am_len h a) = true then am_ev 113 40 ls (va_rf (h.2.2.1 a i.toNatClampNeg) :: st) h else none := am_u_rA am_my_113 (by decide +kernel) ht (by decide)
theorem e113_39d {ls : List (Option Value)} {st : List Value} {h : am_H} {i : Int32} {a : Nat} (ht : am_tc h a = some 5) : am_ev 113 39 ls (.int i :: .ref a :: st) h = if am_ix i (am_len h a) = true then am_ev 113 40 ls (va_rf (h.2.2.1 a i.toNatClampNeg) :: st) h else none := am_u_rA am_my_113 (by decide +kernel) ht (by decide)
theorem e113_39b {ls : List (Option Value)} {st : List Value} {h : am_H} {i : Int32} {a : Nat} (ht : am_tc h a = some 6) : am_ev 113 39 ls (.int i :: .ref a :: st) h = if am_ix i (am_len h a) = true then am_ev 113 40 ls (va_rf (h.2.2.1 a i.toNatClampNeg) :: st) h else none := am_u_rA am_my_113 (by decide +kernel) ht (by decide)
theorem e113_39l {ls : List (Option Value)} {st : List Value} {h : am_H} {i : Int32} {a : Nat} (ht : am_tc h a = some 7) : am_ev 113 39 ls (.int i :: .ref a :: st) h = if am_ix i (am_len h a) = true then am_ev 113 40 ls (va_rf (h.2.2.1 a i.toNatClampNeg) :: st) h else none := am_u_rA am_my_113 (by decide +kernel) ht (by decide)
theorem e113_39t {ls : List (Option Value)} {st : List Value} {h : am_H} {i : Int32} {a : Nat} (ht : am_tc h a = some 8) : am_ev 113 39 ls (.int i :: .ref a :: st) h = if am_ix i (am_len h a) = true then am_ev 113 40 ls (va_rf (h.2.2.1 a i.toNatClampNeg) :: st) h else none := am_u_rA am_my_113 (by decide +kernel) ht (by decide)
theorem e113_40 {ls : List (Option Value)} {st : List Value} {h : am_H} : am_ev 113 40 (ls) (st) h = am_ev 113 42 (ls) (.int (40) :: st) h := am_ev_step (q := (42, ls, .int (40) :: st, h)) _ (.bipush (40)) 2 am_my_113 (by decide +kernel) rfl
theorem e113_42 {ls : List (Option Value)} {st : List Value} {h : am_H} {p0 : Nat} {p1 : Int32} {o : Nat} (hw : am_w8 st ≤ 8) (hk : am_kd h o = some (.inl 4)) : am_ev 113 42 ls (.int p1 :: .ref p0 :: .ref o :: st) h = am_bd (am_den 115 [.ref o, .ref p0, .int p1] h) (fun v h1 => am_ev 113 45 ls (v.toList ++ st) h1) := am_u_cV (idx := 241) (wn := 4159) (as := [.ref p0, .int p1]) am_my_113 (by decide +kernel) (Or.inl (by decide +kernel)) am_my_115 (by decide +kernel) rfl ⟨Nat.le_of_ble_eq_true rfl, rfl⟩ (by decide +kernel) hw hk
theorem e113_45 {ls : List (Option Value)} {h : am_H} {v : Int32} : am_ev 113 45 ls [.int v] h = some (some (.int v), h) := am_u_rtI am_my_113 (by decide +kernel) rfl
/-- whistles one behind the other, till one can't be -/
def G_fol (f : q_Fl) (w : Nat → Nat) : Nat → Nat → q_G → Nat × q_G
  | 0, i, g => (i, g)
  | r + 1, i, g => match G_ob f g (w i) with
    | none => (i, g)
    | some g' => G_fol f w r (i + 1) g'
theorem G_fol_le (f : q_Fl) (w : Nat → Nat) : ∀ r i g, i ≤ (G_fol f w r i g).1 ∧ (G_fol f w r i g).1 ≤ i + r := by
  intro r
  induction r with
  | zero => intro i g; exact ⟨Nat.le_refl _, Nat.le_refl _⟩
  | succ r ih =>
    intro i g
    rw [G_fol]
    cases G_ob f g (w i) with
    | none => exact ⟨Nat.le_refl _, by show i ≤ _; omega⟩
    | some g' =>
      have := ih (i + 1) g'
      show i ≤ (G_fol f w r (i + 1) g').1 ∧ (G_fol f w r (i + 1) g').1 ≤ i + (r + 1)
      omega
theorem G_fol_in {f : q_Fl} (wf : F_wf f) (w : Nat → Nat) : ∀ r i g, G_in f g → G_in f (G_fol f w r i g).2 := by
  intro r
  induction r with
  | zero => intro i g h; exact h
  | succ r ih =>
    intro i g h
    rw [G_fol]
    cases hg : G_ob f g (w i) with
    | none => exact h
    | some g' => exact ih (i + 1) g' (G_ob_in wf h hg)
theorem G_fol_pi {f : q_Fl} (wf : F_wf f) (w : Nat → Nat) : ∀ r i g, G_in f g → G_pi f g → G_pi f (G_fol f w r i g).2 := by
  intro r
  induction r with
  | zero => intro i g _ h; exact h
  | succ r ih =>
    intro i g h1 h
    rw [G_fol]
    cases hg : G_ob f g (w i) with
    | none => exact h
    | some g' => exact ih (i + 1) g' (G_ob_in wf h1 hg) (G_ob_pi wf h1 h hg)
/-- a drive in the class's cells -/
def q_cD (h : am_H) (o : Nat) (d : q_Dr) : Prop := q_do h o ∧ h.1 o 0 = nI d.1 ∧ ∀ k, k < d.1 → h.1 (o + 1) k = nI (d.2 k)
theorem q_fb.cD {q : Nat} {h h' : am_H} (f : q_fb q h h') {o : Nat} {d : q_Dr} (c : q_cD h o d) (dj : o + 1 < q ∨ q + 5 < o) : q_cD h' o d := by
  obtain ⟨⟨c1, c2, c3⟩, c4, c5⟩ := c
  have kd : ∀ a, am_kd h' a = am_kd h a := fun a => by unfold am_kd; rw [f.2.1]
  exact ⟨⟨by rw [kd]; exact c1, by rw [f.2.2.1 _ _ (by omega)]; exact c2, by rw [kd]; exact c3⟩, by rw [f.2.2.2 _ _ (by omega) (by omega) (by omega)]; exact c4, fun k hk => by rw [f.2.2.2 _ _ (by omega) (by omega) (by omega)]; exact c5 k hk⟩
theorem q_fol_c (q o p : Nat) (f : q_Fl) (wf : F_wf f) (d : q_Dr) (dk : D_ok d) (dj : p + 1 < q ∨ q + 5 < p) (n : Nat) (hn : n < 2 ^ 31) (fin : Int32) (hfin : (if (0 : Int32) < (if nI d.1 < nI n then nI d.1 else nI n) then (if nI d.1 < nI n then nI d.1 else nI n) else 0) = fin) : ∀ (r i : Nat) (g : q_G) (h : am_H), i + r = min n d.1 → q_cg h q o f g → G_in f g → q_cD h p d → ∃ h' : am_H, q_ff q h h' ∧ q_cg h' q o f (G_fol f d.2 r i g).2 ∧ am_ev 115 2 [some (.ref q), some (.ref p), some (.int (nI n)), some (.int (nI i))] [] h = some (some (.int (if (G_fol f d.2 r i g).1 = min n d.1 then fin else nI (G_fol f d.2 r i g).1)), h') := by
  have d40 := dk.1
  intro r
  induction r with
  | zero =>
    intro i g h hi cg gi cd
    obtain ⟨⟨c1, c2, c3⟩, c4, c5⟩ := cd
    refine ⟨h, q_ff.rf q h, cg, ?_⟩
    have e : (G_fol f d.2 0 i g).1 = min n d.1 := by show i = _; omega
    rw [if_pos e, e115_2]
    by_cases m : n ≤ i
    · have h1 : nI n ≤ nI i := nI_le m (by omega)
      simp only [e115_0, e115_1, e115_3, e115_4, e115_7, e115_8, e115_9, e115_12, e115_15, e115_16, e115_17, e115_20, e115_21, e115_22, e115_25, e115_28, e115_29, e115_30, e115_33, e115_36, e115_37, e115_38, e115_39, e115_42, e115_45, e115_48, am_bd_some, Option.toList_some, Option.toList_none, List.cons_append, List.nil_append, am_w8_0, am_w8_1, am_w8_2, am_w8_3, am_w8_4, eq_self, or_true, true_or, am_kd_sI, am_kd_sL, am_kd_sR, am_tc_sI, am_tc_sL, am_tc_sR, am_len_sI, am_len_sL, am_len_sR, am_rfs, if_true, if_false, am_rdL_sI, am_rR_sL, am_rt_cq, am_kd_cq, am_tc_cq, am_len_cq, am_rd_sL, am_rd_sR, am_rdL_sR, h1, c1, c4, hfin]
    · have h1 : ¬ nI n ≤ nI i := nI_ge (by omega) (by omega)
      have h2 : nI d.1 ≤ nI i := nI_le (by omega) (by omega)
      simp only [e115_0, e115_1, e115_3, e115_4, e115_7, e115_8, e115_9, e115_12, e115_15, e115_16, e115_17, e115_20, e115_21, e115_22, e115_25, e115_28, e115_29, e115_30, e115_33, e115_36, e115_37, e115_38, e115_39, e115_42, e115_45, e115_48, am_bd_some, Option.toList_some, Option.toList_none, List.cons_append, List.nil_append, am_w8_0, am_w8_1, am_w8_2, am_w8_3, am_w8_4, eq_self, or_true, true_or, am_kd_sI, am_kd_sL, am_kd_sR, am_tc_sI, am_tc_sL, am_tc_sR, am_len_sI, am_len_sL, am_len_sR, am_rfs, if_true, if_false, am_rdL_sI, am_rR_sL, am_rt_cq, am_kd_cq, am_tc_cq, am_len_cq, am_rd_sL, am_rd_sR, am_rdL_sR, h1, h2, c1, c4, hfin]
  | succ r ih =>
    intro i g h hi cg gi cd
    have cd0 := cd
    obtain ⟨⟨c1, c2, c3⟩, c4, c5⟩ := cd
    have h1 : ¬ nI n ≤ nI i := nI_ge (by omega) (by omega)
    have h2 : ¬ nI d.1 ≤ nI i := nI_ge (by omega) (by omega)
    have x : am_ix (nI i) 40 = true := am_ix_nI (by omega) (by decide)
    have z : (nI i).toNatClampNeg = i := nI_clamp (by omega)
    have v := c5 i (by omega)
    have k := cg.1.1
    obtain ⟨b1, b2⟩ := den_obeys h q o f g cg wf gi (d.2 i) (dk.2 i (by omega))
    rw [e115_2, G_fol]
    cases hg : G_ob f g (d.2 i) with
    | none =>
      refine ⟨h, q_ff.rf q h, cg, ?_⟩
      have ne : ¬ i = min n d.1 := by omega
      show _ = some (some (Value.int (if i = min n d.1 then fin else nI i)), h)
      rw [if_neg ne]
      simp only [e115_0, e115_1, e115_3, e115_4, e115_7, e115_8, e115_9, e115_12, e115_15, e115_16, e115_17, e115_20, e115_21, e115_22, e115_25, e115_28, e115_29, e115_30, e115_33, e115_36, e115_37, e115_38, e115_39, e115_42, e115_45, e115_48, am_bd_some, Option.toList_some, Option.toList_none, List.cons_append, List.nil_append, am_w8_0, am_w8_1, am_w8_2, am_w8_3, am_w8_4, eq_self, or_true, true_or, am_kd_sI, am_kd_sL, am_kd_sR, am_tc_sI, am_tc_sL, am_tc_sR, am_len_sI, am_len_sL, am_len_sR, am_rfs, if_true, if_false, am_rdL_sI, am_rR_sL, am_rt_cq, am_kd_cq, am_tc_cq, am_len_cq, am_rd_sL, am_rd_sR, am_rdL_sR, h1, h2, c1, c2, q_tc c3, q_ln c3, c4, x, z, v, k.1, b1 hg, not_true]
    | some g' =>
      obtain ⟨h', f1, g1, s1⟩ := b2 g' hg
      obtain ⟨h'', f2, g2, s2⟩ := ih (i + 1) g' h' (by omega) g1 (G_ob_in wf gi hg) (f1.fb.cD cd0 dj)
      refine ⟨h'', f1.tr f2, g2, ?_⟩
      have y : ¬ (1 : Int32) = 0 := by decide
      simp only [e115_0, e115_1, e115_3, e115_4, e115_7, e115_8, e115_9, e115_12, e115_15, e115_16, e115_17, e115_20, e115_21, e115_22, e115_25, e115_28, e115_29, e115_30, e115_33, e115_36, e115_37, e115_38, e115_39, e115_42, e115_45, e115_48, am_bd_some, Option.toList_some, Option.toList_none, List.cons_append, List.nil_append, am_w8_0, am_w8_1, am_w8_2, am_w8_3, am_w8_4, eq_self, or_true, true_or, am_kd_sI, am_kd_sL, am_kd_sR, am_tc_sI, am_tc_sL, am_tc_sR, am_len_sI, am_len_sL, am_len_sR, am_rfs, if_true, if_false, am_rdL_sI, am_rR_sL, am_rt_cq, am_kd_cq, am_tc_cq, am_len_cq, am_rd_sL, am_rd_sR, am_rdL_sR, h1, h2, c1, c2, q_tc c3, q_ln c3, c4, x, z, v, k.1, s1, y, not_false_eq_true, nI_1]
      exact s2
theorem q_fin {n m : Nat} (hn : n < 2 ^ 31) (hm : m < 2 ^ 31) : (if (0 : Int32) < (if nI m < nI n then nI m else nI n) then (if nI m < nI n then nI m else nI n) else 0) = nI (min n m) := by
  have e := q_imin (a := n) (b := m) hn hm
  rw [e, q_mx0 (by omega)]
theorem den_follows (q o p : Nat) (f : q_Fl) (wf : F_wf f) (d : q_Dr) (dk : D_ok d) (dj : p + 1 < q ∨ q + 5 < p) (n : Nat) (hn : n < 2 ^ 31) (g : q_G) (h : am_H) (cg : q_cg h q o f g) (gi : G_in f g) (cd : q_cD h p d) : ∃ h' : am_H, q_ff q h h' ∧ q_cg h' q o f (G_fol f d.2 (min n d.1) 0 g).2 ∧ am_den 115 [.ref q, .ref p, .int (nI n)] h = some (some (.int (nI (G_fol f d.2 (min n d.1) 0 g).1)), h') := by
  have d40 := dk.1
  obtain ⟨h', f1, g1, s1⟩ := q_fol_c q o p f wf d dk dj n hn _ (q_fin hn (by omega)) (min n d.1) 0 g h (by omega) cg gi cd
  refine ⟨h', f1, g1, ?_⟩
  have e : (if (G_fol f d.2 (min n d.1) 0 g).1 = min n d.1 then nI (min n d.1) else nI (G_fol f d.2 (min n d.1) 0 g).1) = nI (G_fol f d.2 (min n d.1) 0 g).1 := by
    by_cases c : (G_fol f d.2 (min n d.1) 0 g).1 = min n d.1
    · rw [if_pos c, c]
    · rw [if_neg c]
  rw [e, nI_0] at s1
  show am_ev 115 0 [some (.ref q), some (.ref p), some (.int (nI n)), none] [] h = _
  simp only [e115_0, e115_1, e115_3, e115_4, e115_7, e115_8, e115_9, e115_12, e115_15, e115_16, e115_17, e115_20, e115_21, e115_22, e115_25, e115_28, e115_29, e115_30, e115_33, e115_36, e115_37, e115_38, e115_39, e115_42, e115_45, e115_48, am_bd_some, Option.toList_some, Option.toList_none, List.cons_append, List.nil_append, am_w8_0, am_w8_1, am_w8_2, am_w8_3, am_w8_4, eq_self, or_true, true_or, am_kd_sI, am_kd_sL, am_kd_sR, am_tc_sI, am_tc_sL, am_tc_sR, am_len_sI, am_len_sL, am_len_sR, am_rfs, if_true, if_false, am_rdL_sI, am_rR_sL, am_rt_cq, am_kd_cq, am_tc_cq, am_len_cq, am_rd_sL, am_rd_sR, am_rdL_sR]
  exact s1
/-- with fewer than 0 whistles nothing goes -/
theorem den_follows0 (q p : Nat) (d : q_Dr) (dk : D_ok d) (n : Int32) (hn : n < 0) (h : am_H) (cd : q_cD h p d) : am_den 115 [.ref q, .ref p, .int n] h = some (some (.int 0), h) := by
  obtain ⟨⟨c1, c2, c3⟩, c4, c5⟩ := cd
  have d40 := dk.1
  have h1 : n ≤ 0 := Int32.le_of_lt hn
  have p0 : (0 : Int32) ≤ nI d.1 := nI_pos' (by omega)
  have h2 : ¬ nI d.1 < n := fun w => absurd (Int32.lt_of_le_of_lt p0 w) (Int32.not_lt.mpr h1)
  have h3 : ¬ (0 : Int32) < n := Int32.not_lt.mpr h1
  show am_ev 115 0 [some (.ref q), some (.ref p), some (.int n), none] [] h = _
  simp only [e115_0, e115_1, e115_2, e115_3, e115_4, e115_7, e115_8, e115_9, e115_12, e115_15, e115_16, e115_17, e115_20, e115_21, e115_22, e115_25, e115_28, e115_29, e115_30, e115_33, e115_36, e115_37, e115_38, e115_39, e115_42, e115_45, e115_48, am_bd_some, Option.toList_some, Option.toList_none, List.cons_append, List.nil_append, am_w8_0, am_w8_1, am_w8_2, am_w8_3, am_w8_4, eq_self, or_true, true_or, am_kd_sI, am_kd_sL, am_kd_sR, am_tc_sI, am_tc_sL, am_tc_sR, am_len_sI, am_len_sL, am_len_sR, am_rfs, if_true, if_false, am_rdL_sI, am_rR_sL, am_rt_cq, am_kd_cq, am_tc_cq, am_len_cq, am_rd_sL, am_rd_sR, am_rdL_sR, h1, c1, c4, h2, h3]
/-- a drive in the reference's cells: which one, and its rows -/
def q_mD (h : am_H) (i : Nat) (d : q_Dr) : Prop := i < 2 ∧ h.1 211 39 = nI i ∧ h.1 218 (81 * i) = nI d.1 ∧ ∀ k, k < d.1 → h.1 218 (81 * i + 1 + 2 * k) = q_what (d.2 k) ∧ h.1 218 (81 * i + 2 + 2 * k) = q_wway (d.2 k)
theorem q_hw.mD {h h' : am_H} (w : q_hw h h') {i : Nat} {d : q_Dr} (m : q_mD h i d) : q_mD h' i d := ⟨m.1, by rw [w.2 _ _ (by decide) (by decide)]; exact m.2.1, by rw [w.2 _ _ (by decide) (by omega)]; exact m.2.2.1, fun k hk => ⟨by rw [w.2 _ _ (by decide) (by omega)]; exact (m.2.2.2 k hk).1, by rw [w.2 _ _ (by decide) (by omega)]; exact (m.2.2.2 k hk).2⟩⟩
theorem den_whistleOf (h : am_H) (ok : am_okH h) (i : Nat) (d : q_Dr) (dk : D_ok d) (m : q_mD h i d) (k : Nat) (hk : k < d.1) : am_den 207 [.ref 211, .int (nI k), .int 0] h = some (some (.int (q_what (d.2 k))), h) ∧ am_den 207 [.ref 211, .int (nI k), .int 1] h = some (some (.int (q_wway (d.2 k))), h) := by
  obtain ⟨hi, e39, e0, er⟩ := m
  have d40 := dk.1
  obtain ⟨g1, g2⟩ := er k hk
  have m1 : (81 : Int32) * nI i = nI (81 * i) := pk_mul 81 i
  have m2 : (2 : Int32) * nI k = nI (2 * k) := pk_mul 2 k
  have a0 : nI (81 * i + 1 + 2 * k) + 0 = nI (81 * i + 1 + 2 * k) := by rw [← nI_0, nI_add]; rfl
  have a1 : nI (81 * i + 1 + 2 * k) + 1 = nI (81 * i + 2 + 2 * k) := by rw [nI_1]; congr 1; omega
  have x1 : am_ix (nI (81 * i + 1 + 2 * k)) 648 = true := am_ix_nI (by omega) (by decide)
  have z1 : (nI (81 * i + 1 + 2 * k)).toNatClampNeg = 81 * i + 1 + 2 * k := nI_clamp (by omega)
  have x2 : am_ix (nI (81 * i + 2 + 2 * k)) 648 = true := am_ix_nI (by omega) (by decide)
  have z2 : (nI (81 * i + 2 + 2 * k)).toNatClampNeg = 81 * i + 2 + 2 * k := nI_clamp (by omega)
  have s1 : nI (81 * i) + 1 = nI (81 * i + 1) := nI_1 _
  constructor
  · show am_ev 207 0 [some (.ref 211), some (.int (nI k)), some (.int 0)] [] h = _
    simp only [e207_0, e207_1, e207_4, e207_6, e207_7, e207_10, e207_11, e207_12, e207_13, e207_14, e207_15, e207_16, e207_17, e207_18, e207_19, e207_20, am_bd_some, Option.toList_some, Option.toList_none, List.cons_append, List.nil_append, am_w8_0, am_w8_1, am_w8_2, am_w8_3, am_w8_4, eq_self, or_true, true_or, am_kd_sI, am_kd_sL, am_kd_sR, am_tc_sI, am_tc_sL, am_tc_sR, am_len_sI, am_len_sL, am_len_sR, am_rfs, if_true, if_false, am_rdL_sI, am_rR_sL, am_rt_cq, am_kd_cq, am_tc_cq, am_len_cq, am_rd_sL, am_rd_sR, am_rdL_sR, okK_211 ok, okR_211_7 ok, okT_218 ok, okL_218 ok, e39, m1, m2, s1, nI_add, a0, x1, z1, g1]
  · show am_ev 207 0 [some (.ref 211), some (.int (nI k)), some (.int 1)] [] h = _
    simp only [e207_0, e207_1, e207_4, e207_6, e207_7, e207_10, e207_11, e207_12, e207_13, e207_14, e207_15, e207_16, e207_17, e207_18, e207_19, e207_20, am_bd_some, Option.toList_some, Option.toList_none, List.cons_append, List.nil_append, am_w8_0, am_w8_1, am_w8_2, am_w8_3, am_w8_4, eq_self, or_true, true_or, am_kd_sI, am_kd_sL, am_kd_sR, am_tc_sI, am_tc_sL, am_tc_sR, am_len_sI, am_len_sL, am_len_sR, am_rfs, if_true, if_false, am_rdL_sI, am_rR_sL, am_rt_cq, am_kd_cq, am_tc_cq, am_len_cq, am_rd_sL, am_rd_sR, am_rdL_sR, okK_211 ok, okR_211_7 ok, okT_218 ok, okL_218 ok, e39, m1, m2, s1, nI_add, a1, x2, z2, g2]
theorem q_play_l (f : q_Fl) (wf : F_wf f) (i0 : Nat) (d : q_Dr) (dk : D_ok d) (n : Nat) (hn : n ≤ d.1) : ∀ (r i : Nat) (g : q_G) (h : am_H), i + r = n → q_mg h f g → G_in f g → G_pi f g → q_mD h i0 d → ∃ h' : am_H, q_mw h h' ∧ q_mg h' f (G_fol f d.2 r i g).2 ∧ am_ev 210 2 [some (.ref 211), some (.int (nI n)), some (.int (nI i))] [] h = some (some (.int (nI (G_fol f d.2 r i g).1)), h') := by
  have d40 := dk.1
  intro r
  induction r with
  | zero =>
    intro i g h hi mg gi gp md
    have h1 : nI n ≤ nI i := nI_le (by omega) (by omega)
    refine ⟨h, q_mw.rf h, mg, ?_⟩
    rw [e210_2]
    simp only [e210_0, e210_1, e210_3, e210_4, e210_7, e210_8, e210_9, e210_10, e210_11, e210_14, e210_15, e210_16, e210_17, e210_20, e210_23, e210_26, e210_29, e210_32, e210_33, am_bd_some, Option.toList_some, Option.toList_none, List.cons_append, List.nil_append, am_w8_0, am_w8_1, am_w8_2, am_w8_3, am_w8_4, eq_self, or_true, true_or, am_kd_sI, am_kd_sL, am_kd_sR, am_tc_sI, am_tc_sL, am_tc_sR, am_len_sI, am_len_sL, am_len_sR, am_rfs, if_true, if_false, am_rdL_sI, am_rR_sL, am_rt_cq, am_kd_cq, am_tc_cq, am_len_cq, am_rd_sL, am_rd_sR, am_rdL_sR, h1, G_fol]
  | succ r ih =>
    intro i g h hi mg gi gp md
    have ok := mg.1.1
    have h1 : ¬ nI n ≤ nI i := nI_ge (by omega) (by omega)
    obtain ⟨w1, w2⟩ := den_whistleOf h ok i0 d dk md i (by omega)
    obtain ⟨b1, b2⟩ := den_does h f g mg wf gi gp (d.2 i) (dk.2 i (by omega))
    rw [e210_2, G_fol]
    cases hg : G_ob f g (d.2 i) with
    | none =>
      refine ⟨h, q_mw.rf h, mg, ?_⟩
      simp only [e210_0, e210_1, e210_3, e210_4, e210_7, e210_8, e210_9, e210_10, e210_11, e210_14, e210_15, e210_16, e210_17, e210_20, e210_23, e210_26, e210_29, e210_32, e210_33, am_bd_some, Option.toList_some, Option.toList_none, List.cons_append, List.nil_append, am_w8_0, am_w8_1, am_w8_2, am_w8_3, am_w8_4, eq_self, or_true, true_or, am_kd_sI, am_kd_sL, am_kd_sR, am_tc_sI, am_tc_sL, am_tc_sR, am_len_sI, am_len_sL, am_len_sR, am_rfs, if_true, if_false, am_rdL_sI, am_rR_sL, am_rt_cq, am_kd_cq, am_tc_cq, am_len_cq, am_rd_sL, am_rd_sR, am_rdL_sR, h1, okK_211 ok, w1, w2, b1 hg]
    | some g' =>
      obtain ⟨h', f1, g1, s1⟩ := b2 g' hg
      obtain ⟨h'', f2, g2, s2⟩ := ih (i + 1) g' h' (by omega) g1 (G_ob_in wf gi hg) (G_ob_pi wf gi gp hg) (f1.hw.mD md)
      refine ⟨h'', f1.tr f2, g2, ?_⟩
      have y : ¬ (1 : Int32) = 0 := by decide
      simp only [e210_0, e210_1, e210_3, e210_4, e210_7, e210_8, e210_9, e210_10, e210_11, e210_14, e210_15, e210_16, e210_17, e210_20, e210_23, e210_26, e210_29, e210_32, e210_33, am_bd_some, Option.toList_some, Option.toList_none, List.cons_append, List.nil_append, am_w8_0, am_w8_1, am_w8_2, am_w8_3, am_w8_4, eq_self, or_true, true_or, am_kd_sI, am_kd_sL, am_kd_sR, am_tc_sI, am_tc_sL, am_tc_sR, am_len_sI, am_len_sL, am_len_sR, am_rfs, if_true, if_false, am_rdL_sI, am_rR_sL, am_rt_cq, am_kd_cq, am_tc_cq, am_len_cq, am_rd_sL, am_rd_sR, am_rdL_sR, h1, okK_211 ok, w1, w2, s1, y, nI_1]
      exact s2
theorem den_play (f : q_Fl) (wf : F_wf f) (i0 : Nat) (d : q_Dr) (dk : D_ok d) (n : Nat) (hn : n ≤ d.1) (g : q_G) (h : am_H) (mg : q_mg h f g) (gi : G_in f g) (gp : G_pi f g) (md : q_mD h i0 d) : ∃ h' : am_H, q_mw h h' ∧ q_mg h' f (G_fol f d.2 n 0 g).2 ∧ am_den 210 [.ref 211, .int (nI n)] h = some (some (.int (nI (G_fol f d.2 n 0 g).1)), h') := by
  obtain ⟨h', f1, g1, s1⟩ := q_play_l f wf i0 d dk n hn n 0 g h (by omega) mg gi gp md
  refine ⟨h', f1, g1, ?_⟩
  rw [nI_0] at s1
  show am_ev 210 0 [some (.ref 211), some (.int (nI n)), none] [] h = _
  simp only [e210_0, e210_1, e210_3, e210_4, e210_7, e210_8, e210_9, e210_10, e210_11, e210_14, e210_15, e210_16, e210_17, e210_20, e210_23, e210_26, e210_29, e210_32, e210_33, am_bd_some, Option.toList_some, Option.toList_none, List.cons_append, List.nil_append, am_w8_0, am_w8_1, am_w8_2, am_w8_3, am_w8_4, eq_self, or_true, true_or, am_kd_sI, am_kd_sL, am_kd_sR, am_tc_sI, am_tc_sL, am_tc_sR, am_len_sI, am_len_sL, am_len_sR, am_rfs, if_true, if_false, am_rdL_sI, am_rR_sL, am_rt_cq, am_kd_cq, am_tc_cq, am_len_cq, am_rd_sL, am_rd_sR, am_rdL_sR]
  exact s1
theorem den_whistles (h : am_H) (ok : am_okH h) (i : Nat) (d : q_Dr) (m : q_mD h i d) : am_den 206 [.ref 211] h = some (some (.int (nI d.1)), h) := by
  obtain ⟨hi, e39, e0, er⟩ := m
  have m1 : (81 : Int32) * nI i = nI (81 * i) := pk_mul 81 i
  have x1 : am_ix (nI (81 * i)) 648 = true := am_ix_nI (by omega) (by decide)
  have z1 : (nI (81 * i)).toNatClampNeg = 81 * i := nI_clamp (by omega)
  show am_ev 206 0 [some (.ref 211)] [] h = _
  simp only [e206_0, e206_1, e206_4, e206_6, e206_7, e206_10, e206_11, e206_12, am_bd_some, Option.toList_some, Option.toList_none, List.cons_append, List.nil_append, am_w8_0, am_w8_1, am_w8_2, am_w8_3, am_w8_4, eq_self, or_true, true_or, am_kd_sI, am_kd_sL, am_kd_sR, am_tc_sI, am_tc_sL, am_tc_sR, am_len_sI, am_len_sL, am_len_sR, am_rfs, if_true, if_false, am_rdL_sI, am_rR_sL, am_rt_cq, am_kd_cq, am_tc_cq, am_len_cq, am_rd_sL, am_rd_sR, am_rdL_sR, okK_211 ok, okR_211_7 ok, okT_218 ok, okL_218 ok, e39, m1, x1, z1, e0]
