/-! part 64: fell -/
theorem e65_0 {ls : List (Option Value)} {st : List Value} {h : am_H} {a : Nat} : am_ev 65 0 (some (.ref a) :: ls) (st) h = am_ev 65 1 (some (.ref a) :: ls) (.ref a :: st) h := am_ev_step (q := (1, some (.ref a) :: ls, .ref a :: st, h)) _ (.aload_n 0) 1 am_my_65 (by decide +kernel) rfl
theorem e65_1 {ls : List (Option Value)} {st : List Value} {h : am_H} {o : Nat} (hk : am_kd h o = some (.inl 10)) : am_ev 65 1 ls (.ref o :: st) h = am_ev 65 4 ls (va_rf (h.2.2.1 o 0) :: st) h := am_u_gfR (idx := 10) (wn := 2146) (a := 0) am_my_65 (by decide +kernel) (by decide +kernel) (by decide +kernel) hk
theorem e65_4 {ls : List (Option Value)} {st : List Value} {h : am_H} : am_ev 65 4 (ls) (st) h = am_ev 65 5 (ls) (.int (0) :: st) h := am_ev_step (q := (5, ls, .int (0) :: st, h)) _ (.iconst (0)) 1 am_my_65 (by decide +kernel) rfl
theorem e65_5 {ls : List (Option Value)} {st : List Value} {h : am_H} {l0 : Option Value} {a : Int32} : am_ev 65 5 (l0 :: some (.int a) :: ls) (st) h = am_ev 65 6 (l0 :: some (.int a) :: ls) (.int a :: st) h := am_ev_step (q := (6, l0 :: some (.int a) :: ls, .int a :: st, h)) _ (.iload_n 1) 1 am_my_65 (by decide +kernel) rfl
theorem e65_6 {ls : List (Option Value)} {st : List Value} {h : am_H} {p0 : Int32} {p1 : Int32} {o : Nat} (hw : am_w8 st ≤ 8) (hk : am_kd h o = some (.inl 8)) : am_ev 65 6 ls (.int p1 :: .int p0 :: .ref o :: st) h = am_bd (am_den 17 [.ref o, .int p0, .int p1] h) (fun v h1 => am_ev 65 9 ls (v.toList ++ st) h1) := am_u_cV (idx := 108) (wn := 2200) (as := [.int p0, .int p1]) am_my_65 (by decide +kernel) (Or.inl (by decide +kernel)) am_my_17 (by decide +kernel) rfl ⟨Nat.le_of_ble_eq_true rfl, rfl⟩ (by decide +kernel) hw hk
theorem e65_9 {ls : List (Option Value)} {st : List Value} {h : am_H} {a : Int32} : am_ev 65 9 ls (.int a :: st) h = if a = 0 then am_ev 65 28 ls st h else am_ev 65 12 ls st h := am_u_if1 (c := .eq) (off := 19) am_my_65 (by decide +kernel) (by decide)
theorem e65_12 {ls : List (Option Value)} {st : List Value} {h : am_H} {a : Nat} : am_ev 65 12 (some (.ref a) :: ls) (st) h = am_ev 65 13 (some (.ref a) :: ls) (.ref a :: st) h := am_ev_step (q := (13, some (.ref a) :: ls, .ref a :: st, h)) _ (.aload_n 0) 1 am_my_65 (by decide +kernel) rfl
theorem e65_13 {ls : List (Option Value)} {st : List Value} {h : am_H} {o : Nat} (hk : am_kd h o = some (.inl 10)) : am_ev 65 13 ls (.ref o :: st) h = am_ev 65 16 ls (va_rf (h.2.2.1 o 0) :: st) h := am_u_gfR (idx := 10) (wn := 2146) (a := 0) am_my_65 (by decide +kernel) (by decide +kernel) (by decide +kernel) hk
theorem e65_16 {ls : List (Option Value)} {st : List Value} {h : am_H} {o : Nat} (hk : am_kd h o = some (.inl 8)) : am_ev 65 16 ls (.ref o :: st) h = am_ev 65 19 ls (va_rf (h.2.2.1 o 5) :: st) h := am_u_gfR (idx := 116) (wn := 1191) (a := 0) am_my_65 (by decide +kernel) (by decide +kernel) (by decide +kernel) hk
theorem e65_19 {ls : List (Option Value)} {st : List Value} {h : am_H} {l0 : Option Value} {a : Int32} : am_ev 65 19 (l0 :: some (.int a) :: ls) (st) h = am_ev 65 20 (l0 :: some (.int a) :: ls) (.int a :: st) h := am_ev_step (q := (20, l0 :: some (.int a) :: ls, .int a :: st, h)) _ (.iload_n 1) 1 am_my_65 (by decide +kernel) rfl
theorem e65_20f {ls : List (Option Value)} {st : List Value} {h : am_H} {i : Int32} {a : Nat} (ht : am_tc h a = some 4) : am_ev 65 20 ls (.int i :: .ref a :: st) h = if am_ix i (am_len h a) = true then am_ev 65 21 ls (va_rf (h.2.2.1 a i.toNatClampNeg) :: st) h else none := am_u_rA am_my_65 (by decide +kernel) ht (by decide)
theorem e65_20d {ls : List (Option Value)} {st : List Value} {h : am_H} {i : Int32} {a : Nat} (ht : am_tc h a = some 5) : am_ev 65 20 ls (.int i :: .ref a :: st) h = if am_ix i (am_len h a) = true then am_ev 65 21 ls (va_rf (h.2.2.1 a i.toNatClampNeg) :: st) h else none := am_u_rA am_my_65 (by decide +kernel) ht (by decide)
theorem e65_20b {ls : List (Option Value)} {st : List Value} {h : am_H} {i : Int32} {a : Nat} (ht : am_tc h a = some 6) : am_ev 65 20 ls (.int i :: .ref a :: st) h = if am_ix i (am_len h a) = true then am_ev 65 21 ls (va_rf (h.2.2.1 a i.toNatClampNeg) :: st) h else none := am_u_rA am_my_65 (by decide +kernel) ht (by decide)
theorem e65_20l {ls : List (Option Value)} {st : List Value} {h : am_H} {i : Int32} {a : Nat} (ht : am_tc h a = some 7) : am_ev 65 20 ls (.int i :: .ref a :: st) h = if am_ix i (am_len h a) = true then am_ev 65 21 ls (va_rf (h.2.2.1 a i.toNatClampNeg) :: st) h else none := am_u_rA am_my_65 (by decide +kernel) ht (by decide)
theorem e65_20t {ls : List (Option Value)} {st : List Value} {h : am_H} {i : Int32} {a : Nat} (ht : am_tc h a = some 8) : am_ev 65 20 ls (.int i :: .ref a :: st) h = if am_ix i (am_len h a) = true then am_ev 65 21 ls (va_rf (h.2.2.1 a i.toNatClampNeg) :: st) h else none := am_u_rA am_my_65 (by decide +kernel) ht (by decide)
theorem e65_21 {ls : List (Option Value)} {st : List Value} {h : am_H} {l0 l1 : Option Value} {a : Int32} : am_ev 65 21 (l0 :: l1 :: some (.int a) :: ls) (st) h = am_ev 65 22 (l0 :: l1 :: some (.int a) :: ls) (.int a :: st) h := am_ev_step (q := (22, l0 :: l1 :: some (.int a) :: ls, .int a :: st, h)) _ (.iload_n 2) 1 am_my_65 (by decide +kernel) rfl
theorem e65_22 {ls : List (Option Value)} {st : List Value} {h : am_H} {p0 : Int32} {o : Nat} (hw : am_w8 st ≤ 8) (hk : am_kd h o = some (.inl 3)) : am_ev 65 22 ls (.int p0 :: .ref o :: st) h = am_bd (am_den 66 [.ref o, .int p0] h) (fun v h1 => am_ev 65 25 ls (v.toList ++ st) h1) := am_u_cV (idx := 120) (wn := 3186) (as := [.int p0]) am_my_65 (by decide +kernel) (Or.inl (by decide +kernel)) am_my_66 (by decide +kernel) rfl ⟨Nat.le_of_ble_eq_true rfl, rfl⟩ (by decide +kernel) hw hk
theorem e65_25 {ls : List (Option Value)} {st : List Value} {h : am_H} : am_ev 65 25 (ls) (st) h = am_ev 65 29 (ls) (st) h := am_ev_step (q := (29, ls, st, h)) _ (.goto (4)) 3 am_my_65 (by decide +kernel) rfl
theorem e65_28 {ls : List (Option Value)} {st : List Value} {h : am_H} : am_ev 65 28 (ls) (st) h = am_ev 65 29 (ls) (.int (-1) :: st) h := am_ev_step (q := (29, ls, .int (-1) :: st, h)) _ (.iconst (-1)) 1 am_my_65 (by decide +kernel) rfl
theorem e65_29 {ls : List (Option Value)} {h : am_H} {v : Int32} : am_ev 65 29 ls [.int v] h = some (some (.int v), h) := am_u_rtI am_my_65 (by decide +kernel) rfl
theorem e66_0 {ls : List (Option Value)} {st : List Value} {h : am_H} {l0 : Option Value} {a : Int32} : am_ev 66 0 (l0 :: some (.int a) :: ls) (st) h = am_ev 66 1 (l0 :: some (.int a) :: ls) (.int a :: st) h := am_ev_step (q := (1, l0 :: some (.int a) :: ls, .int a :: st, h)) _ (.iload_n 1) 1 am_my_66 (by decide +kernel) rfl
theorem e66_1 {ls : List (Option Value)} {st : List Value} {h : am_H} {a : Int32} : am_ev 66 1 ls (.int a :: st) h = if a = 0 then am_ev 66 40 ls st h else if a = 1 then am_ev 66 45 ls st h else if a = 2 then am_ev 66 50 ls st h else if a = 3 then am_ev 66 59 ls st h else if a = 4 then am_ev 66 68 ls st h else if a = 5 then am_ev 66 73 ls st h else am_ev 66 78 ls st h := by
  by_cases c0 : a = 0
  · subst c0
    exact am_ev_step (q := (40, ls, st, h)) _ (.tableswitch (77) (0) (5) #[39, 44, 49, 58, 67, 72]) 39 am_my_66 (by decide +kernel) rfl
  rw [if_neg c0]
  by_cases c1 : a = 1
  · subst c1
    exact am_ev_step (q := (45, ls, st, h)) _ (.tableswitch (77) (0) (5) #[39, 44, 49, 58, 67, 72]) 39 am_my_66 (by decide +kernel) rfl
  rw [if_neg c1]
  by_cases c2 : a = 2
  · subst c2
    exact am_ev_step (q := (50, ls, st, h)) _ (.tableswitch (77) (0) (5) #[39, 44, 49, 58, 67, 72]) 39 am_my_66 (by decide +kernel) rfl
  rw [if_neg c2]
  by_cases c3 : a = 3
  · subst c3
    exact am_ev_step (q := (59, ls, st, h)) _ (.tableswitch (77) (0) (5) #[39, 44, 49, 58, 67, 72]) 39 am_my_66 (by decide +kernel) rfl
  rw [if_neg c3]
  by_cases c4 : a = 4
  · subst c4
    exact am_ev_step (q := (68, ls, st, h)) _ (.tableswitch (77) (0) (5) #[39, 44, 49, 58, 67, 72]) 39 am_my_66 (by decide +kernel) rfl
  rw [if_neg c4]
  by_cases c5 : a = 5
  · subst c5
    exact am_ev_step (q := (73, ls, st, h)) _ (.tableswitch (77) (0) (5) #[39, 44, 49, 58, 67, 72]) 39 am_my_66 (by decide +kernel) rfl
  rw [if_neg c5]
  have t0 : a.toInt ≠ 0 := fun q => c0 (Int32.toInt_inj.mp q)
  have t1 : a.toInt ≠ 1 := fun q => c1 (Int32.toInt_inj.mp q)
  have t2 : a.toInt ≠ 2 := fun q => c2 (Int32.toInt_inj.mp q)
  have t3 : a.toInt ≠ 3 := fun q => c3 (Int32.toInt_inj.mp q)
  have t4 : a.toInt ≠ 4 := fun q => c4 (Int32.toInt_inj.mp q)
  have t5 : a.toInt ≠ 5 := fun q => c5 (Int32.toInt_inj.mp q)
  refine am_ev_step (q := (78, ls, st, h)) _ (.tableswitch (77) (0) (5) #[39, 44, 49, 58, 67, 72]) 39 am_my_66 (by decide +kernel) ?_
  show am_sw (77) (0) (5) #[39, 44, 49, 58, 67, 72] 1 ls (.int a :: st) h = _
  unfold am_sw
  dsimp only
  rw [if_pos (by omega)]
  rfl
theorem e66_40 {ls : List (Option Value)} {st : List Value} {h : am_H} {a : Nat} : am_ev 66 40 (some (.ref a) :: ls) (st) h = am_ev 66 41 (some (.ref a) :: ls) (.ref a :: st) h := am_ev_step (q := (41, some (.ref a) :: ls, .ref a :: st, h)) _ (.aload_n 0) 1 am_my_66 (by decide +kernel) rfl
theorem e66_41 {ls : List (Option Value)} {st : List Value} {h : am_H} {o : Nat} (hk : am_kd h o = some (.inl 3)) : am_ev 66 41 ls (.ref o :: st) h = am_ev 66 44 ls (.int (h.1 o 0) :: st) h := am_u_gfI (idx := 21) (wn := 1055) am_my_66 (by decide +kernel) (by decide +kernel) (by decide +kernel) hk
theorem e66_44 {ls : List (Option Value)} {h : am_H} {v : Int32} : am_ev 66 44 ls [.int v] h = some (some (.int v), h) := am_u_rtI am_my_66 (by decide +kernel) rfl
theorem e66_45 {ls : List (Option Value)} {st : List Value} {h : am_H} {a : Nat} : am_ev 66 45 (some (.ref a) :: ls) (st) h = am_ev 66 46 (some (.ref a) :: ls) (.ref a :: st) h := am_ev_step (q := (46, some (.ref a) :: ls, .ref a :: st, h)) _ (.aload_n 0) 1 am_my_66 (by decide +kernel) rfl
theorem e66_46 {ls : List (Option Value)} {st : List Value} {h : am_H} {o : Nat} (hk : am_kd h o = some (.inl 3)) : am_ev 66 46 ls (.ref o :: st) h = am_ev 66 49 ls (.int (h.1 o 1) :: st) h := am_u_gfI (idx := 25) (wn := 1056) am_my_66 (by decide +kernel) (by decide +kernel) (by decide +kernel) hk
theorem e66_49 {ls : List (Option Value)} {h : am_H} {v : Int32} : am_ev 66 49 ls [.int v] h = some (some (.int v), h) := am_u_rtI am_my_66 (by decide +kernel) rfl
theorem e66_50 {ls : List (Option Value)} {st : List Value} {h : am_H} {a : Nat} : am_ev 66 50 (some (.ref a) :: ls) (st) h = am_ev 66 51 (some (.ref a) :: ls) (.ref a :: st) h := am_ev_step (q := (51, some (.ref a) :: ls, .ref a :: st, h)) _ (.aload_n 0) 1 am_my_66 (by decide +kernel) rfl
theorem e66_51 {ls : List (Option Value)} {st : List Value} {h : am_H} {a : Nat} : am_ev 66 51 (some (.ref a) :: ls) (st) h = am_ev 66 52 (some (.ref a) :: ls) (.ref a :: st) h := am_ev_step (q := (52, some (.ref a) :: ls, .ref a :: st, h)) _ (.aload_n 0) 1 am_my_66 (by decide +kernel) rfl
theorem e66_52 {ls : List (Option Value)} {st : List Value} {h : am_H} {o : Nat} (hk : am_kd h o = some (.inl 3)) : am_ev 66 52 ls (.ref o :: st) h = am_ev 66 55 ls (.int (h.1 o 2) :: st) h := am_u_gfI (idx := 28) (wn := 1057) am_my_66 (by decide +kernel) (by decide +kernel) (by decide +kernel) hk
theorem e66_55 {ls : List (Option Value)} {st : List Value} {h : am_H} {p0 : Int32} {o : Nat} (hw : am_w8 st ≤ 8) (hk : am_kd h o = some (.inl 3)) : am_ev 66 55 ls (.int p0 :: .ref o :: st) h = am_bd (am_den 67 [.ref o, .int p0] h) (fun v h1 => am_ev 66 58 ls (v.toList ++ st) h1) := am_u_cV (idx := 83) (wn := 3190) (as := [.int p0]) am_my_66 (by decide +kernel) (Or.inl (by decide +kernel)) am_my_67 (by decide +kernel) rfl ⟨Nat.le_of_ble_eq_true rfl, rfl⟩ (by decide +kernel) hw hk
theorem e66_58 {ls : List (Option Value)} {h : am_H} {v : Int32} : am_ev 66 58 ls [.int v] h = some (some (.int v), h) := am_u_rtI am_my_66 (by decide +kernel) rfl
theorem e66_59 {ls : List (Option Value)} {st : List Value} {h : am_H} {a : Nat} : am_ev 66 59 (some (.ref a) :: ls) (st) h = am_ev 66 60 (some (.ref a) :: ls) (.ref a :: st) h := am_ev_step (q := (60, some (.ref a) :: ls, .ref a :: st, h)) _ (.aload_n 0) 1 am_my_66 (by decide +kernel) rfl
theorem e66_60 {ls : List (Option Value)} {st : List Value} {h : am_H} {a : Nat} : am_ev 66 60 (some (.ref a) :: ls) (st) h = am_ev 66 61 (some (.ref a) :: ls) (.ref a :: st) h := am_ev_step (q := (61, some (.ref a) :: ls, .ref a :: st, h)) _ (.aload_n 0) 1 am_my_66 (by decide +kernel) rfl
theorem e66_61 {ls : List (Option Value)} {st : List Value} {h : am_H} {o : Nat} (hk : am_kd h o = some (.inl 3)) : am_ev 66 61 ls (.ref o :: st) h = am_ev 66 64 ls (.int (h.1 o 3) :: st) h := am_u_gfI (idx := 31) (wn := 1061) am_my_66 (by decide +kernel) (by decide +kernel) (by decide +kernel) hk
theorem e66_64 {ls : List (Option Value)} {st : List Value} {h : am_H} {p0 : Int32} {o : Nat} (hw : am_w8 st ≤ 8) (hk : am_kd h o = some (.inl 3)) : am_ev 66 64 ls (.int p0 :: .ref o :: st) h = am_bd (am_den 67 [.ref o, .int p0] h) (fun v h1 => am_ev 66 67 ls (v.toList ++ st) h1) := am_u_cV (idx := 83) (wn := 3190) (as := [.int p0]) am_my_66 (by decide +kernel) (Or.inl (by decide +kernel)) am_my_67 (by decide +kernel) rfl ⟨Nat.le_of_ble_eq_true rfl, rfl⟩ (by decide +kernel) hw hk
theorem e66_67 {ls : List (Option Value)} {h : am_H} {v : Int32} : am_ev 66 67 ls [.int v] h = some (some (.int v), h) := am_u_rtI am_my_66 (by decide +kernel) rfl
theorem e66_68 {ls : List (Option Value)} {st : List Value} {h : am_H} {a : Nat} : am_ev 66 68 (some (.ref a) :: ls) (st) h = am_ev 66 69 (some (.ref a) :: ls) (.ref a :: st) h := am_ev_step (q := (69, some (.ref a) :: ls, .ref a :: st, h)) _ (.aload_n 0) 1 am_my_66 (by decide +kernel) rfl
theorem e66_69 {ls : List (Option Value)} {st : List Value} {h : am_H} {o : Nat} (hk : am_kd h o = some (.inl 3)) : am_ev 66 69 ls (.ref o :: st) h = am_ev 66 72 ls (.int (h.1 o 4) :: st) h := am_u_gfI (idx := 34) (wn := 1062) am_my_66 (by decide +kernel) (by decide +kernel) (by decide +kernel) hk
theorem e66_72 {ls : List (Option Value)} {h : am_H} {v : Int32} : am_ev 66 72 ls [.int v] h = some (some (.int v), h) := am_u_rtI am_my_66 (by decide +kernel) rfl
theorem e66_73 {ls : List (Option Value)} {st : List Value} {h : am_H} {a : Nat} : am_ev 66 73 (some (.ref a) :: ls) (st) h = am_ev 66 74 (some (.ref a) :: ls) (.ref a :: st) h := am_ev_step (q := (74, some (.ref a) :: ls, .ref a :: st, h)) _ (.aload_n 0) 1 am_my_66 (by decide +kernel) rfl
theorem e66_74 {ls : List (Option Value)} {st : List Value} {h : am_H} {o : Nat} (hk : am_kd h o = some (.inl 3)) : am_ev 66 74 ls (.ref o :: st) h = am_ev 66 77 ls (.int (h.1 o 5) :: st) h := am_u_gfI (idx := 37) (wn := 1064) am_my_66 (by decide +kernel) (by decide +kernel) (by decide +kernel) hk
theorem e66_77 {ls : List (Option Value)} {h : am_H} {v : Int32} : am_ev 66 77 ls [.int v] h = some (some (.int v), h) := am_u_rtI am_my_66 (by decide +kernel) rfl
theorem e66_78 {ls : List (Option Value)} {st : List Value} {h : am_H} {a : Nat} : am_ev 66 78 (some (.ref a) :: ls) (st) h = am_ev 66 79 (some (.ref a) :: ls) (.ref a :: st) h := am_ev_step (q := (79, some (.ref a) :: ls, .ref a :: st, h)) _ (.aload_n 0) 1 am_my_66 (by decide +kernel) rfl
theorem e66_79 {ls : List (Option Value)} {st : List Value} {h : am_H} {l0 : Option Value} {a : Int32} : am_ev 66 79 (l0 :: some (.int a) :: ls) (st) h = am_ev 66 80 (l0 :: some (.int a) :: ls) (.int a :: st) h := am_ev_step (q := (80, l0 :: some (.int a) :: ls, .int a :: st, h)) _ (.iload_n 1) 1 am_my_66 (by decide +kernel) rfl
theorem e66_80 {ls : List (Option Value)} {st : List Value} {h : am_H} {p0 : Int32} {o : Nat} (hw : am_w8 st ≤ 8) (hk : am_kd h o = some (.inl 3)) : am_ev 66 80 ls (.int p0 :: .ref o :: st) h = am_bd (am_den 68 [.ref o, .int p0] h) (fun v h1 => am_ev 66 83 ls (v.toList ++ st) h1) := am_u_cV (idx := 86) (wn := 3194) (as := [.int p0]) am_my_66 (by decide +kernel) (Or.inl (by decide +kernel)) am_my_68 (by decide +kernel) rfl ⟨Nat.le_of_ble_eq_true rfl, rfl⟩ (by decide +kernel) hw hk
theorem e66_83 {ls : List (Option Value)} {h : am_H} {v : Int32} : am_ev 66 83 ls [.int v] h = some (some (.int v), h) := am_u_rtI am_my_66 (by decide +kernel) rfl
theorem e68_0 {ls : List (Option Value)} {st : List Value} {h : am_H} {l0 : Option Value} {a : Int32} : am_ev 68 0 (l0 :: some (.int a) :: ls) (st) h = am_ev 68 1 (l0 :: some (.int a) :: ls) (.int a :: st) h := am_ev_step (q := (1, l0 :: some (.int a) :: ls, .int a :: st, h)) _ (.iload_n 1) 1 am_my_68 (by decide +kernel) rfl
theorem e68_1 {ls : List (Option Value)} {st : List Value} {h : am_H} : am_ev 68 1 (ls) (st) h = am_ev 68 3 (ls) (.int (10) :: st) h := am_ev_step (q := (3, ls, .int (10) :: st, h)) _ (.bipush (10)) 2 am_my_68 (by decide +kernel) rfl
theorem e68_3 {ls : List (Option Value)} {st : List Value} {h : am_H} {a b : Int32} : am_ev 68 3 ls (.int b :: .int a :: st) h = if a < b then am_ev 68 27 ls st h else am_ev 68 6 ls st h := am_u_if2 (c := .lt) (off := 24) am_my_68 (by decide +kernel) (by decide)
theorem e68_6 {ls : List (Option Value)} {st : List Value} {h : am_H} {l0 : Option Value} {a : Int32} : am_ev 68 6 (l0 :: some (.int a) :: ls) (st) h = am_ev 68 7 (l0 :: some (.int a) :: ls) (.int a :: st) h := am_ev_step (q := (7, l0 :: some (.int a) :: ls, .int a :: st, h)) _ (.iload_n 1) 1 am_my_68 (by decide +kernel) rfl
theorem e68_7 {ls : List (Option Value)} {st : List Value} {h : am_H} : am_ev 68 7 (ls) (st) h = am_ev 68 9 (ls) (.int (10) :: st) h := am_ev_step (q := (9, ls, .int (10) :: st, h)) _ (.bipush (10)) 2 am_my_68 (by decide +kernel) rfl
theorem e68_9 {ls : List (Option Value)} {st : List Value} {h : am_H} {a : Nat} : am_ev 68 9 (some (.ref a) :: ls) (st) h = am_ev 68 10 (some (.ref a) :: ls) (.ref a :: st) h := am_ev_step (q := (10, some (.ref a) :: ls, .ref a :: st, h)) _ (.aload_n 0) 1 am_my_68 (by decide +kernel) rfl
theorem e68_10 {ls : List (Option Value)} {st : List Value} {h : am_H} {o : Nat} (hk : am_kd h o = some (.inl 3)) : am_ev 68 10 ls (.ref o :: st) h = am_ev 68 13 ls (.int (h.1 o 5) :: st) h := am_u_gfI (idx := 37) (wn := 1064) am_my_68 (by decide +kernel) (by decide +kernel) (by decide +kernel) hk
theorem e68_13 {ls : List (Option Value)} {st : List Value} {h : am_H} {a b : Int32} : am_ev 68 13 (ls) (.int b :: .int a :: st) h = am_ev 68 14 (ls) (.int (a + b) :: st) h := am_ev_step (q := (14, ls, .int (a + b) :: st, h)) _ (.iadd) 1 am_my_68 (by decide +kernel) rfl
theorem e68_14 {ls : List (Option Value)} {st : List Value} {h : am_H} {a b : Int32} : am_ev 68 14 ls (.int b :: .int a :: st) h = if b ≤ a then am_ev 68 27 ls st h else am_ev 68 17 ls st h := am_u_if2 (c := .ge) (off := 13) am_my_68 (by decide +kernel) (by decide)
theorem e68_17 {ls : List (Option Value)} {st : List Value} {h : am_H} {a : Nat} : am_ev 68 17 (some (.ref a) :: ls) (st) h = am_ev 68 18 (some (.ref a) :: ls) (.ref a :: st) h := am_ev_step (q := (18, some (.ref a) :: ls, .ref a :: st, h)) _ (.aload_n 0) 1 am_my_68 (by decide +kernel) rfl
theorem e68_18 {ls : List (Option Value)} {st : List Value} {h : am_H} {o : Nat} (hk : am_kd h o = some (.inl 3)) : am_ev 68 18 ls (.ref o :: st) h = am_ev 68 21 ls (va_rf (h.2.2.1 o 7) :: st) h := am_u_gfR (idx := 9) (wn := 1070) (a := 0) am_my_68 (by decide +kernel) (by decide +kernel) (by decide +kernel) hk
theorem e68_21 {ls : List (Option Value)} {st : List Value} {h : am_H} {l0 : Option Value} {a : Int32} : am_ev 68 21 (l0 :: some (.int a) :: ls) (st) h = am_ev 68 22 (l0 :: some (.int a) :: ls) (.int a :: st) h := am_ev_step (q := (22, l0 :: some (.int a) :: ls, .int a :: st, h)) _ (.iload_n 1) 1 am_my_68 (by decide +kernel) rfl
theorem e68_22 {ls : List (Option Value)} {st : List Value} {h : am_H} : am_ev 68 22 (ls) (st) h = am_ev 68 24 (ls) (.int (10) :: st) h := am_ev_step (q := (24, ls, .int (10) :: st, h)) _ (.bipush (10)) 2 am_my_68 (by decide +kernel) rfl
theorem e68_24 {ls : List (Option Value)} {st : List Value} {h : am_H} {a b : Int32} : am_ev 68 24 (ls) (.int b :: .int a :: st) h = am_ev 68 25 (ls) (.int (a - b) :: st) h := am_ev_step (q := (25, ls, .int (a - b) :: st, h)) _ (.isub) 1 am_my_68 (by decide +kernel) rfl
theorem e68_25 {ls : List (Option Value)} {st : List Value} {h : am_H} {i : Int32} {a : Nat} (ht : am_tc h a = some 0) : am_ev 68 25 ls (.int i :: .ref a :: st) h = if am_ix i (am_len h a) = true then am_ev 68 26 ls (.int (h.1 a i.toNatClampNeg) :: st) h else none := am_u_rI am_my_68 (by decide +kernel) ht
theorem e68_26 {ls : List (Option Value)} {h : am_H} {v : Int32} : am_ev 68 26 ls [.int v] h = some (some (.int v), h) := am_u_rtI am_my_68 (by decide +kernel) rfl
theorem e68_27 {ls : List (Option Value)} {st : List Value} {h : am_H} {l0 : Option Value} {a : Int32} : am_ev 68 27 (l0 :: some (.int a) :: ls) (st) h = am_ev 68 28 (l0 :: some (.int a) :: ls) (.int a :: st) h := am_ev_step (q := (28, l0 :: some (.int a) :: ls, .int a :: st, h)) _ (.iload_n 1) 1 am_my_68 (by decide +kernel) rfl
theorem e68_28 {ls : List (Option Value)} {st : List Value} {h : am_H} : am_ev 68 28 (ls) (st) h = am_ev 68 30 (ls) (.int (20) :: st) h := am_ev_step (q := (30, ls, .int (20) :: st, h)) _ (.bipush (20)) 2 am_my_68 (by decide +kernel) rfl
theorem e68_30 {ls : List (Option Value)} {st : List Value} {h : am_H} {a b : Int32} : am_ev 68 30 ls (.int b :: .int a :: st) h = if a < b then am_ev 68 58 ls st h else am_ev 68 33 ls st h := am_u_if2 (c := .lt) (off := 28) am_my_68 (by decide +kernel) (by decide)
theorem e68_33 {ls : List (Option Value)} {st : List Value} {h : am_H} {l0 : Option Value} {a : Int32} : am_ev 68 33 (l0 :: some (.int a) :: ls) (st) h = am_ev 68 34 (l0 :: some (.int a) :: ls) (.int a :: st) h := am_ev_step (q := (34, l0 :: some (.int a) :: ls, .int a :: st, h)) _ (.iload_n 1) 1 am_my_68 (by decide +kernel) rfl
theorem e68_34 {ls : List (Option Value)} {st : List Value} {h : am_H} : am_ev 68 34 (ls) (st) h = am_ev 68 36 (ls) (.int (20) :: st) h := am_ev_step (q := (36, ls, .int (20) :: st, h)) _ (.bipush (20)) 2 am_my_68 (by decide +kernel) rfl
theorem e68_36 {ls : List (Option Value)} {st : List Value} {h : am_H} {a : Nat} : am_ev 68 36 (some (.ref a) :: ls) (st) h = am_ev 68 37 (some (.ref a) :: ls) (.ref a :: st) h := am_ev_step (q := (37, some (.ref a) :: ls, .ref a :: st, h)) _ (.aload_n 0) 1 am_my_68 (by decide +kernel) rfl
theorem e68_37 {ls : List (Option Value)} {st : List Value} {h : am_H} {o : Nat} (hk : am_kd h o = some (.inl 3)) : am_ev 68 37 ls (.ref o :: st) h = am_ev 68 40 ls (.int (h.1 o 5) :: st) h := am_u_gfI (idx := 37) (wn := 1064) am_my_68 (by decide +kernel) (by decide +kernel) (by decide +kernel) hk
theorem e68_40 {ls : List (Option Value)} {st : List Value} {h : am_H} {a b : Int32} : am_ev 68 40 (ls) (.int b :: .int a :: st) h = am_ev 68 41 (ls) (.int (a + b) :: st) h := am_ev_step (q := (41, ls, .int (a + b) :: st, h)) _ (.iadd) 1 am_my_68 (by decide +kernel) rfl
theorem e68_41 {ls : List (Option Value)} {st : List Value} {h : am_H} {a b : Int32} : am_ev 68 41 ls (.int b :: .int a :: st) h = if b ≤ a then am_ev 68 58 ls st h else am_ev 68 44 ls st h := am_u_if2 (c := .ge) (off := 17) am_my_68 (by decide +kernel) (by decide)
theorem e68_44 {ls : List (Option Value)} {st : List Value} {h : am_H} {a : Nat} : am_ev 68 44 (some (.ref a) :: ls) (st) h = am_ev 68 45 (some (.ref a) :: ls) (.ref a :: st) h := am_ev_step (q := (45, some (.ref a) :: ls, .ref a :: st, h)) _ (.aload_n 0) 1 am_my_68 (by decide +kernel) rfl
theorem e68_45 {ls : List (Option Value)} {st : List Value} {h : am_H} {a : Nat} : am_ev 68 45 (some (.ref a) :: ls) (st) h = am_ev 68 46 (some (.ref a) :: ls) (.ref a :: st) h := am_ev_step (q := (46, some (.ref a) :: ls, .ref a :: st, h)) _ (.aload_n 0) 1 am_my_68 (by decide +kernel) rfl
theorem e68_46 {ls : List (Option Value)} {st : List Value} {h : am_H} {o : Nat} (hk : am_kd h o = some (.inl 3)) : am_ev 68 46 ls (.ref o :: st) h = am_ev 68 49 ls (va_rf (h.2.2.1 o 8) :: st) h := am_u_gfR (idx := 15) (wn := 1072) (a := 0) am_my_68 (by decide +kernel) (by decide +kernel) (by decide +kernel) hk
theorem e68_49 {ls : List (Option Value)} {st : List Value} {h : am_H} {l0 : Option Value} {a : Int32} : am_ev 68 49 (l0 :: some (.int a) :: ls) (st) h = am_ev 68 50 (l0 :: some (.int a) :: ls) (.int a :: st) h := am_ev_step (q := (50, l0 :: some (.int a) :: ls, .int a :: st, h)) _ (.iload_n 1) 1 am_my_68 (by decide +kernel) rfl
theorem e68_50 {ls : List (Option Value)} {st : List Value} {h : am_H} : am_ev 68 50 (ls) (st) h = am_ev 68 52 (ls) (.int (20) :: st) h := am_ev_step (q := (52, ls, .int (20) :: st, h)) _ (.bipush (20)) 2 am_my_68 (by decide +kernel) rfl
theorem e68_52 {ls : List (Option Value)} {st : List Value} {h : am_H} {a b : Int32} : am_ev 68 52 (ls) (.int b :: .int a :: st) h = am_ev 68 53 (ls) (.int (a - b) :: st) h := am_ev_step (q := (53, ls, .int (a - b) :: st, h)) _ (.isub) 1 am_my_68 (by decide +kernel) rfl
theorem e68_53 {ls : List (Option Value)} {st : List Value} {h : am_H} {i : Int32} {a : Nat} (ht : am_tc h a = some 0) : am_ev 68 53 ls (.int i :: .ref a :: st) h = if am_ix i (am_len h a) = true then am_ev 68 54 ls (.int (h.1 a i.toNatClampNeg) :: st) h else none := am_u_rI am_my_68 (by decide +kernel) ht
theorem e68_54 {ls : List (Option Value)} {st : List Value} {h : am_H} {p0 : Int32} {o : Nat} (hw : am_w8 st ≤ 8) (hk : am_kd h o = some (.inl 3)) : am_ev 68 54 ls (.int p0 :: .ref o :: st) h = am_bd (am_den 67 [.ref o, .int p0] h) (fun v h1 => am_ev 68 57 ls (v.toList ++ st) h1) := am_u_cV (idx := 83) (wn := 3190) (as := [.int p0]) am_my_68 (by decide +kernel) (Or.inl (by decide +kernel)) am_my_67 (by decide +kernel) rfl ⟨Nat.le_of_ble_eq_true rfl, rfl⟩ (by decide +kernel) hw hk
theorem e68_57 {ls : List (Option Value)} {h : am_H} {v : Int32} : am_ev 68 57 ls [.int v] h = some (some (.int v), h) := am_u_rtI am_my_68 (by decide +kernel) rfl
theorem e68_58 {ls : List (Option Value)} {st : List Value} {h : am_H} {l0 : Option Value} {a : Int32} : am_ev 68 58 (l0 :: some (.int a) :: ls) (st) h = am_ev 68 59 (l0 :: some (.int a) :: ls) (.int a :: st) h := am_ev_step (q := (59, l0 :: some (.int a) :: ls, .int a :: st, h)) _ (.iload_n 1) 1 am_my_68 (by decide +kernel) rfl
theorem e68_59 {ls : List (Option Value)} {st : List Value} {h : am_H} : am_ev 68 59 (ls) (st) h = am_ev 68 61 (ls) (.int (100) :: st) h := am_ev_step (q := (61, ls, .int (100) :: st, h)) _ (.bipush (100)) 2 am_my_68 (by decide +kernel) rfl
theorem e68_61 {ls : List (Option Value)} {st : List Value} {h : am_H} {a b : Int32} : am_ev 68 61 ls (.int b :: .int a :: st) h = if a < b then am_ev 68 75 ls st h else am_ev 68 64 ls st h := am_u_if2 (c := .lt) (off := 14) am_my_68 (by decide +kernel) (by decide)
theorem e68_64 {ls : List (Option Value)} {st : List Value} {h : am_H} {a : Nat} : am_ev 68 64 (some (.ref a) :: ls) (st) h = am_ev 68 65 (some (.ref a) :: ls) (.ref a :: st) h := am_ev_step (q := (65, some (.ref a) :: ls, .ref a :: st, h)) _ (.aload_n 0) 1 am_my_68 (by decide +kernel) rfl
theorem e68_65 {ls : List (Option Value)} {st : List Value} {h : am_H} {l0 : Option Value} {a : Int32} : am_ev 68 65 (l0 :: some (.int a) :: ls) (st) h = am_ev 68 66 (l0 :: some (.int a) :: ls) (.int a :: st) h := am_ev_step (q := (66, l0 :: some (.int a) :: ls, .int a :: st, h)) _ (.iload_n 1) 1 am_my_68 (by decide +kernel) rfl
theorem e68_66 {ls : List (Option Value)} {st : List Value} {h : am_H} : am_ev 68 66 (ls) (st) h = am_ev 68 68 (ls) (.int (100) :: st) h := am_ev_step (q := (68, ls, .int (100) :: st, h)) _ (.bipush (100)) 2 am_my_68 (by decide +kernel) rfl
theorem e68_68 {ls : List (Option Value)} {st : List Value} {h : am_H} {a b : Int32} : am_ev 68 68 (ls) (.int b :: .int a :: st) h = am_ev 68 69 (ls) (.int (a - b) :: st) h := am_ev_step (q := (69, ls, .int (a - b) :: st, h)) _ (.isub) 1 am_my_68 (by decide +kernel) rfl
theorem e68_69 {ls : List (Option Value)} {st : List Value} {h : am_H} {p0 : Int32} {o : Nat} (hw : am_w8 st ≤ 8) (hk : am_kd h o = some (.inl 3)) : am_ev 68 69 ls (.int p0 :: .ref o :: st) h = am_bd (am_den 69 [.ref o, .int p0] h) (fun v h1 => am_ev 68 72 ls (v.toList ++ st) h1) := am_u_cV (idx := 89) (wn := 3198) (as := [.int p0]) am_my_68 (by decide +kernel) (Or.inl (by decide +kernel)) am_my_69 (by decide +kernel) rfl ⟨Nat.le_of_ble_eq_true rfl, rfl⟩ (by decide +kernel) hw hk
theorem e68_72 {ls : List (Option Value)} {st : List Value} {h : am_H} : am_ev 68 72 (ls) (st) h = am_ev 68 76 (ls) (st) h := am_ev_step (q := (76, ls, st, h)) _ (.goto (4)) 3 am_my_68 (by decide +kernel) rfl
theorem e68_75 {ls : List (Option Value)} {st : List Value} {h : am_H} : am_ev 68 75 (ls) (st) h = am_ev 68 76 (ls) (.int (-1) :: st) h := am_ev_step (q := (76, ls, .int (-1) :: st, h)) _ (.iconst (-1)) 1 am_my_68 (by decide +kernel) rfl
theorem e68_76 {ls : List (Option Value)} {st : List Value} {h : am_H} {l0 l1 : Option Value} {z : Option Value} {a : Int32} : am_ev 68 76 (l0 :: l1 :: z :: ls) (.int a :: st) h = am_ev 68 77 (l0 :: l1 :: some (.int a) :: ls) (st) h := am_ev_step (q := (77, l0 :: l1 :: some (.int a) :: ls, st, h)) _ (.istore_n 2) 1 am_my_68 (by decide +kernel) rfl
theorem e68_77 {ls : List (Option Value)} {st : List Value} {h : am_H} {l0 l1 : Option Value} {a : Int32} : am_ev 68 77 (l0 :: l1 :: some (.int a) :: ls) (st) h = am_ev 68 78 (l0 :: l1 :: some (.int a) :: ls) (.int a :: st) h := am_ev_step (q := (78, l0 :: l1 :: some (.int a) :: ls, .int a :: st, h)) _ (.iload_n 2) 1 am_my_68 (by decide +kernel) rfl
theorem e68_78 {ls : List (Option Value)} {st : List Value} {h : am_H} : am_ev 68 78 (ls) (st) h = am_ev 68 79 (ls) (.int (-1) :: st) h := am_ev_step (q := (79, ls, .int (-1) :: st, h)) _ (.iconst (-1)) 1 am_my_68 (by decide +kernel) rfl
theorem e68_79 {ls : List (Option Value)} {st : List Value} {h : am_H} {a b : Int32} : am_ev 68 79 ls (.int b :: .int a :: st) h = if ¬ a = b then am_ev 68 84 ls st h else am_ev 68 82 ls st h := am_u_if2 (c := .ne) (off := 5) am_my_68 (by decide +kernel) (by decide)
theorem e68_82 {ls : List (Option Value)} {st : List Value} {h : am_H} : am_ev 68 82 (ls) (st) h = am_ev 68 83 (ls) (.int (-1) :: st) h := am_ev_step (q := (83, ls, .int (-1) :: st, h)) _ (.iconst (-1)) 1 am_my_68 (by decide +kernel) rfl
theorem e68_83 {ls : List (Option Value)} {h : am_H} {v : Int32} : am_ev 68 83 ls [.int v] h = some (some (.int v), h) := am_u_rtI am_my_68 (by decide +kernel) rfl
theorem e68_84 {ls : List (Option Value)} {st : List Value} {h : am_H} {a : Nat} : am_ev 68 84 (some (.ref a) :: ls) (st) h = am_ev 68 85 (some (.ref a) :: ls) (.ref a :: st) h := am_ev_step (q := (85, some (.ref a) :: ls, .ref a :: st, h)) _ (.aload_n 0) 1 am_my_68 (by decide +kernel) rfl
theorem e68_85 {ls : List (Option Value)} {st : List Value} {h : am_H} {l0 l1 : Option Value} {a : Int32} : am_ev 68 85 (l0 :: l1 :: some (.int a) :: ls) (st) h = am_ev 68 86 (l0 :: l1 :: some (.int a) :: ls) (.int a :: st) h := am_ev_step (q := (86, l0 :: l1 :: some (.int a) :: ls, .int a :: st, h)) _ (.iload_n 2) 1 am_my_68 (by decide +kernel) rfl
theorem e68_86 {ls : List (Option Value)} {st : List Value} {h : am_H} {p0 : Int32} {o : Nat} (hw : am_w8 st ≤ 8) (hk : am_kd h o = some (.inl 3)) : am_ev 68 86 ls (.int p0 :: .ref o :: st) h = am_bd (am_den 53 [.ref o, .int p0] h) (fun v h1 => am_ev 68 89 ls (v.toList ++ st) h1) := am_u_cV (idx := 76) (wn := 3124) (as := [.int p0]) am_my_68 (by decide +kernel) (Or.inl (by decide +kernel)) am_my_53 (by decide +kernel) rfl ⟨Nat.le_of_ble_eq_true rfl, rfl⟩ (by decide +kernel) hw hk
theorem e68_89 {ls : List (Option Value)} {st : List Value} {h : am_H} {a : Int32} : am_ev 68 89 ls (.int a :: st) h = if a = 0 then am_ev 68 96 ls st h else am_ev 68 92 ls st h := am_u_if1 (c := .eq) (off := 7) am_my_68 (by decide +kernel) (by decide)
theorem e68_92 {ls : List (Option Value)} {st : List Value} {h : am_H} : am_ev 68 92 (ls) (st) h = am_ev 68 93 (ls) (.int (1) :: st) h := am_ev_step (q := (93, ls, .int (1) :: st, h)) _ (.iconst (1)) 1 am_my_68 (by decide +kernel) rfl
theorem e68_93 {ls : List (Option Value)} {st : List Value} {h : am_H} : am_ev 68 93 (ls) (st) h = am_ev 68 97 (ls) (st) h := am_ev_step (q := (97, ls, st, h)) _ (.goto (4)) 3 am_my_68 (by decide +kernel) rfl
theorem e68_96 {ls : List (Option Value)} {st : List Value} {h : am_H} : am_ev 68 96 (ls) (st) h = am_ev 68 97 (ls) (.int (0) :: st) h := am_ev_step (q := (97, ls, .int (0) :: st, h)) _ (.iconst (0)) 1 am_my_68 (by decide +kernel) rfl
theorem e68_97 {ls : List (Option Value)} {h : am_H} {v : Int32} : am_ev 68 97 ls [.int v] h = some (some (.int v), h) := am_u_rtI am_my_68 (by decide +kernel) rfl
theorem e200_0 {ls : List (Option Value)} {st : List Value} {h : am_H} {a : Nat} : am_ev 200 0 (some (.ref a) :: ls) (st) h = am_ev 200 1 (some (.ref a) :: ls) (.ref a :: st) h := am_ev_step (q := (1, some (.ref a) :: ls, .ref a :: st, h)) _ (.aload_n 0) 1 am_my_200 (by decide +kernel) rfl
theorem e200_1 {ls : List (Option Value)} {st : List Value} {h : am_H} : am_ev 200 1 (ls) (st) h = am_ev 200 2 (ls) (.int (0) :: st) h := am_ev_step (q := (2, ls, .int (0) :: st, h)) _ (.iconst (0)) 1 am_my_200 (by decide +kernel) rfl
theorem e200_2 {ls : List (Option Value)} {st : List Value} {h : am_H} {o : Nat} {v : Int32} (hk : am_kd h o = some (.inl 11)) : am_ev 200 2 ls (.int v :: .ref o :: st) h = am_ev 200 5 ls st (am_sI h o 0 v) := am_u_pfI (idx := 87) (wn := 5132) am_my_200 (by decide +kernel) (by decide +kernel) (by decide +kernel) (by decide +kernel) hk
theorem e200_5 {ls : List (Option Value)} {st : List Value} {h : am_H} {a : Nat} : am_ev 200 5 (some (.ref a) :: ls) (st) h = am_ev 200 6 (some (.ref a) :: ls) (.ref a :: st) h := am_ev_step (q := (6, some (.ref a) :: ls, .ref a :: st, h)) _ (.aload_n 0) 1 am_my_200 (by decide +kernel) rfl
theorem e200_6 {ls : List (Option Value)} {st : List Value} {h : am_H} {l0 : Option Value} {a : Int32} : am_ev 200 6 (l0 :: some (.int a) :: ls) (st) h = am_ev 200 7 (l0 :: some (.int a) :: ls) (.int a :: st) h := am_ev_step (q := (7, l0 :: some (.int a) :: ls, .int a :: st, h)) _ (.iload_n 1) 1 am_my_200 (by decide +kernel) rfl
theorem e200_7 {ls : List (Option Value)} {st : List Value} {h : am_H} {p0 : Int32} {o : Nat} (hw : am_w8 st ≤ 8) (hk : am_kd h o = some (.inl 11)) : am_ev 200 7 ls (.int p0 :: .ref o :: st) h = am_bd (am_den 201 [.ref o, .int p0] h) (fun v h1 => am_ev 200 10 ls (v.toList ++ st) h1) := am_u_cV (idx := 339) (wn := 6230) (as := [.int p0]) am_my_200 (by decide +kernel) (Or.inl (by decide +kernel)) am_my_201 (by decide +kernel) rfl ⟨Nat.le_of_ble_eq_true rfl, rfl⟩ (by decide +kernel) hw hk
theorem e200_10 {ls : List (Option Value)} {st : List Value} {h : am_H} {a : Int32} : am_ev 200 10 ls (.int a :: st) h = if ¬ a = 0 then am_ev 200 15 ls st h else am_ev 200 13 ls st h := am_u_if1 (c := .ne) (off := 5) am_my_200 (by decide +kernel) (by decide)
theorem e200_13 {ls : List (Option Value)} {st : List Value} {h : am_H} : am_ev 200 13 (ls) (st) h = am_ev 200 14 (ls) (.int (-1) :: st) h := am_ev_step (q := (14, ls, .int (-1) :: st, h)) _ (.iconst (-1)) 1 am_my_200 (by decide +kernel) rfl
theorem e200_14 {ls : List (Option Value)} {h : am_H} {v : Int32} : am_ev 200 14 ls [.int v] h = some (some (.int v), h) := am_u_rtI am_my_200 (by decide +kernel) rfl
theorem e200_15 {ls : List (Option Value)} {st : List Value} {h : am_H} {l0 l1 : Option Value} {a : Int32} : am_ev 200 15 (l0 :: l1 :: some (.int a) :: ls) (st) h = am_ev 200 16 (l0 :: l1 :: some (.int a) :: ls) (.int a :: st) h := am_ev_step (q := (16, l0 :: l1 :: some (.int a) :: ls, .int a :: st, h)) _ (.iload_n 2) 1 am_my_200 (by decide +kernel) rfl
theorem e200_16 {ls : List (Option Value)} {st : List Value} {h : am_H} : am_ev 200 16 (ls) (st) h = am_ev 200 18 (ls) (.int (10) :: st) h := am_ev_step (q := (18, ls, .int (10) :: st, h)) _ (.bipush (10)) 2 am_my_200 (by decide +kernel) rfl
theorem e200_18 {ls : List (Option Value)} {st : List Value} {h : am_H} : am_ev 200 18 (ls) (st) h = am_ev 200 20 (ls) (.int (29) :: st) h := am_ev_step (q := (20, ls, .int (29) :: st, h)) _ (.bipush (29)) 2 am_my_200 (by decide +kernel) rfl
theorem e200_20 {ls : List (Option Value)} {st : List Value} {h : am_H} {p0 : Int32} {p1 : Int32} {p2 : Int32} (hw : am_w8 st ≤ 8) : am_ev 200 20 ls (.int p2 :: .int p1 :: .int p0 :: st) h = am_bd (am_den 168 [.int p0, .int p1, .int p2] h) (fun v h1 => am_ev 200 23 ls (v.toList ++ st) h1) := am_u_cS (idx := 99) (wn := 6085) (as := [.int p0, .int p1, .int p2]) am_my_200 (by decide +kernel) (by decide +kernel) am_my_168 (by decide +kernel) rfl ⟨Nat.le_of_ble_eq_true rfl, rfl⟩ hw
theorem e200_23 {ls : List (Option Value)} {st : List Value} {h : am_H} {a : Int32} : am_ev 200 23 ls (.int a :: st) h = if a = 0 then am_ev 200 69 ls st h else am_ev 200 26 ls st h := am_u_if1 (c := .eq) (off := 46) am_my_200 (by decide +kernel) (by decide)
theorem e200_26 {ls : List (Option Value)} {st : List Value} {h : am_H} {a : Nat} : am_ev 200 26 (some (.ref a) :: ls) (st) h = am_ev 200 27 (some (.ref a) :: ls) (.ref a :: st) h := am_ev_step (q := (27, some (.ref a) :: ls, .ref a :: st, h)) _ (.aload_n 0) 1 am_my_200 (by decide +kernel) rfl
theorem e200_27 {ls : List (Option Value)} {st : List Value} {h : am_H} {l0 l1 : Option Value} {a : Int32} : am_ev 200 27 (l0 :: l1 :: some (.int a) :: ls) (st) h = am_ev 200 28 (l0 :: l1 :: some (.int a) :: ls) (.int a :: st) h := am_ev_step (q := (28, l0 :: l1 :: some (.int a) :: ls, .int a :: st, h)) _ (.iload_n 2) 1 am_my_200 (by decide +kernel) rfl
theorem e200_28 {ls : List (Option Value)} {st : List Value} {h : am_H} : am_ev 200 28 (ls) (st) h = am_ev 200 30 (ls) (.int (10) :: st) h := am_ev_step (q := (30, ls, .int (10) :: st, h)) _ (.bipush (10)) 2 am_my_200 (by decide +kernel) rfl
theorem e200_30 {ls : List (Option Value)} {st : List Value} {h : am_H} {a b : Int32} : am_ev 200 30 ls (.int b :: .int a :: st) h = if b = 0 then none else am_ev 200 31 ls (.int (a - a / b * b) :: st) h := am_u_iz (i := .irem) (f := fun a b => a - a / b * b) am_my_200 (by decide +kernel) (fun _ => rfl)
theorem e200_31 {ls : List (Option Value)} {st : List Value} {h : am_H} {p0 : Int32} {o : Nat} (hw : am_w8 st ≤ 8) (hk : am_kd h o = some (.inl 11)) : am_ev 200 31 ls (.int p0 :: .ref o :: st) h = am_bd (am_den 203 [.ref o, .int p0] h) (fun v h1 => am_ev 200 34 ls (v.toList ++ st) h1) := am_u_cV (idx := 342) (wn := 6238) (as := [.int p0]) am_my_200 (by decide +kernel) (Or.inl (by decide +kernel)) am_my_203 (by decide +kernel) rfl ⟨Nat.le_of_ble_eq_true rfl, rfl⟩ (by decide +kernel) hw hk
theorem e200_34 {ls : List (Option Value)} {st : List Value} {h : am_H} {a : Int32} : am_ev 200 34 ls (.int a :: st) h = if a = 0 then am_ev 200 67 ls st h else am_ev 200 37 ls st h := am_u_if1 (c := .eq) (off := 33) am_my_200 (by decide +kernel) (by decide)
theorem e200_37 {ls : List (Option Value)} {st : List Value} {h : am_H} {l0 l1 : Option Value} {a : Int32} : am_ev 200 37 (l0 :: l1 :: some (.int a) :: ls) (st) h = am_ev 200 38 (l0 :: l1 :: some (.int a) :: ls) (.int a :: st) h := am_ev_step (q := (38, l0 :: l1 :: some (.int a) :: ls, .int a :: st, h)) _ (.iload_n 2) 1 am_my_200 (by decide +kernel) rfl
theorem e200_38 {ls : List (Option Value)} {st : List Value} {h : am_H} : am_ev 200 38 (ls) (st) h = am_ev 200 40 (ls) (.int (20) :: st) h := am_ev_step (q := (40, ls, .int (20) :: st, h)) _ (.bipush (20)) 2 am_my_200 (by decide +kernel) rfl
theorem e200_40 {ls : List (Option Value)} {st : List Value} {h : am_H} {a b : Int32} : am_ev 200 40 ls (.int b :: .int a :: st) h = if b ≤ a then am_ev 200 55 ls st h else am_ev 200 43 ls st h := am_u_if2 (c := .ge) (off := 15) am_my_200 (by decide +kernel) (by decide)
theorem e200_43 {ls : List (Option Value)} {st : List Value} {h : am_H} {a : Nat} : am_ev 200 43 (some (.ref a) :: ls) (st) h = am_ev 200 44 (some (.ref a) :: ls) (.ref a :: st) h := am_ev_step (q := (44, some (.ref a) :: ls, .ref a :: st, h)) _ (.aload_n 0) 1 am_my_200 (by decide +kernel) rfl
theorem e200_44 {ls : List (Option Value)} {st : List Value} {h : am_H} {o : Nat} (hk : am_kd h o = some (.inl 11)) : am_ev 200 44 ls (.ref o :: st) h = am_ev 200 47 ls (va_rf (h.2.2.1 o 35) :: st) h := am_u_gfR (idx := 48) (wn := 5167) (a := 0) am_my_200 (by decide +kernel) (by decide +kernel) (by decide +kernel) hk
theorem e200_47 {ls : List (Option Value)} {st : List Value} {h : am_H} {l0 l1 : Option Value} {a : Int32} : am_ev 200 47 (l0 :: l1 :: some (.int a) :: ls) (st) h = am_ev 200 48 (l0 :: l1 :: some (.int a) :: ls) (.int a :: st) h := am_ev_step (q := (48, l0 :: l1 :: some (.int a) :: ls, .int a :: st, h)) _ (.iload_n 2) 1 am_my_200 (by decide +kernel) rfl
theorem e200_48 {ls : List (Option Value)} {st : List Value} {h : am_H} : am_ev 200 48 (ls) (st) h = am_ev 200 50 (ls) (.int (10) :: st) h := am_ev_step (q := (50, ls, .int (10) :: st, h)) _ (.bipush (10)) 2 am_my_200 (by decide +kernel) rfl
theorem e200_50 {ls : List (Option Value)} {st : List Value} {h : am_H} {a b : Int32} : am_ev 200 50 ls (.int b :: .int a :: st) h = if b = 0 then none else am_ev 200 51 ls (.int (a - a / b * b) :: st) h := am_u_iz (i := .irem) (f := fun a b => a - a / b * b) am_my_200 (by decide +kernel) (fun _ => rfl)
theorem e200_51 {ls : List (Option Value)} {st : List Value} {h : am_H} {i : Int32} {a : Nat} (ht : am_tc h a = some 0) : am_ev 200 51 ls (.int i :: .ref a :: st) h = if am_ix i (am_len h a) = true then am_ev 200 52 ls (.int (h.1 a i.toNatClampNeg) :: st) h else none := am_u_rI am_my_200 (by decide +kernel) ht
theorem e200_52 {ls : List (Option Value)} {st : List Value} {h : am_H} : am_ev 200 52 (ls) (st) h = am_ev 200 68 (ls) (st) h := am_ev_step (q := (68, ls, st, h)) _ (.goto (16)) 3 am_my_200 (by decide +kernel) rfl
theorem e200_55 {ls : List (Option Value)} {st : List Value} {h : am_H} {a : Nat} : am_ev 200 55 (some (.ref a) :: ls) (st) h = am_ev 200 56 (some (.ref a) :: ls) (.ref a :: st) h := am_ev_step (q := (56, some (.ref a) :: ls, .ref a :: st, h)) _ (.aload_n 0) 1 am_my_200 (by decide +kernel) rfl
theorem e200_56 {ls : List (Option Value)} {st : List Value} {h : am_H} {o : Nat} (hk : am_kd h o = some (.inl 11)) : am_ev 200 56 ls (.ref o :: st) h = am_ev 200 59 ls (va_rf (h.2.2.1 o 36) :: st) h := am_u_gfR (idx := 51) (wn := 5168) (a := 0) am_my_200 (by decide +kernel) (by decide +kernel) (by decide +kernel) hk
theorem e200_59 {ls : List (Option Value)} {st : List Value} {h : am_H} {l0 l1 : Option Value} {a : Int32} : am_ev 200 59 (l0 :: l1 :: some (.int a) :: ls) (st) h = am_ev 200 60 (l0 :: l1 :: some (.int a) :: ls) (.int a :: st) h := am_ev_step (q := (60, l0 :: l1 :: some (.int a) :: ls, .int a :: st, h)) _ (.iload_n 2) 1 am_my_200 (by decide +kernel) rfl
theorem e200_60 {ls : List (Option Value)} {st : List Value} {h : am_H} : am_ev 200 60 (ls) (st) h = am_ev 200 62 (ls) (.int (10) :: st) h := am_ev_step (q := (62, ls, .int (10) :: st, h)) _ (.bipush (10)) 2 am_my_200 (by decide +kernel) rfl
theorem e200_62 {ls : List (Option Value)} {st : List Value} {h : am_H} {a b : Int32} : am_ev 200 62 ls (.int b :: .int a :: st) h = if b = 0 then none else am_ev 200 63 ls (.int (a - a / b * b) :: st) h := am_u_iz (i := .irem) (f := fun a b => a - a / b * b) am_my_200 (by decide +kernel) (fun _ => rfl)
theorem e200_63 {ls : List (Option Value)} {st : List Value} {h : am_H} {i : Int32} {a : Nat} (ht : am_tc h a = some 0) : am_ev 200 63 ls (.int i :: .ref a :: st) h = if am_ix i (am_len h a) = true then am_ev 200 64 ls (.int (h.1 a i.toNatClampNeg) :: st) h else none := am_u_rI am_my_200 (by decide +kernel) ht
theorem e200_64 {ls : List (Option Value)} {st : List Value} {h : am_H} : am_ev 200 64 (ls) (st) h = am_ev 200 68 (ls) (st) h := am_ev_step (q := (68, ls, st, h)) _ (.goto (4)) 3 am_my_200 (by decide +kernel) rfl
theorem e200_67 {ls : List (Option Value)} {st : List Value} {h : am_H} : am_ev 200 67 (ls) (st) h = am_ev 200 68 (ls) (.int (-1) :: st) h := am_ev_step (q := (68, ls, .int (-1) :: st, h)) _ (.iconst (-1)) 1 am_my_200 (by decide +kernel) rfl
theorem e200_68 {ls : List (Option Value)} {h : am_H} {v : Int32} : am_ev 200 68 ls [.int v] h = some (some (.int v), h) := am_u_rtI am_my_200 (by decide +kernel) rfl
theorem e200_69 {ls : List (Option Value)} {st : List Value} {h : am_H} {l0 l1 : Option Value} {a : Int32} : am_ev 200 69 (l0 :: l1 :: some (.int a) :: ls) (st) h = am_ev 200 70 (l0 :: l1 :: some (.int a) :: ls) (.int a :: st) h := am_ev_step (q := (70, l0 :: l1 :: some (.int a) :: ls, .int a :: st, h)) _ (.iload_n 2) 1 am_my_200 (by decide +kernel) rfl
theorem e200_70 {ls : List (Option Value)} {st : List Value} {h : am_H} : am_ev 200 70 (ls) (st) h = am_ev 200 72 (ls) (.int (100) :: st) h := am_ev_step (q := (72, ls, .int (100) :: st, h)) _ (.bipush (100)) 2 am_my_200 (by decide +kernel) rfl
theorem e200_72 {ls : List (Option Value)} {st : List Value} {h : am_H} {a b : Int32} : am_ev 200 72 ls (.int b :: .int a :: st) h = if a < b then am_ev 200 108 ls st h else am_ev 200 75 ls st h := am_u_if2 (c := .lt) (off := 36) am_my_200 (by decide +kernel) (by decide)
theorem e200_75 {ls : List (Option Value)} {st : List Value} {h : am_H} {l0 l1 : Option Value} {a : Int32} : am_ev 200 75 (l0 :: l1 :: some (.int a) :: ls) (st) h = am_ev 200 76 (l0 :: l1 :: some (.int a) :: ls) (.int a :: st) h := am_ev_step (q := (76, l0 :: l1 :: some (.int a) :: ls, .int a :: st, h)) _ (.iload_n 2) 1 am_my_200 (by decide +kernel) rfl
theorem e200_76 {ls : List (Option Value)} {st : List Value} {h : am_H} : am_ev 200 76 (ls) (st) h = am_ev 200 78 (ls) (.int (100) :: st) h := am_ev_step (q := (78, ls, .int (100) :: st, h)) _ (.bipush (100)) 2 am_my_200 (by decide +kernel) rfl
theorem e200_78 {ls : List (Option Value)} {st : List Value} {h : am_H} {a b : Int32} : am_ev 200 78 (ls) (.int b :: .int a :: st) h = am_ev 200 79 (ls) (.int (a - b) :: st) h := am_ev_step (q := (79, ls, .int (a - b) :: st, h)) _ (.isub) 1 am_my_200 (by decide +kernel) rfl
theorem e200_79 {ls : List (Option Value)} {st : List Value} {h : am_H} {a : Nat} : am_ev 200 79 (some (.ref a) :: ls) (st) h = am_ev 200 80 (some (.ref a) :: ls) (.ref a :: st) h := am_ev_step (q := (80, some (.ref a) :: ls, .ref a :: st, h)) _ (.aload_n 0) 1 am_my_200 (by decide +kernel) rfl
theorem e200_80 {ls : List (Option Value)} {st : List Value} {h : am_H} {o : Nat} (hk : am_kd h o = some (.inl 11)) : am_ev 200 80 ls (.ref o :: st) h = am_ev 200 83 ls (.int (h.1 o 26) :: st) h := am_u_gfI (idx := 288) (wn := 5158) am_my_200 (by decide +kernel) (by decide +kernel) (by decide +kernel) hk
theorem e200_83 {ls : List (Option Value)} {st : List Value} {h : am_H} {a b : Int32} : am_ev 200 83 ls (.int b :: .int a :: st) h = if a < b then am_ev 200 90 ls st h else am_ev 200 86 ls st h := am_u_if2 (c := .lt) (off := 7) am_my_200 (by decide +kernel) (by decide)
theorem e200_86 {ls : List (Option Value)} {st : List Value} {h : am_H} : am_ev 200 86 (ls) (st) h = am_ev 200 87 (ls) (.int (-1) :: st) h := am_ev_step (q := (87, ls, .int (-1) :: st, h)) _ (.iconst (-1)) 1 am_my_200 (by decide +kernel) rfl
theorem e200_87 {ls : List (Option Value)} {st : List Value} {h : am_H} : am_ev 200 87 (ls) (st) h = am_ev 200 107 (ls) (st) h := am_ev_step (q := (107, ls, st, h)) _ (.goto (20)) 3 am_my_200 (by decide +kernel) rfl
theorem e200_90 {ls : List (Option Value)} {st : List Value} {h : am_H} {a : Nat} : am_ev 200 90 (some (.ref a) :: ls) (st) h = am_ev 200 91 (some (.ref a) :: ls) (.ref a :: st) h := am_ev_step (q := (91, some (.ref a) :: ls, .ref a :: st, h)) _ (.aload_n 0) 1 am_my_200 (by decide +kernel) rfl
theorem e200_91 {ls : List (Option Value)} {st : List Value} {h : am_H} {o : Nat} (hk : am_kd h o = some (.inl 11)) : am_ev 200 91 ls (.ref o :: st) h = am_ev 200 94 ls (va_rf (h.2.2.1 o 34) :: st) h := am_u_gfR (idx := 44) (wn := 5166) (a := 0) am_my_200 (by decide +kernel) (by decide +kernel) (by decide +kernel) hk
theorem e200_94 {ls : List (Option Value)} {st : List Value} {h : am_H} {l0 l1 : Option Value} {a : Int32} : am_ev 200 94 (l0 :: l1 :: some (.int a) :: ls) (st) h = am_ev 200 95 (l0 :: l1 :: some (.int a) :: ls) (.int a :: st) h := am_ev_step (q := (95, l0 :: l1 :: some (.int a) :: ls, .int a :: st, h)) _ (.iload_n 2) 1 am_my_200 (by decide +kernel) rfl
theorem e200_95 {ls : List (Option Value)} {st : List Value} {h : am_H} : am_ev 200 95 (ls) (st) h = am_ev 200 97 (ls) (.int (100) :: st) h := am_ev_step (q := (97, ls, .int (100) :: st, h)) _ (.bipush (100)) 2 am_my_200 (by decide +kernel) rfl
theorem e200_97 {ls : List (Option Value)} {st : List Value} {h : am_H} {a b : Int32} : am_ev 200 97 (ls) (.int b :: .int a :: st) h = am_ev 200 98 (ls) (.int (a - b) :: st) h := am_ev_step (q := (98, ls, .int (a - b) :: st, h)) _ (.isub) 1 am_my_200 (by decide +kernel) rfl
theorem e200_98 {ls : List (Option Value)} {st : List Value} {h : am_H} {i : Int32} {a : Nat} (ht : am_tc h a = some 1) : am_ev 200 98 ls (.int i :: .ref a :: st) h = if am_ix i (am_len h a) = true then am_ev 200 99 ls (.int (am_byte (h.1 a i.toNatClampNeg)) :: st) h else none := am_u_rB am_my_200 (by decide +kernel) ht
theorem e200_98z {ls : List (Option Value)} {st : List Value} {h : am_H} {i : Int32} {a : Nat} (ht : am_tc h a = some 2) : am_ev 200 98 ls (.int i :: .ref a :: st) h = if am_ix i (am_len h a) = true then am_ev 200 99 ls (.int (h.1 a i.toNatClampNeg) :: st) h else none := am_u_rZ am_my_200 (by decide +kernel) ht
theorem e200_99 {ls : List (Option Value)} {st : List Value} {h : am_H} {a : Int32} : am_ev 200 99 ls (.int a :: st) h = if a = 0 then am_ev 200 106 ls st h else am_ev 200 102 ls st h := am_u_if1 (c := .eq) (off := 7) am_my_200 (by decide +kernel) (by decide)
theorem e200_102 {ls : List (Option Value)} {st : List Value} {h : am_H} : am_ev 200 102 (ls) (st) h = am_ev 200 103 (ls) (.int (1) :: st) h := am_ev_step (q := (103, ls, .int (1) :: st, h)) _ (.iconst (1)) 1 am_my_200 (by decide +kernel) rfl
theorem e200_103 {ls : List (Option Value)} {st : List Value} {h : am_H} : am_ev 200 103 (ls) (st) h = am_ev 200 107 (ls) (st) h := am_ev_step (q := (107, ls, st, h)) _ (.goto (4)) 3 am_my_200 (by decide +kernel) rfl
theorem e200_106 {ls : List (Option Value)} {st : List Value} {h : am_H} : am_ev 200 106 (ls) (st) h = am_ev 200 107 (ls) (.int (0) :: st) h := am_ev_step (q := (107, ls, .int (0) :: st, h)) _ (.iconst (0)) 1 am_my_200 (by decide +kernel) rfl
theorem e200_107 {ls : List (Option Value)} {h : am_H} {v : Int32} : am_ev 200 107 ls [.int v] h = some (some (.int v), h) := am_u_rtI am_my_200 (by decide +kernel) rfl
theorem e200_108 {ls : List (Option Value)} {st : List Value} {h : am_H} {l0 l1 : Option Value} {a : Int32} : am_ev 200 108 (l0 :: l1 :: some (.int a) :: ls) (st) h = am_ev 200 109 (l0 :: l1 :: some (.int a) :: ls) (.int a :: st) h := am_ev_step (q := (109, l0 :: l1 :: some (.int a) :: ls, .int a :: st, h)) _ (.iload_n 2) 1 am_my_200 (by decide +kernel) rfl
theorem e200_109 {ls : List (Option Value)} {st : List Value} {h : am_H} {a : Int32} : am_ev 200 109 ls (.int a :: st) h = if a = 0 then am_ev 200 148 ls st h else if a = 1 then am_ev 200 148 ls st h else if a = 2 then am_ev 200 154 ls st h else if a = 3 then am_ev 200 159 ls st h else if a = 4 then am_ev 200 164 ls st h else if a = 5 then am_ev 200 169 ls st h else am_ev 200 174 ls st h := by
  by_cases c0 : a = 0
  · subst c0
    exact am_ev_step (q := (148, ls, st, h)) _ (.tableswitch (65) (0) (5) #[39, 39, 45, 50, 55, 60]) 39 am_my_200 (by decide +kernel) rfl
  rw [if_neg c0]
  by_cases c1 : a = 1
  · subst c1
    exact am_ev_step (q := (148, ls, st, h)) _ (.tableswitch (65) (0) (5) #[39, 39, 45, 50, 55, 60]) 39 am_my_200 (by decide +kernel) rfl
  rw [if_neg c1]
  by_cases c2 : a = 2
  · subst c2
    exact am_ev_step (q := (154, ls, st, h)) _ (.tableswitch (65) (0) (5) #[39, 39, 45, 50, 55, 60]) 39 am_my_200 (by decide +kernel) rfl
  rw [if_neg c2]
  by_cases c3 : a = 3
  · subst c3
    exact am_ev_step (q := (159, ls, st, h)) _ (.tableswitch (65) (0) (5) #[39, 39, 45, 50, 55, 60]) 39 am_my_200 (by decide +kernel) rfl
  rw [if_neg c3]
  by_cases c4 : a = 4
  · subst c4
    exact am_ev_step (q := (164, ls, st, h)) _ (.tableswitch (65) (0) (5) #[39, 39, 45, 50, 55, 60]) 39 am_my_200 (by decide +kernel) rfl
  rw [if_neg c4]
  by_cases c5 : a = 5
  · subst c5
    exact am_ev_step (q := (169, ls, st, h)) _ (.tableswitch (65) (0) (5) #[39, 39, 45, 50, 55, 60]) 39 am_my_200 (by decide +kernel) rfl
  rw [if_neg c5]
  have t0 : a.toInt ≠ 0 := fun q => c0 (Int32.toInt_inj.mp q)
  have t1 : a.toInt ≠ 1 := fun q => c1 (Int32.toInt_inj.mp q)
  have t2 : a.toInt ≠ 2 := fun q => c2 (Int32.toInt_inj.mp q)
  have t3 : a.toInt ≠ 3 := fun q => c3 (Int32.toInt_inj.mp q)
  have t4 : a.toInt ≠ 4 := fun q => c4 (Int32.toInt_inj.mp q)
  have t5 : a.toInt ≠ 5 := fun q => c5 (Int32.toInt_inj.mp q)
  refine am_ev_step (q := (174, ls, st, h)) _ (.tableswitch (65) (0) (5) #[39, 39, 45, 50, 55, 60]) 39 am_my_200 (by decide +kernel) ?_
  show am_sw (65) (0) (5) #[39, 39, 45, 50, 55, 60] 109 ls (.int a :: st) h = _
  unfold am_sw
  dsimp only
  rw [if_pos (by omega)]
  rfl
theorem e200_148 {ls : List (Option Value)} {st : List Value} {h : am_H} {a : Nat} : am_ev 200 148 (some (.ref a) :: ls) (st) h = am_ev 200 149 (some (.ref a) :: ls) (.ref a :: st) h := am_ev_step (q := (149, some (.ref a) :: ls, .ref a :: st, h)) _ (.aload_n 0) 1 am_my_200 (by decide +kernel) rfl
theorem e200_149 {ls : List (Option Value)} {st : List Value} {h : am_H} {l0 l1 : Option Value} {a : Int32} : am_ev 200 149 (l0 :: l1 :: some (.int a) :: ls) (st) h = am_ev 200 150 (l0 :: l1 :: some (.int a) :: ls) (.int a :: st) h := am_ev_step (q := (150, l0 :: l1 :: some (.int a) :: ls, .int a :: st, h)) _ (.iload_n 2) 1 am_my_200 (by decide +kernel) rfl
theorem e200_150 {ls : List (Option Value)} {st : List Value} {h : am_H} {p0 : Int32} {o : Nat} (hw : am_w8 st ≤ 8) (hk : am_kd h o = some (.inl 11)) : am_ev 200 150 ls (.int p0 :: .ref o :: st) h = am_bd (am_den 202 [.ref o, .int p0] h) (fun v h1 => am_ev 200 153 ls (v.toList ++ st) h1) := am_u_cV (idx := 281) (wn := 6234) (as := [.int p0]) am_my_200 (by decide +kernel) (Or.inl (by decide +kernel)) am_my_202 (by decide +kernel) rfl ⟨Nat.le_of_ble_eq_true rfl, rfl⟩ (by decide +kernel) hw hk
theorem e200_153 {ls : List (Option Value)} {h : am_H} {v : Int32} : am_ev 200 153 ls [.int v] h = some (some (.int v), h) := am_u_rtI am_my_200 (by decide +kernel) rfl
theorem e200_154 {ls : List (Option Value)} {st : List Value} {h : am_H} {a : Nat} : am_ev 200 154 (some (.ref a) :: ls) (st) h = am_ev 200 155 (some (.ref a) :: ls) (.ref a :: st) h := am_ev_step (q := (155, some (.ref a) :: ls, .ref a :: st, h)) _ (.aload_n 0) 1 am_my_200 (by decide +kernel) rfl
theorem e200_155 {ls : List (Option Value)} {st : List Value} {h : am_H} {o : Nat} (hk : am_kd h o = some (.inl 11)) : am_ev 200 155 ls (.ref o :: st) h = am_ev 200 158 ls (.int (h.1 o 27) :: st) h := am_u_gfI (idx := 291) (wn := 5159) am_my_200 (by decide +kernel) (by decide +kernel) (by decide +kernel) hk
theorem e200_158 {ls : List (Option Value)} {h : am_H} {v : Int32} : am_ev 200 158 ls [.int v] h = some (some (.int v), h) := am_u_rtI am_my_200 (by decide +kernel) rfl
theorem e200_159 {ls : List (Option Value)} {st : List Value} {h : am_H} {a : Nat} : am_ev 200 159 (some (.ref a) :: ls) (st) h = am_ev 200 160 (some (.ref a) :: ls) (.ref a :: st) h := am_ev_step (q := (160, some (.ref a) :: ls, .ref a :: st, h)) _ (.aload_n 0) 1 am_my_200 (by decide +kernel) rfl
theorem e200_160 {ls : List (Option Value)} {st : List Value} {h : am_H} {o : Nat} (hk : am_kd h o = some (.inl 11)) : am_ev 200 160 ls (.ref o :: st) h = am_ev 200 163 ls (.int (h.1 o 28) :: st) h := am_u_gfI (idx := 294) (wn := 5160) am_my_200 (by decide +kernel) (by decide +kernel) (by decide +kernel) hk
theorem e200_163 {ls : List (Option Value)} {h : am_H} {v : Int32} : am_ev 200 163 ls [.int v] h = some (some (.int v), h) := am_u_rtI am_my_200 (by decide +kernel) rfl
theorem e200_164 {ls : List (Option Value)} {st : List Value} {h : am_H} {a : Nat} : am_ev 200 164 (some (.ref a) :: ls) (st) h = am_ev 200 165 (some (.ref a) :: ls) (.ref a :: st) h := am_ev_step (q := (165, some (.ref a) :: ls, .ref a :: st, h)) _ (.aload_n 0) 1 am_my_200 (by decide +kernel) rfl
theorem e200_165 {ls : List (Option Value)} {st : List Value} {h : am_H} {o : Nat} (hk : am_kd h o = some (.inl 11)) : am_ev 200 165 ls (.ref o :: st) h = am_ev 200 168 ls (.int (h.1 o 29) :: st) h := am_u_gfI (idx := 297) (wn := 5161) am_my_200 (by decide +kernel) (by decide +kernel) (by decide +kernel) hk
theorem e200_168 {ls : List (Option Value)} {h : am_H} {v : Int32} : am_ev 200 168 ls [.int v] h = some (some (.int v), h) := am_u_rtI am_my_200 (by decide +kernel) rfl
theorem e200_169 {ls : List (Option Value)} {st : List Value} {h : am_H} {a : Nat} : am_ev 200 169 (some (.ref a) :: ls) (st) h = am_ev 200 170 (some (.ref a) :: ls) (.ref a :: st) h := am_ev_step (q := (170, some (.ref a) :: ls, .ref a :: st, h)) _ (.aload_n 0) 1 am_my_200 (by decide +kernel) rfl
theorem e200_170 {ls : List (Option Value)} {st : List Value} {h : am_H} {o : Nat} (hk : am_kd h o = some (.inl 11)) : am_ev 200 170 ls (.ref o :: st) h = am_ev 200 173 ls (.int (h.1 o 30) :: st) h := am_u_gfI (idx := 300) (wn := 5162) am_my_200 (by decide +kernel) (by decide +kernel) (by decide +kernel) hk
theorem e200_173 {ls : List (Option Value)} {h : am_H} {v : Int32} : am_ev 200 173 ls [.int v] h = some (some (.int v), h) := am_u_rtI am_my_200 (by decide +kernel) rfl
theorem e200_174 {ls : List (Option Value)} {st : List Value} {h : am_H} : am_ev 200 174 (ls) (st) h = am_ev 200 175 (ls) (.int (-1) :: st) h := am_ev_step (q := (175, ls, .int (-1) :: st, h)) _ (.iconst (-1)) 1 am_my_200 (by decide +kernel) rfl
theorem e200_175 {ls : List (Option Value)} {h : am_H} {v : Int32} : am_ev 200 175 ls [.int v] h = some (some (.int v), h) := am_u_rtI am_my_200 (by decide +kernel) rfl
def F_ansN (f : q_Fl) (w : Nat) : Int32 := if w = 0 then nI (F_w f) else if w = 1 then nI (F_h f) else if w = 2 then nI (q_nm f (F_pen f)) else if w = 3 then nI (q_nm f (F_dog f)) else if w = 4 then nI (F_eye f) else if w = 5 then nI (F_n f) else if 10 ≤ w ∧ w < 10 + F_n f then nI (F_kind f (w - 10)) else if 20 ≤ w ∧ w < 20 + F_n f then nI (q_nm f (F_cell f (w - 20))) else if 100 ≤ w ∧ w < 100 + F_w f * F_h f then q_bi (F_wall f (q_cell (F_w f) (w - 100))) else -1
def F_ans (f : q_Fl) (w : Int32) : Int32 := if w < 0 then -1 else F_ansN f w.toNatClampNeg
theorem den_cellOf (h : am_H) (o : Nat) (f : q_Fl) (cf : q_cf h o f) (wf : F_wf f) (m : Nat) (hm : m < 2 ^ 31) : am_den 69 [.ref o, .int (nI m)] h = some (some (.int (if m < F_w f * F_h f then nI (q_cell (F_w f) m) else -1)), h) := by
  obtain ⟨fo, c0, c1, -⟩ := cf
  have c64 := wf.c64
  obtain ⟨⟨w1, w2⟩, ⟨h1, h2⟩, -⟩ := wf
  have l1 : ¬ nI (F_w f) < 1 := fun t => by have := (nI_ltI (b := 1) (by omega) (by decide)).mp t; omega
  have l2 : ¬ nI m < 0 := nI_pos (by omega)
  have l3 : nI m < nI (F_w f * F_h f) ↔ m < F_w f * F_h f := nI_ltI (by omega) (by omega)
  have d1 : nI m / nI (F_w f) = nI (m / F_w f) := pk_div hm (by omega) (by omega)
  have d2 := pk_rem (a := m) (d := F_w f) hm (by omega) (by omega)
  rw [d1] at d2
  have d3 : ¬ nI (F_w f) = 0 := nI_ne0 (by omega) (by omega)
  have mm : nI (F_w f) * nI (F_h f) = nI (F_w f * F_h f) := pk_mul _ _
  show am_ev 69 0 [some (.ref o), some (.int (nI m))] [] h = _
  simp only [e69_0, e69_1, e69_4, e69_5, e69_8, e69_9, e69_12, e69_13, e69_14, e69_17, e69_18, e69_21, e69_22, e69_25, e69_26, e69_27, e69_29, e69_30, e69_31, e69_34, e69_35, e69_36, e69_37, e69_38, e69_41, e69_42, e69_43, am_bd_some, Option.toList_some, Option.toList_none, List.cons_append, List.nil_append, am_w8_0, am_w8_1, am_w8_2, am_w8_3, am_w8_4, eq_self, or_true, true_or, am_kd_sI, am_kd_sL, am_kd_sR, am_tc_sI, am_tc_sL, am_tc_sR, am_len_sI, am_len_sL, am_len_sR, am_rfs, if_true, if_false, am_rdL_sI, am_rR_sL, am_rt_cq, am_kd_cq, am_tc_cq, am_len_cq, am_rd_sL, am_rd_sR, am_rdL_sR, fo.1, c0, c1, l1, l2, mm, l3, d1, d2, d3, q_81, q_cell]
  by_cases c : m < F_w f * F_h f
  · simp [c]
  · simp [c]
theorem den_cfans (h : am_H) (o : Nat) (f : q_Fl) (cF : q_cF h o f) (fk : F_ok f) (w : Int32) : am_den 66 [.ref o, .int w] h = some (some (.int (F_ans f w)), h) := by
  have wf := fk.wf
  have n6 := wf.2.2.2.1
  have c64 := wf.c64
  have cf := cF.1
  obtain ⟨⟨fo, c0, c1, c2, c4, c5, c6, c7⟩, c3, cc⟩ := cF
  have pv : F_pv f = nI (F_pen f) := if_pos fk.2.2.1.1
  rw [pv] at c2
  have dpn := den_numberOf h o f cf (F_pen f) fk.2.2.1.1
  have ddn := den_numberOf h o f cf (F_dog f) fk.2.2.2.1.1
  have one : ∀ w : Int32, am_den 68 [.ref o, .int w] h = am_ev 68 0 [some (.ref o), some (.int w), none] [] h := fun _ => rfl
  show am_ev 66 0 [some (.ref o), some (.int w)] [] h = _
  unfold F_ans
  by_cases c : w < 0
  · rw [if_pos c]
    have m0 : ¬ w = 0 := fun t => by rw [t] at c; exact absurd c (by decide)
    have m1 : ¬ w = 1 := fun t => by rw [t] at c; exact absurd c (by decide)
    have m2 : ¬ w = 2 := fun t => by rw [t] at c; exact absurd c (by decide)
    have m3 : ¬ w = 3 := fun t => by rw [t] at c; exact absurd c (by decide)
    have m4 : ¬ w = 4 := fun t => by rw [t] at c; exact absurd c (by decide)
    have m5 : ¬ w = 5 := fun t => by rw [t] at c; exact absurd c (by decide)
    have l10 : w < 10 := Int32.lt_trans c (by decide)
    have l20 : w < 20 := Int32.lt_trans c (by decide)
    have l100 : w < 100 := Int32.lt_trans c (by decide)
    simp only [e66_0, e66_1, e66_40, e66_41, e66_44, e66_45, e66_46, e66_49, e66_50, e66_51, e66_52, e66_55, e66_58, e66_59, e66_60, e66_61, e66_64, e66_67, e66_68, e66_69, e66_72, e66_73, e66_74, e66_77, e66_78, e66_79, e66_80, e66_83, e68_0, e68_1, e68_3, e68_6, e68_7, e68_9, e68_10, e68_13, e68_14, e68_17, e68_18, e68_21, e68_22, e68_24, e68_25, e68_26, e68_27, e68_28, e68_30, e68_33, e68_34, e68_36, e68_37, e68_40, e68_41, e68_44, e68_45, e68_46, e68_49, e68_50, e68_52, e68_53, e68_54, e68_57, e68_58, e68_59, e68_61, e68_64, e68_65, e68_66, e68_68, e68_69, e68_72, e68_75, e68_76, e68_77, e68_78, e68_79, e68_82, e68_83, e68_84, e68_85, e68_86, e68_89, e68_92, e68_93, e68_96, e68_97, am_bd_some, Option.toList_some, Option.toList_none, List.cons_append, List.nil_append, am_w8_0, am_w8_1, am_w8_2, am_w8_3, am_w8_4, eq_self, or_true, true_or, am_kd_sI, am_kd_sL, am_kd_sR, am_tc_sI, am_tc_sL, am_tc_sR, am_len_sI, am_len_sL, am_len_sR, am_rfs, if_true, if_false, am_rdL_sI, am_rR_sL, am_rt_cq, am_kd_cq, am_tc_cq, am_len_cq, am_rd_sL, am_rd_sR, am_rdL_sR, fo.1, m0, m1, m2, m3, m4, m5, one, l10, l20, l100, not_true]
  · rw [if_neg c]
    obtain ⟨w, hw, rfl⟩ := nI_of c
    have z : (nI w).toNatClampNeg = w := nI_clamp hw
    rw [z]
    have q0 : nI w = 0 ↔ w = 0 := nI_eq (b := 0) hw (by decide)
    have q1 : nI w = 1 ↔ w = 1 := nI_eq (b := 1) hw (by decide)
    have q2 : nI w = 2 ↔ w = 2 := nI_eq (b := 2) hw (by decide)
    have q3 : nI w = 3 ↔ w = 3 := nI_eq (b := 3) hw (by decide)
    have q4 : nI w = 4 ↔ w = 4 := nI_eq (b := 4) hw (by decide)
    have q5 : nI w = 5 ↔ w = 5 := nI_eq (b := 5) hw (by decide)
    have l10 : nI w < 10 ↔ w < 10 := nI_ltI (b := 10) hw (by decide)
    have l20 : nI w < 20 ↔ w < 20 := nI_ltI (b := 20) hw (by decide)
    have l100 : nI w < 100 ↔ w < 100 := nI_ltI (b := 100) hw (by decide)
    have a10 : (10 : Int32) + nI (F_n f) = nI (10 + F_n f) := nI_add 10 _
    have a20 : (20 : Int32) + nI (F_n f) = nI (20 + F_n f) := nI_add 20 _
    have g10 : nI (10 + F_n f) ≤ nI w ↔ 10 + F_n f ≤ w := nI_leI (by omega) hw
    have g20 : nI (20 + F_n f) ≤ nI w ↔ 20 + F_n f ≤ w := nI_leI (by omega) hw
    by_cases w0 : w = 0
    · simp only [e66_0, e66_1, e66_40, e66_41, e66_44, e66_45, e66_46, e66_49, e66_50, e66_51, e66_52, e66_55, e66_58, e66_59, e66_60, e66_61, e66_64, e66_67, e66_68, e66_69, e66_72, e66_73, e66_74, e66_77, e66_78, e66_79, e66_80, e66_83, e68_0, e68_1, e68_3, e68_6, e68_7, e68_9, e68_10, e68_13, e68_14, e68_17, e68_18, e68_21, e68_22, e68_24, e68_25, e68_26, e68_27, e68_28, e68_30, e68_33, e68_34, e68_36, e68_37, e68_40, e68_41, e68_44, e68_45, e68_46, e68_49, e68_50, e68_52, e68_53, e68_54, e68_57, e68_58, e68_59, e68_61, e68_64, e68_65, e68_66, e68_68, e68_69, e68_72, e68_75, e68_76, e68_77, e68_78, e68_79, e68_82, e68_83, e68_84, e68_85, e68_86, e68_89, e68_92, e68_93, e68_96, e68_97, am_bd_some, Option.toList_some, Option.toList_none, List.cons_append, List.nil_append, am_w8_0, am_w8_1, am_w8_2, am_w8_3, am_w8_4, eq_self, or_true, true_or, am_kd_sI, am_kd_sL, am_kd_sR, am_tc_sI, am_tc_sL, am_tc_sR, am_len_sI, am_len_sL, am_len_sR, am_rfs, if_true, if_false, am_rdL_sI, am_rR_sL, am_rt_cq, am_kd_cq, am_tc_cq, am_len_cq, am_rd_sL, am_rd_sR, am_rdL_sR, fo.1, c0, c1, c2, c3, c4, c5, dpn, ddn, one, q0, q1, q2, q3, q4, q5, l10, l20, l100, a10, a20, g10, g20, eq_true w0, F_ansN]
    by_cases w1 : w = 1
    · simp only [e66_0, e66_1, e66_40, e66_41, e66_44, e66_45, e66_46, e66_49, e66_50, e66_51, e66_52, e66_55, e66_58, e66_59, e66_60, e66_61, e66_64, e66_67, e66_68, e66_69, e66_72, e66_73, e66_74, e66_77, e66_78, e66_79, e66_80, e66_83, e68_0, e68_1, e68_3, e68_6, e68_7, e68_9, e68_10, e68_13, e68_14, e68_17, e68_18, e68_21, e68_22, e68_24, e68_25, e68_26, e68_27, e68_28, e68_30, e68_33, e68_34, e68_36, e68_37, e68_40, e68_41, e68_44, e68_45, e68_46, e68_49, e68_50, e68_52, e68_53, e68_54, e68_57, e68_58, e68_59, e68_61, e68_64, e68_65, e68_66, e68_68, e68_69, e68_72, e68_75, e68_76, e68_77, e68_78, e68_79, e68_82, e68_83, e68_84, e68_85, e68_86, e68_89, e68_92, e68_93, e68_96, e68_97, am_bd_some, Option.toList_some, Option.toList_none, List.cons_append, List.nil_append, am_w8_0, am_w8_1, am_w8_2, am_w8_3, am_w8_4, eq_self, or_true, true_or, am_kd_sI, am_kd_sL, am_kd_sR, am_tc_sI, am_tc_sL, am_tc_sR, am_len_sI, am_len_sL, am_len_sR, am_rfs, if_true, if_false, am_rdL_sI, am_rR_sL, am_rt_cq, am_kd_cq, am_tc_cq, am_len_cq, am_rd_sL, am_rd_sR, am_rdL_sR, fo.1, c0, c1, c2, c3, c4, c5, dpn, ddn, one, q0, q1, q2, q3, q4, q5, l10, l20, l100, a10, a20, g10, g20, w0, eq_true w1, F_ansN]
    by_cases w2 : w = 2
    · simp only [e66_0, e66_1, e66_40, e66_41, e66_44, e66_45, e66_46, e66_49, e66_50, e66_51, e66_52, e66_55, e66_58, e66_59, e66_60, e66_61, e66_64, e66_67, e66_68, e66_69, e66_72, e66_73, e66_74, e66_77, e66_78, e66_79, e66_80, e66_83, e68_0, e68_1, e68_3, e68_6, e68_7, e68_9, e68_10, e68_13, e68_14, e68_17, e68_18, e68_21, e68_22, e68_24, e68_25, e68_26, e68_27, e68_28, e68_30, e68_33, e68_34, e68_36, e68_37, e68_40, e68_41, e68_44, e68_45, e68_46, e68_49, e68_50, e68_52, e68_53, e68_54, e68_57, e68_58, e68_59, e68_61, e68_64, e68_65, e68_66, e68_68, e68_69, e68_72, e68_75, e68_76, e68_77, e68_78, e68_79, e68_82, e68_83, e68_84, e68_85, e68_86, e68_89, e68_92, e68_93, e68_96, e68_97, am_bd_some, Option.toList_some, Option.toList_none, List.cons_append, List.nil_append, am_w8_0, am_w8_1, am_w8_2, am_w8_3, am_w8_4, eq_self, or_true, true_or, am_kd_sI, am_kd_sL, am_kd_sR, am_tc_sI, am_tc_sL, am_tc_sR, am_len_sI, am_len_sL, am_len_sR, am_rfs, if_true, if_false, am_rdL_sI, am_rR_sL, am_rt_cq, am_kd_cq, am_tc_cq, am_len_cq, am_rd_sL, am_rd_sR, am_rdL_sR, fo.1, c0, c1, c2, c3, c4, c5, dpn, ddn, one, q0, q1, q2, q3, q4, q5, l10, l20, l100, a10, a20, g10, g20, w0, w1, eq_true w2, F_ansN]
    by_cases w3 : w = 3
    · simp only [e66_0, e66_1, e66_40, e66_41, e66_44, e66_45, e66_46, e66_49, e66_50, e66_51, e66_52, e66_55, e66_58, e66_59, e66_60, e66_61, e66_64, e66_67, e66_68, e66_69, e66_72, e66_73, e66_74, e66_77, e66_78, e66_79, e66_80, e66_83, e68_0, e68_1, e68_3, e68_6, e68_7, e68_9, e68_10, e68_13, e68_14, e68_17, e68_18, e68_21, e68_22, e68_24, e68_25, e68_26, e68_27, e68_28, e68_30, e68_33, e68_34, e68_36, e68_37, e68_40, e68_41, e68_44, e68_45, e68_46, e68_49, e68_50, e68_52, e68_53, e68_54, e68_57, e68_58, e68_59, e68_61, e68_64, e68_65, e68_66, e68_68, e68_69, e68_72, e68_75, e68_76, e68_77, e68_78, e68_79, e68_82, e68_83, e68_84, e68_85, e68_86, e68_89, e68_92, e68_93, e68_96, e68_97, am_bd_some, Option.toList_some, Option.toList_none, List.cons_append, List.nil_append, am_w8_0, am_w8_1, am_w8_2, am_w8_3, am_w8_4, eq_self, or_true, true_or, am_kd_sI, am_kd_sL, am_kd_sR, am_tc_sI, am_tc_sL, am_tc_sR, am_len_sI, am_len_sL, am_len_sR, am_rfs, if_true, if_false, am_rdL_sI, am_rR_sL, am_rt_cq, am_kd_cq, am_tc_cq, am_len_cq, am_rd_sL, am_rd_sR, am_rdL_sR, fo.1, c0, c1, c2, c3, c4, c5, dpn, ddn, one, q0, q1, q2, q3, q4, q5, l10, l20, l100, a10, a20, g10, g20, w0, w1, w2, eq_true w3, F_ansN]
    by_cases w4 : w = 4
    · simp only [e66_0, e66_1, e66_40, e66_41, e66_44, e66_45, e66_46, e66_49, e66_50, e66_51, e66_52, e66_55, e66_58, e66_59, e66_60, e66_61, e66_64, e66_67, e66_68, e66_69, e66_72, e66_73, e66_74, e66_77, e66_78, e66_79, e66_80, e66_83, e68_0, e68_1, e68_3, e68_6, e68_7, e68_9, e68_10, e68_13, e68_14, e68_17, e68_18, e68_21, e68_22, e68_24, e68_25, e68_26, e68_27, e68_28, e68_30, e68_33, e68_34, e68_36, e68_37, e68_40, e68_41, e68_44, e68_45, e68_46, e68_49, e68_50, e68_52, e68_53, e68_54, e68_57, e68_58, e68_59, e68_61, e68_64, e68_65, e68_66, e68_68, e68_69, e68_72, e68_75, e68_76, e68_77, e68_78, e68_79, e68_82, e68_83, e68_84, e68_85, e68_86, e68_89, e68_92, e68_93, e68_96, e68_97, am_bd_some, Option.toList_some, Option.toList_none, List.cons_append, List.nil_append, am_w8_0, am_w8_1, am_w8_2, am_w8_3, am_w8_4, eq_self, or_true, true_or, am_kd_sI, am_kd_sL, am_kd_sR, am_tc_sI, am_tc_sL, am_tc_sR, am_len_sI, am_len_sL, am_len_sR, am_rfs, if_true, if_false, am_rdL_sI, am_rR_sL, am_rt_cq, am_kd_cq, am_tc_cq, am_len_cq, am_rd_sL, am_rd_sR, am_rdL_sR, fo.1, c0, c1, c2, c3, c4, c5, dpn, ddn, one, q0, q1, q2, q3, q4, q5, l10, l20, l100, a10, a20, g10, g20, w0, w1, w2, w3, eq_true w4, F_ansN]
    by_cases w5 : w = 5
    · simp only [e66_0, e66_1, e66_40, e66_41, e66_44, e66_45, e66_46, e66_49, e66_50, e66_51, e66_52, e66_55, e66_58, e66_59, e66_60, e66_61, e66_64, e66_67, e66_68, e66_69, e66_72, e66_73, e66_74, e66_77, e66_78, e66_79, e66_80, e66_83, e68_0, e68_1, e68_3, e68_6, e68_7, e68_9, e68_10, e68_13, e68_14, e68_17, e68_18, e68_21, e68_22, e68_24, e68_25, e68_26, e68_27, e68_28, e68_30, e68_33, e68_34, e68_36, e68_37, e68_40, e68_41, e68_44, e68_45, e68_46, e68_49, e68_50, e68_52, e68_53, e68_54, e68_57, e68_58, e68_59, e68_61, e68_64, e68_65, e68_66, e68_68, e68_69, e68_72, e68_75, e68_76, e68_77, e68_78, e68_79, e68_82, e68_83, e68_84, e68_85, e68_86, e68_89, e68_92, e68_93, e68_96, e68_97, am_bd_some, Option.toList_some, Option.toList_none, List.cons_append, List.nil_append, am_w8_0, am_w8_1, am_w8_2, am_w8_3, am_w8_4, eq_self, or_true, true_or, am_kd_sI, am_kd_sL, am_kd_sR, am_tc_sI, am_tc_sL, am_tc_sR, am_len_sI, am_len_sL, am_len_sR, am_rfs, if_true, if_false, am_rdL_sI, am_rR_sL, am_rt_cq, am_kd_cq, am_tc_cq, am_len_cq, am_rd_sL, am_rd_sR, am_rdL_sR, fo.1, c0, c1, c2, c3, c4, c5, dpn, ddn, one, q0, q1, q2, q3, q4, q5, l10, l20, l100, a10, a20, g10, g20, w0, w1, w2, w3, w4, eq_true w5, F_ansN]
    by_cases u10 : 10 ≤ w ∧ w < 10 + F_n f
    · have s1 : nI w - 10 = nI (w - 10) := pk_sub (b := 10) u10.1
      have x1 : am_ix (nI (w - 10)) 6 = true := am_ix_nI (by omega) (by decide)
      have z1 : (nI (w - 10)).toNatClampNeg = w - 10 := nI_clamp (by omega)
      have v1 := c7 (w - 10) (by omega)
      have p1 : ¬ w < 10 := by omega
      have p2 : ¬ 10 + F_n f ≤ w := by omega
      simp only [e66_0, e66_1, e66_40, e66_41, e66_44, e66_45, e66_46, e66_49, e66_50, e66_51, e66_52, e66_55, e66_58, e66_59, e66_60, e66_61, e66_64, e66_67, e66_68, e66_69, e66_72, e66_73, e66_74, e66_77, e66_78, e66_79, e66_80, e66_83, e68_0, e68_1, e68_3, e68_6, e68_7, e68_9, e68_10, e68_13, e68_14, e68_17, e68_18, e68_21, e68_22, e68_24, e68_25, e68_26, e68_27, e68_28, e68_30, e68_33, e68_34, e68_36, e68_37, e68_40, e68_41, e68_44, e68_45, e68_46, e68_49, e68_50, e68_52, e68_53, e68_54, e68_57, e68_58, e68_59, e68_61, e68_64, e68_65, e68_66, e68_68, e68_69, e68_72, e68_75, e68_76, e68_77, e68_78, e68_79, e68_82, e68_83, e68_84, e68_85, e68_86, e68_89, e68_92, e68_93, e68_96, e68_97, am_bd_some, Option.toList_some, Option.toList_none, List.cons_append, List.nil_append, am_w8_0, am_w8_1, am_w8_2, am_w8_3, am_w8_4, eq_self, or_true, true_or, am_kd_sI, am_kd_sL, am_kd_sR, am_tc_sI, am_tc_sL, am_tc_sR, am_len_sI, am_len_sL, am_len_sR, am_rfs, if_true, if_false, am_rdL_sI, am_rR_sL, am_rt_cq, am_kd_cq, am_tc_cq, am_len_cq, am_rd_sL, am_rd_sR, am_rdL_sR, fo.1, c0, c1, c2, c3, c4, c5, dpn, ddn, one, q0, q1, q2, q3, q4, q5, l10, l20, l100, a10, a20, g10, g20, w0, w1, w2, w3, w4, w5, u10, p1, p2, s1, x1, z1, fo.2.1, q_tc fo.2.2.2.1, q_ln fo.2.2.2.1, v1, F_ansN, and_self]
    by_cases u20 : 20 ≤ w ∧ w < 20 + F_n f
    · have s1 : nI w - 20 = nI (w - 20) := pk_sub (b := 20) u20.1
      have x1 : am_ix (nI (w - 20)) 6 = true := am_ix_nI (by omega) (by decide)
      have z1 : (nI (w - 20)).toNatClampNeg = w - 20 := nI_clamp (by omega)
      have v1 := cc (w - 20) (by omega)
      have dn := den_numberOf h o f cf (F_cell f (w - 20)) (fk.2.2.2.2.2.2.2.2.2.2.1 (w - 20) (by omega)).2.1.1
      have p1 : ¬ w < 10 := by omega
      have p2 : 10 + F_n f ≤ w := by omega
      have p3 : ¬ w < 20 := by omega
      have p4 : ¬ 20 + F_n f ≤ w := by omega
      simp only [e66_0, e66_1, e66_40, e66_41, e66_44, e66_45, e66_46, e66_49, e66_50, e66_51, e66_52, e66_55, e66_58, e66_59, e66_60, e66_61, e66_64, e66_67, e66_68, e66_69, e66_72, e66_73, e66_74, e66_77, e66_78, e66_79, e66_80, e66_83, e68_0, e68_1, e68_3, e68_6, e68_7, e68_9, e68_10, e68_13, e68_14, e68_17, e68_18, e68_21, e68_22, e68_24, e68_25, e68_26, e68_27, e68_28, e68_30, e68_33, e68_34, e68_36, e68_37, e68_40, e68_41, e68_44, e68_45, e68_46, e68_49, e68_50, e68_52, e68_53, e68_54, e68_57, e68_58, e68_59, e68_61, e68_64, e68_65, e68_66, e68_68, e68_69, e68_72, e68_75, e68_76, e68_77, e68_78, e68_79, e68_82, e68_83, e68_84, e68_85, e68_86, e68_89, e68_92, e68_93, e68_96, e68_97, am_bd_some, Option.toList_some, Option.toList_none, List.cons_append, List.nil_append, am_w8_0, am_w8_1, am_w8_2, am_w8_3, am_w8_4, eq_self, or_true, true_or, am_kd_sI, am_kd_sL, am_kd_sR, am_tc_sI, am_tc_sL, am_tc_sR, am_len_sI, am_len_sL, am_len_sR, am_rfs, if_true, if_false, am_rdL_sI, am_rR_sL, am_rt_cq, am_kd_cq, am_tc_cq, am_len_cq, am_rd_sL, am_rd_sR, am_rdL_sR, fo.1, c0, c1, c2, c3, c4, c5, dpn, ddn, one, q0, q1, q2, q3, q4, q5, l10, l20, l100, a10, a20, g10, g20, w0, w1, w2, w3, w4, w5, u10, u20, p1, p2, p3, p4, s1, x1, z1, fo.2.2.1, q_tc fo.2.2.2.2, q_ln fo.2.2.2.2, v1, dn, F_ansN, and_self]
    by_cases s100 : 100 ≤ w
    · have s1 : nI w - 100 = nI (w - 100) := pk_sub (b := 100) s100
      have dc := den_cellOf h o f cf wf (w - 100) (by omega)
      have p1 : ¬ w < 10 := by omega
      have p2 : 10 + F_n f ≤ w := by omega
      have p3 : ¬ w < 20 := by omega
      have p4 : 20 + F_n f ≤ w := by omega
      have p5 : ¬ w < 100 := by omega
      by_cases u100 : w - 100 < F_w f * F_h f
      · rw [if_pos u100] at dc
        obtain ⟨ci, cn⟩ := q_cell_in wf u100
        have n1 := q_m1_n (q_cell (F_w f) (w - 100)) (by have := ci.1; omega)
        have dw := den_isWall h o f cf (q_cell (F_w f) (w - 100)) ci.1
        have u : 100 ≤ w ∧ w < 100 + F_w f * F_h f := by omega
        have e10 : F_ansN f w = q_bi (F_wall f (q_cell (F_w f) (w - 100))) := by
          unfold F_ansN
          rw [if_neg w0, if_neg w1, if_neg w2, if_neg w3, if_neg w4, if_neg w5, if_neg u10, if_neg u20, if_pos u]
        rw [e10]
        simp only [e66_0, e66_1, e66_40, e66_41, e66_44, e66_45, e66_46, e66_49, e66_50, e66_51, e66_52, e66_55, e66_58, e66_59, e66_60, e66_61, e66_64, e66_67, e66_68, e66_69, e66_72, e66_73, e66_74, e66_77, e66_78, e66_79, e66_80, e66_83, e68_0, e68_1, e68_3, e68_6, e68_7, e68_9, e68_10, e68_13, e68_14, e68_17, e68_18, e68_21, e68_22, e68_24, e68_25, e68_26, e68_27, e68_28, e68_30, e68_33, e68_34, e68_36, e68_37, e68_40, e68_41, e68_44, e68_45, e68_46, e68_49, e68_50, e68_52, e68_53, e68_54, e68_57, e68_58, e68_59, e68_61, e68_64, e68_65, e68_66, e68_68, e68_69, e68_72, e68_75, e68_76, e68_77, e68_78, e68_79, e68_82, e68_83, e68_84, e68_85, e68_86, e68_89, e68_92, e68_93, e68_96, e68_97, am_bd_some, Option.toList_some, Option.toList_none, List.cons_append, List.nil_append, am_w8_0, am_w8_1, am_w8_2, am_w8_3, am_w8_4, eq_self, or_true, true_or, am_kd_sI, am_kd_sL, am_kd_sR, am_tc_sI, am_tc_sL, am_tc_sR, am_len_sI, am_len_sL, am_len_sR, am_rfs, if_true, if_false, am_rdL_sI, am_rR_sL, am_rt_cq, am_kd_cq, am_tc_cq, am_len_cq, am_rd_sL, am_rd_sR, am_rdL_sR, fo.1, c0, c1, c2, c3, c4, c5, dpn, ddn, one, q0, q1, q2, q3, q4, q5, l10, l20, l100, a10, a20, g10, g20, w0, w1, w2, w3, w4, w5, p1, p2, p3, p4, p5, s1, dc, n1, not_false_eq_true, dw, q_bi_0]
        cases F_wall f (q_cell (F_w f) (w - 100))
        · simp [q_bi, am_bd_some, e66_83]
        · simp [q_bi, am_bd_some, e66_83]
      · rw [if_neg u100] at dc
        have u : ¬ (100 ≤ w ∧ w < 100 + F_w f * F_h f) := by omega
        have e10 : F_ansN f w = -1 := by
          unfold F_ansN
          rw [if_neg w0, if_neg w1, if_neg w2, if_neg w3, if_neg w4, if_neg w5, if_neg u10, if_neg u20, if_neg u]
        rw [e10]
        simp only [e66_0, e66_1, e66_40, e66_41, e66_44, e66_45, e66_46, e66_49, e66_50, e66_51, e66_52, e66_55, e66_58, e66_59, e66_60, e66_61, e66_64, e66_67, e66_68, e66_69, e66_72, e66_73, e66_74, e66_77, e66_78, e66_79, e66_80, e66_83, e68_0, e68_1, e68_3, e68_6, e68_7, e68_9, e68_10, e68_13, e68_14, e68_17, e68_18, e68_21, e68_22, e68_24, e68_25, e68_26, e68_27, e68_28, e68_30, e68_33, e68_34, e68_36, e68_37, e68_40, e68_41, e68_44, e68_45, e68_46, e68_49, e68_50, e68_52, e68_53, e68_54, e68_57, e68_58, e68_59, e68_61, e68_64, e68_65, e68_66, e68_68, e68_69, e68_72, e68_75, e68_76, e68_77, e68_78, e68_79, e68_82, e68_83, e68_84, e68_85, e68_86, e68_89, e68_92, e68_93, e68_96, e68_97, am_bd_some, Option.toList_some, Option.toList_none, List.cons_append, List.nil_append, am_w8_0, am_w8_1, am_w8_2, am_w8_3, am_w8_4, eq_self, or_true, true_or, am_kd_sI, am_kd_sL, am_kd_sR, am_tc_sI, am_tc_sL, am_tc_sR, am_len_sI, am_len_sL, am_len_sR, am_rfs, if_true, if_false, am_rdL_sI, am_rR_sL, am_rt_cq, am_kd_cq, am_tc_cq, am_len_cq, am_rd_sL, am_rd_sR, am_rdL_sR, fo.1, c0, c1, c2, c3, c4, c5, dpn, ddn, one, q0, q1, q2, q3, q4, q5, l10, l20, l100, a10, a20, g10, g20, w0, w1, w2, w3, w4, w5, p1, p2, p3, p4, p5, s1, dc, not_true]
    · have u : ¬ (100 ≤ w ∧ w < 100 + F_w f * F_h f) := by omega
      have p5 : w < 100 := by omega
      have al : w < 10 ∨ (10 + F_n f ≤ w ∧ w < 20) ∨ 20 + F_n f ≤ w := by omega
      rcases al with al | al | al
      · have p3 : w < 20 := by omega
        simp only [e66_0, e66_1, e66_40, e66_41, e66_44, e66_45, e66_46, e66_49, e66_50, e66_51, e66_52, e66_55, e66_58, e66_59, e66_60, e66_61, e66_64, e66_67, e66_68, e66_69, e66_72, e66_73, e66_74, e66_77, e66_78, e66_79, e66_80, e66_83, e68_0, e68_1, e68_3, e68_6, e68_7, e68_9, e68_10, e68_13, e68_14, e68_17, e68_18, e68_21, e68_22, e68_24, e68_25, e68_26, e68_27, e68_28, e68_30, e68_33, e68_34, e68_36, e68_37, e68_40, e68_41, e68_44, e68_45, e68_46, e68_49, e68_50, e68_52, e68_53, e68_54, e68_57, e68_58, e68_59, e68_61, e68_64, e68_65, e68_66, e68_68, e68_69, e68_72, e68_75, e68_76, e68_77, e68_78, e68_79, e68_82, e68_83, e68_84, e68_85, e68_86, e68_89, e68_92, e68_93, e68_96, e68_97, am_bd_some, Option.toList_some, Option.toList_none, List.cons_append, List.nil_append, am_w8_0, am_w8_1, am_w8_2, am_w8_3, am_w8_4, eq_self, or_true, true_or, am_kd_sI, am_kd_sL, am_kd_sR, am_tc_sI, am_tc_sL, am_tc_sR, am_len_sI, am_len_sL, am_len_sR, am_rfs, if_true, if_false, am_rdL_sI, am_rR_sL, am_rt_cq, am_kd_cq, am_tc_cq, am_len_cq, am_rd_sL, am_rd_sR, am_rdL_sR, fo.1, c0, c1, c2, c3, c4, c5, dpn, ddn, one, q0, q1, q2, q3, q4, q5, l10, l20, l100, a10, a20, g10, g20, w0, w1, w2, w3, w4, w5, u10, u20, al, p3, p5, not_true, u, F_ansN]
      · have p1 : ¬ w < 10 := by omega
        have p2 := al.1
        have p3 := al.2
        simp only [e66_0, e66_1, e66_40, e66_41, e66_44, e66_45, e66_46, e66_49, e66_50, e66_51, e66_52, e66_55, e66_58, e66_59, e66_60, e66_61, e66_64, e66_67, e66_68, e66_69, e66_72, e66_73, e66_74, e66_77, e66_78, e66_79, e66_80, e66_83, e68_0, e68_1, e68_3, e68_6, e68_7, e68_9, e68_10, e68_13, e68_14, e68_17, e68_18, e68_21, e68_22, e68_24, e68_25, e68_26, e68_27, e68_28, e68_30, e68_33, e68_34, e68_36, e68_37, e68_40, e68_41, e68_44, e68_45, e68_46, e68_49, e68_50, e68_52, e68_53, e68_54, e68_57, e68_58, e68_59, e68_61, e68_64, e68_65, e68_66, e68_68, e68_69, e68_72, e68_75, e68_76, e68_77, e68_78, e68_79, e68_82, e68_83, e68_84, e68_85, e68_86, e68_89, e68_92, e68_93, e68_96, e68_97, am_bd_some, Option.toList_some, Option.toList_none, List.cons_append, List.nil_append, am_w8_0, am_w8_1, am_w8_2, am_w8_3, am_w8_4, eq_self, or_true, true_or, am_kd_sI, am_kd_sL, am_kd_sR, am_tc_sI, am_tc_sL, am_tc_sR, am_len_sI, am_len_sL, am_len_sR, am_rfs, if_true, if_false, am_rdL_sI, am_rR_sL, am_rt_cq, am_kd_cq, am_tc_cq, am_len_cq, am_rd_sL, am_rd_sR, am_rdL_sR, fo.1, c0, c1, c2, c3, c4, c5, dpn, ddn, one, q0, q1, q2, q3, q4, q5, l10, l20, l100, a10, a20, g10, g20, w0, w1, w2, w3, w4, w5, u10, u20, p1, p2, p3, p5, not_true, u, F_ansN]
      · have p1 : ¬ w < 10 := by omega
        have p2 : 10 + F_n f ≤ w := by omega
        have p3 : ¬ w < 20 := by omega
        simp only [e66_0, e66_1, e66_40, e66_41, e66_44, e66_45, e66_46, e66_49, e66_50, e66_51, e66_52, e66_55, e66_58, e66_59, e66_60, e66_61, e66_64, e66_67, e66_68, e66_69, e66_72, e66_73, e66_74, e66_77, e66_78, e66_79, e66_80, e66_83, e68_0, e68_1, e68_3, e68_6, e68_7, e68_9, e68_10, e68_13, e68_14, e68_17, e68_18, e68_21, e68_22, e68_24, e68_25, e68_26, e68_27, e68_28, e68_30, e68_33, e68_34, e68_36, e68_37, e68_40, e68_41, e68_44, e68_45, e68_46, e68_49, e68_50, e68_52, e68_53, e68_54, e68_57, e68_58, e68_59, e68_61, e68_64, e68_65, e68_66, e68_68, e68_69, e68_72, e68_75, e68_76, e68_77, e68_78, e68_79, e68_82, e68_83, e68_84, e68_85, e68_86, e68_89, e68_92, e68_93, e68_96, e68_97, am_bd_some, Option.toList_some, Option.toList_none, List.cons_append, List.nil_append, am_w8_0, am_w8_1, am_w8_2, am_w8_3, am_w8_4, eq_self, or_true, true_or, am_kd_sI, am_kd_sL, am_kd_sR, am_tc_sI, am_tc_sL, am_tc_sR, am_len_sI, am_len_sL, am_len_sR, am_rfs, if_true, if_false, am_rdL_sI, am_rR_sL, am_rt_cq, am_kd_cq, am_tc_cq, am_len_cq, am_rd_sL, am_rd_sR, am_rdL_sR, fo.1, c0, c1, c2, c3, c4, c5, dpn, ddn, one, q0, q1, q2, q3, q4, q5, l10, l20, l100, a10, a20, g10, g20, w0, w1, w2, w3, w4, w5, u10, u20, p1, p2, p3, al, p5, not_true, u, F_ansN]
theorem den_mfans (h : am_H) (f : q_Fl) (mg : q_mg h f (G_0 f)) (fk : F_ok f) (i : Nat) (hi2 : i < 2) (e24 : h.1 211 24 = nI i) (m0 : h.1 217 (34 * i + 0) = nI (F_w f)) (m1 : h.1 217 (34 * i + 1) = nI (F_h f)) (a1 w : Int32) : am_ev 200 15 [some (.ref 211), some (.int a1), some (.int w)] [] h = some (some (.int (F_ans f w)), h) := by
  have wf := fk.wf
  have n6 := wf.2.2.2.1
  have c64 := wf.c64
  obtain ⟨⟨ok, a1', a2, a3, a4, a5, a6, a7⟩, ⟨e1, e2, e3, e4, e5⟩, ea, ew⟩ := mg
  have pn : q_pn f = nI (q_nm f (F_pen f)) := if_pos fk.2.2.1.1
  rw [pn] at a3
  have e1' : h.1 211 28 = nI (q_nm f (F_dog f)) := e1
  have dib := den_isBeast h ok (F_n f) n6 a5
  have d0 : am_den 202 [.ref 211, .int 0] h = some (some (.int (nI (F_w f))), h) := by have := den_of h ok i 0 hi2 (by decide) e24; rw [← m0]; exact this
  have d1 : am_den 202 [.ref 211, .int 1] h = some (some (.int (nI (F_h f))), h) := by have := den_of h ok i 1 hi2 (by decide) e24; rw [← m1]; exact this
  have y : ¬ (1 : Int32) = 0 := by decide
  have t10 : ¬ (10 : Int32) = 0 := by decide
  unfold F_ans
  by_cases c : w < 0
  · rw [if_pos c]
    have m0 : ¬ w = 0 := fun t => by rw [t] at c; exact absurd c (by decide)
    have m1 : ¬ w = 1 := fun t => by rw [t] at c; exact absurd c (by decide)
    have m2 : ¬ w = 2 := fun t => by rw [t] at c; exact absurd c (by decide)
    have m3 : ¬ w = 3 := fun t => by rw [t] at c; exact absurd c (by decide)
    have m4 : ¬ w = 4 := fun t => by rw [t] at c; exact absurd c (by decide)
    have m5 : ¬ w = 5 := fun t => by rw [t] at c; exact absurd c (by decide)
    have n : ¬ (10 ≤ w ∧ w ≤ 29) := fun t => absurd (Int32.lt_of_le_of_lt t.1 c) (by decide)
    have l100 : w < 100 := Int32.lt_trans c (by decide)
    simp only [e200_0, e200_1, e200_2, e200_5, e200_6, e200_7, e200_10, e200_13, e200_14, e200_15, e200_16, e200_18, e200_20, e200_23, e200_26, e200_27, e200_28, e200_30, e200_31, e200_34, e200_37, e200_38, e200_40, e200_43, e200_44, e200_47, e200_48, e200_50, e200_51, e200_52, e200_55, e200_56, e200_59, e200_60, e200_62, e200_63, e200_64, e200_67, e200_68, e200_69, e200_70, e200_72, e200_75, e200_76, e200_78, e200_79, e200_80, e200_83, e200_86, e200_87, e200_90, e200_91, e200_94, e200_95, e200_97, e200_98, e200_98z, e200_99, e200_102, e200_103, e200_106, e200_107, e200_108, e200_109, e200_148, e200_149, e200_150, e200_153, e200_154, e200_155, e200_158, e200_159, e200_160, e200_163, e200_164, e200_165, e200_168, e200_169, e200_170, e200_173, e200_174, e200_175, am_bd_some, Option.toList_some, Option.toList_none, List.cons_append, List.nil_append, am_w8_0, am_w8_1, am_w8_2, am_w8_3, am_w8_4, eq_self, or_true, true_or, am_kd_sI, am_kd_sL, am_kd_sR, am_tc_sI, am_tc_sL, am_tc_sR, am_len_sI, am_len_sL, am_len_sR, am_rfs, if_true, if_false, am_rdL_sI, am_rR_sL, am_rt_cq, am_kd_cq, am_tc_cq, am_len_cq, am_rd_sL, am_rd_sR, am_rdL_sR, okK_211 ok, den_in, n, l100, m0, m1, m2, m3, m4, m5]
  · rw [if_neg c]
    obtain ⟨w, hw, rfl⟩ := nI_of c
    have z : (nI w).toNatClampNeg = w := nI_clamp hw
    rw [z]
    have dv : nI w / 10 = nI (w / 10) := pk_div (d := 10) hw (by decide) (by decide)
    have rm : nI w - nI (w / 10) * 10 = nI (w % 10) := by
      have := pk_rem (a := w) (d := 10) hw (by decide) (by decide)
      rw [show (nI 10 : Int32) = 10 from rfl, dv] at this
      exact this
    have lo : (10 : Int32) ≤ nI w ↔ 10 ≤ w := nI_leI (a := 10) (by decide) hw
    have hi : nI w ≤ 29 ↔ w ≤ 29 := nI_leI (b := 29) hw (by decide)
    have l20 : (20 : Int32) ≤ nI w ↔ 20 ≤ w := nI_leI (a := 20) (by decide) hw
    have l100 : nI w < 100 ↔ w < 100 := nI_ltI (b := 100) hw (by decide)
    have q0 : nI w = 0 ↔ w = 0 := nI_eq (b := 0) hw (by decide)
    have q1 : nI w = 1 ↔ w = 1 := nI_eq (b := 1) hw (by decide)
    have q2 : nI w = 2 ↔ w = 2 := nI_eq (b := 2) hw (by decide)
    have q3 : nI w = 3 ↔ w = 3 := nI_eq (b := 3) hw (by decide)
    have q4 : nI w = 4 ↔ w = 4 := nI_eq (b := 4) hw (by decide)
    have q5 : nI w = 5 ↔ w = 5 := nI_eq (b := 5) hw (by decide)
    by_cases rg : 10 ≤ w ∧ w ≤ 29
    · have wz : ¬ w = 0 ∧ ¬ w = 1 ∧ ¬ w = 2 ∧ ¬ w = 3 ∧ ¬ w = 4 ∧ ¬ w = 5 := by omega
      obtain ⟨w0, w1, w2, w3, w4, w5⟩ := wz
      have db := dib (nI (w % 10))
      have pb : (0 ≤ nI (w % 10) ∧ nI (w % 10) < nI (F_n f)) ↔ w % 10 < F_n f := by
        rw [nI_ltI (by omega) (by omega)]
        exact ⟨fun t => t.2, fun t => ⟨nI_pos' (by omega), t⟩⟩
      have un : ¬ (100 ≤ w ∧ w < 100 + F_w f * F_h f) := by omega
      by_cases cb : w % 10 < F_n f
      · rw [if_pos (pb.mpr cb)] at db
        have x1 : am_ix (nI (w % 10)) 6 = true := am_ix_nI (by omega) (by decide)
        have z1 : (nI (w % 10)).toNatClampNeg = w % 10 := nI_clamp (by omega)
        have v1 := a7 (w % 10) cb
        have v2 : h.1 225 (w % 10) = nI (q_nm f (F_cell f (w % 10))) := ea (w % 10) cb
        by_cases s : 20 ≤ w
        · have u10 : ¬ (10 ≤ w ∧ w < 10 + F_n f) := by omega
          have u20 : 20 ≤ w ∧ w < 20 + F_n f := by omega
          have ww : w % 10 = w - 20 := by omega
          rw [ww] at db x1 z1 v1 v2 rm
          have e10 : F_ansN f w = nI (q_nm f (F_cell f (w - 20))) := by
            unfold F_ansN
            rw [if_neg w0, if_neg w1, if_neg w2, if_neg w3, if_neg w4, if_neg w5, if_neg u10, if_pos u20]
          rw [e10]
          simp only [e200_0, e200_1, e200_2, e200_5, e200_6, e200_7, e200_10, e200_13, e200_14, e200_15, e200_16, e200_18, e200_20, e200_23, e200_26, e200_27, e200_28, e200_30, e200_31, e200_34, e200_37, e200_38, e200_40, e200_43, e200_44, e200_47, e200_48, e200_50, e200_51, e200_52, e200_55, e200_56, e200_59, e200_60, e200_62, e200_63, e200_64, e200_67, e200_68, e200_69, e200_70, e200_72, e200_75, e200_76, e200_78, e200_79, e200_80, e200_83, e200_86, e200_87, e200_90, e200_91, e200_94, e200_95, e200_97, e200_98, e200_98z, e200_99, e200_102, e200_103, e200_106, e200_107, e200_108, e200_109, e200_148, e200_149, e200_150, e200_153, e200_154, e200_155, e200_158, e200_159, e200_160, e200_163, e200_164, e200_165, e200_168, e200_169, e200_170, e200_173, e200_174, e200_175, am_bd_some, Option.toList_some, Option.toList_none, List.cons_append, List.nil_append, am_w8_0, am_w8_1, am_w8_2, am_w8_3, am_w8_4, eq_self, or_true, true_or, am_kd_sI, am_kd_sL, am_kd_sR, am_tc_sI, am_tc_sL, am_tc_sR, am_len_sI, am_len_sL, am_len_sR, am_rfs, if_true, if_false, am_rdL_sI, am_rR_sL, am_rt_cq, am_kd_cq, am_tc_cq, am_len_cq, am_rd_sL, am_rd_sR, am_rdL_sR, okK_211 ok, den_in, lo, hi, l100, a3, e1', a4, a5, q0, q1, q2, q3, q4, q5, rg, and_self, y, t10, dv, rm, db, l20, s, okR_211_36 ok, okT_225 ok, okL_225 ok, x1, z1, v2]
        · have u10 : 10 ≤ w ∧ w < 10 + F_n f := by omega
          have ww : w % 10 = w - 10 := by omega
          rw [ww] at db x1 z1 v1 v2 rm
          have e10 : F_ansN f w = nI (F_kind f (w - 10)) := by
            unfold F_ansN
            rw [if_neg w0, if_neg w1, if_neg w2, if_neg w3, if_neg w4, if_neg w5, if_pos u10]
          rw [e10]
          simp only [e200_0, e200_1, e200_2, e200_5, e200_6, e200_7, e200_10, e200_13, e200_14, e200_15, e200_16, e200_18, e200_20, e200_23, e200_26, e200_27, e200_28, e200_30, e200_31, e200_34, e200_37, e200_38, e200_40, e200_43, e200_44, e200_47, e200_48, e200_50, e200_51, e200_52, e200_55, e200_56, e200_59, e200_60, e200_62, e200_63, e200_64, e200_67, e200_68, e200_69, e200_70, e200_72, e200_75, e200_76, e200_78, e200_79, e200_80, e200_83, e200_86, e200_87, e200_90, e200_91, e200_94, e200_95, e200_97, e200_98, e200_98z, e200_99, e200_102, e200_103, e200_106, e200_107, e200_108, e200_109, e200_148, e200_149, e200_150, e200_153, e200_154, e200_155, e200_158, e200_159, e200_160, e200_163, e200_164, e200_165, e200_168, e200_169, e200_170, e200_173, e200_174, e200_175, am_bd_some, Option.toList_some, Option.toList_none, List.cons_append, List.nil_append, am_w8_0, am_w8_1, am_w8_2, am_w8_3, am_w8_4, eq_self, or_true, true_or, am_kd_sI, am_kd_sL, am_kd_sR, am_tc_sI, am_tc_sL, am_tc_sR, am_len_sI, am_len_sL, am_len_sR, am_rfs, if_true, if_false, am_rdL_sI, am_rR_sL, am_rt_cq, am_kd_cq, am_tc_cq, am_len_cq, am_rd_sL, am_rd_sR, am_rdL_sR, okK_211 ok, den_in, lo, hi, l100, a3, e1', a4, a5, q0, q1, q2, q3, q4, q5, rg, and_self, y, t10, dv, rm, db, l20, s, okR_211_35 ok, okT_224 ok, okL_224 ok, x1, z1, v1]
      · rw [if_neg (fun t => cb (pb.mp t))] at db
        have u10 : ¬ (10 ≤ w ∧ w < 10 + F_n f) := by omega
        have u20 : ¬ (20 ≤ w ∧ w < 20 + F_n f) := by omega
        have e10 : F_ansN f w = -1 := by
          unfold F_ansN
          rw [if_neg w0, if_neg w1, if_neg w2, if_neg w3, if_neg w4, if_neg w5, if_neg u10, if_neg u20, if_neg un]
        rw [e10]
        simp only [e200_0, e200_1, e200_2, e200_5, e200_6, e200_7, e200_10, e200_13, e200_14, e200_15, e200_16, e200_18, e200_20, e200_23, e200_26, e200_27, e200_28, e200_30, e200_31, e200_34, e200_37, e200_38, e200_40, e200_43, e200_44, e200_47, e200_48, e200_50, e200_51, e200_52, e200_55, e200_56, e200_59, e200_60, e200_62, e200_63, e200_64, e200_67, e200_68, e200_69, e200_70, e200_72, e200_75, e200_76, e200_78, e200_79, e200_80, e200_83, e200_86, e200_87, e200_90, e200_91, e200_94, e200_95, e200_97, e200_98, e200_98z, e200_99, e200_102, e200_103, e200_106, e200_107, e200_108, e200_109, e200_148, e200_149, e200_150, e200_153, e200_154, e200_155, e200_158, e200_159, e200_160, e200_163, e200_164, e200_165, e200_168, e200_169, e200_170, e200_173, e200_174, e200_175, am_bd_some, Option.toList_some, Option.toList_none, List.cons_append, List.nil_append, am_w8_0, am_w8_1, am_w8_2, am_w8_3, am_w8_4, eq_self, or_true, true_or, am_kd_sI, am_kd_sL, am_kd_sR, am_tc_sI, am_tc_sL, am_tc_sR, am_len_sI, am_len_sL, am_len_sR, am_rfs, if_true, if_false, am_rdL_sI, am_rR_sL, am_rt_cq, am_kd_cq, am_tc_cq, am_len_cq, am_rd_sL, am_rd_sR, am_rdL_sR, okK_211 ok, den_in, lo, hi, l100, a3, e1', a4, a5, q0, q1, q2, q3, q4, q5, rg, and_self, y, t10, dv, rm, db]
    · have u10 : ¬ (10 ≤ w ∧ w < 10 + F_n f) := by omega
      have u20 : ¬ (20 ≤ w ∧ w < 20 + F_n f) := by omega
      by_cases s100 : 100 ≤ w
      · have wz : ¬ w = 0 ∧ ¬ w = 1 ∧ ¬ w = 2 ∧ ¬ w = 3 ∧ ¬ w = 4 ∧ ¬ w = 5 := by omega
        obtain ⟨w0, w1, w2, w3, w4, w5⟩ := wz
        have p5 : ¬ w < 100 := by omega
        have s1 : nI w - 100 = nI (w - 100) := pk_sub (b := 100) s100
        have lc : nI (w - 100) < nI (F_w f * F_h f) ↔ w - 100 < F_w f * F_h f := nI_ltI (by omega) (by omega)
        by_cases u100 : w - 100 < F_w f * F_h f
        · obtain ⟨ci, cn⟩ := q_cell_in wf u100
          have wv := a6 _ ci
          rw [cn] at wv
          have x1 : am_ix (nI (w - 100)) 64 = true := am_ix_nI (by omega) (by decide)
          have z1 : (nI (w - 100)).toNatClampNeg = w - 100 := nI_clamp (by omega)
          have e10 : F_ansN f w = q_bi (F_wall f (q_cell (F_w f) (w - 100))) := by
            unfold F_ansN
            rw [if_neg w0, if_neg w1, if_neg w2, if_neg w3, if_neg w4, if_neg w5, if_neg u10, if_neg u20, if_pos (by omega)]
          rw [e10]
          simp only [e200_0, e200_1, e200_2, e200_5, e200_6, e200_7, e200_10, e200_13, e200_14, e200_15, e200_16, e200_18, e200_20, e200_23, e200_26, e200_27, e200_28, e200_30, e200_31, e200_34, e200_37, e200_38, e200_40, e200_43, e200_44, e200_47, e200_48, e200_50, e200_51, e200_52, e200_55, e200_56, e200_59, e200_60, e200_62, e200_63, e200_64, e200_67, e200_68, e200_69, e200_70, e200_72, e200_75, e200_76, e200_78, e200_79, e200_80, e200_83, e200_86, e200_87, e200_90, e200_91, e200_94, e200_95, e200_97, e200_98, e200_98z, e200_99, e200_102, e200_103, e200_106, e200_107, e200_108, e200_109, e200_148, e200_149, e200_150, e200_153, e200_154, e200_155, e200_158, e200_159, e200_160, e200_163, e200_164, e200_165, e200_168, e200_169, e200_170, e200_173, e200_174, e200_175, am_bd_some, Option.toList_some, Option.toList_none, List.cons_append, List.nil_append, am_w8_0, am_w8_1, am_w8_2, am_w8_3, am_w8_4, eq_self, or_true, true_or, am_kd_sI, am_kd_sL, am_kd_sR, am_tc_sI, am_tc_sL, am_tc_sR, am_len_sI, am_len_sL, am_len_sR, am_rfs, if_true, if_false, am_rdL_sI, am_rR_sL, am_rt_cq, am_kd_cq, am_tc_cq, am_len_cq, am_rd_sL, am_rd_sR, am_rdL_sR, okK_211 ok, den_in, lo, hi, l100, a3, e1', a4, a5, q0, q1, q2, q3, q4, q5, rg, p5, s1, a2, lc, u100, okR_211_34 ok, okT_223 ok, okL_223 ok, x1, z1, wv, q_bi_0]
          cases F_wall f (q_cell (F_w f) (w - 100))
          · simp [q_bi]
          · simp [q_bi]
        · have e10 : F_ansN f w = -1 := by
            unfold F_ansN
            rw [if_neg w0, if_neg w1, if_neg w2, if_neg w3, if_neg w4, if_neg w5, if_neg u10, if_neg u20, if_neg (by omega)]
          rw [e10]
          simp only [e200_0, e200_1, e200_2, e200_5, e200_6, e200_7, e200_10, e200_13, e200_14, e200_15, e200_16, e200_18, e200_20, e200_23, e200_26, e200_27, e200_28, e200_30, e200_31, e200_34, e200_37, e200_38, e200_40, e200_43, e200_44, e200_47, e200_48, e200_50, e200_51, e200_52, e200_55, e200_56, e200_59, e200_60, e200_62, e200_63, e200_64, e200_67, e200_68, e200_69, e200_70, e200_72, e200_75, e200_76, e200_78, e200_79, e200_80, e200_83, e200_86, e200_87, e200_90, e200_91, e200_94, e200_95, e200_97, e200_98, e200_98z, e200_99, e200_102, e200_103, e200_106, e200_107, e200_108, e200_109, e200_148, e200_149, e200_150, e200_153, e200_154, e200_155, e200_158, e200_159, e200_160, e200_163, e200_164, e200_165, e200_168, e200_169, e200_170, e200_173, e200_174, e200_175, am_bd_some, Option.toList_some, Option.toList_none, List.cons_append, List.nil_append, am_w8_0, am_w8_1, am_w8_2, am_w8_3, am_w8_4, eq_self, or_true, true_or, am_kd_sI, am_kd_sL, am_kd_sR, am_tc_sI, am_tc_sL, am_tc_sR, am_len_sI, am_len_sL, am_len_sR, am_rfs, if_true, if_false, am_rdL_sI, am_rR_sL, am_rt_cq, am_kd_cq, am_tc_cq, am_len_cq, am_rd_sL, am_rd_sR, am_rdL_sR, okK_211 ok, den_in, lo, hi, l100, a3, e1', a4, a5, q0, q1, q2, q3, q4, q5, rg, p5, s1, a2, lc, u100]
      have p5 : w < 100 := by omega
      have un : ¬ (100 ≤ w ∧ w < 100 + F_w f * F_h f) := by omega
      by_cases w0 : w = 0
      · have wv : nI w = 0 := q0.mpr w0
        have e10 : F_ansN f w = nI (F_w f) := by rw [w0]; rfl
        rw [e10]
        have dd := d0
        rw [← wv] at dd
        simp only [e200_0, e200_1, e200_2, e200_5, e200_6, e200_7, e200_10, e200_13, e200_14, e200_15, e200_16, e200_18, e200_20, e200_23, e200_26, e200_27, e200_28, e200_30, e200_31, e200_34, e200_37, e200_38, e200_40, e200_43, e200_44, e200_47, e200_48, e200_50, e200_51, e200_52, e200_55, e200_56, e200_59, e200_60, e200_62, e200_63, e200_64, e200_67, e200_68, e200_69, e200_70, e200_72, e200_75, e200_76, e200_78, e200_79, e200_80, e200_83, e200_86, e200_87, e200_90, e200_91, e200_94, e200_95, e200_97, e200_98, e200_98z, e200_99, e200_102, e200_103, e200_106, e200_107, e200_108, e200_109, e200_148, e200_149, e200_150, e200_153, e200_154, e200_155, e200_158, e200_159, e200_160, e200_163, e200_164, e200_165, e200_168, e200_169, e200_170, e200_173, e200_174, e200_175, am_bd_some, Option.toList_some, Option.toList_none, List.cons_append, List.nil_append, am_w8_0, am_w8_1, am_w8_2, am_w8_3, am_w8_4, eq_self, or_true, true_or, am_kd_sI, am_kd_sL, am_kd_sR, am_tc_sI, am_tc_sL, am_tc_sR, am_len_sI, am_len_sL, am_len_sR, am_rfs, if_true, if_false, am_rdL_sI, am_rR_sL, am_rt_cq, am_kd_cq, am_tc_cq, am_len_cq, am_rd_sL, am_rd_sR, am_rdL_sR, okK_211 ok, den_in, lo, hi, l100, a3, e1', a4, a5, q0, q1, q2, q3, q4, q5, rg, p5, eq_true w0, dd]
      by_cases w1 : w = 1
      · have wv : nI w = 1 := q1.mpr w1
        have e10 : F_ansN f w = nI (F_h f) := by rw [w1]; rfl
        rw [e10]
        have dd := d1
        rw [← wv] at dd
        simp only [e200_0, e200_1, e200_2, e200_5, e200_6, e200_7, e200_10, e200_13, e200_14, e200_15, e200_16, e200_18, e200_20, e200_23, e200_26, e200_27, e200_28, e200_30, e200_31, e200_34, e200_37, e200_38, e200_40, e200_43, e200_44, e200_47, e200_48, e200_50, e200_51, e200_52, e200_55, e200_56, e200_59, e200_60, e200_62, e200_63, e200_64, e200_67, e200_68, e200_69, e200_70, e200_72, e200_75, e200_76, e200_78, e200_79, e200_80, e200_83, e200_86, e200_87, e200_90, e200_91, e200_94, e200_95, e200_97, e200_98, e200_98z, e200_99, e200_102, e200_103, e200_106, e200_107, e200_108, e200_109, e200_148, e200_149, e200_150, e200_153, e200_154, e200_155, e200_158, e200_159, e200_160, e200_163, e200_164, e200_165, e200_168, e200_169, e200_170, e200_173, e200_174, e200_175, am_bd_some, Option.toList_some, Option.toList_none, List.cons_append, List.nil_append, am_w8_0, am_w8_1, am_w8_2, am_w8_3, am_w8_4, eq_self, or_true, true_or, am_kd_sI, am_kd_sL, am_kd_sR, am_tc_sI, am_tc_sL, am_tc_sR, am_len_sI, am_len_sL, am_len_sR, am_rfs, if_true, if_false, am_rdL_sI, am_rR_sL, am_rt_cq, am_kd_cq, am_tc_cq, am_len_cq, am_rd_sL, am_rd_sR, am_rdL_sR, okK_211 ok, den_in, lo, hi, l100, a3, e1', a4, a5, q0, q1, q2, q3, q4, q5, rg, p5, w0, eq_true w1, dd]
      by_cases w2 : w = 2
      · simp only [e200_0, e200_1, e200_2, e200_5, e200_6, e200_7, e200_10, e200_13, e200_14, e200_15, e200_16, e200_18, e200_20, e200_23, e200_26, e200_27, e200_28, e200_30, e200_31, e200_34, e200_37, e200_38, e200_40, e200_43, e200_44, e200_47, e200_48, e200_50, e200_51, e200_52, e200_55, e200_56, e200_59, e200_60, e200_62, e200_63, e200_64, e200_67, e200_68, e200_69, e200_70, e200_72, e200_75, e200_76, e200_78, e200_79, e200_80, e200_83, e200_86, e200_87, e200_90, e200_91, e200_94, e200_95, e200_97, e200_98, e200_98z, e200_99, e200_102, e200_103, e200_106, e200_107, e200_108, e200_109, e200_148, e200_149, e200_150, e200_153, e200_154, e200_155, e200_158, e200_159, e200_160, e200_163, e200_164, e200_165, e200_168, e200_169, e200_170, e200_173, e200_174, e200_175, am_bd_some, Option.toList_some, Option.toList_none, List.cons_append, List.nil_append, am_w8_0, am_w8_1, am_w8_2, am_w8_3, am_w8_4, eq_self, or_true, true_or, am_kd_sI, am_kd_sL, am_kd_sR, am_tc_sI, am_tc_sL, am_tc_sR, am_len_sI, am_len_sL, am_len_sR, am_rfs, if_true, if_false, am_rdL_sI, am_rR_sL, am_rt_cq, am_kd_cq, am_tc_cq, am_len_cq, am_rd_sL, am_rd_sR, am_rdL_sR, okK_211 ok, den_in, lo, hi, l100, a3, e1', a4, a5, q0, q1, q2, q3, q4, q5, rg, p5, w0, w1, eq_true w2, F_ansN]
      by_cases w3 : w = 3
      · simp only [e200_0, e200_1, e200_2, e200_5, e200_6, e200_7, e200_10, e200_13, e200_14, e200_15, e200_16, e200_18, e200_20, e200_23, e200_26, e200_27, e200_28, e200_30, e200_31, e200_34, e200_37, e200_38, e200_40, e200_43, e200_44, e200_47, e200_48, e200_50, e200_51, e200_52, e200_55, e200_56, e200_59, e200_60, e200_62, e200_63, e200_64, e200_67, e200_68, e200_69, e200_70, e200_72, e200_75, e200_76, e200_78, e200_79, e200_80, e200_83, e200_86, e200_87, e200_90, e200_91, e200_94, e200_95, e200_97, e200_98, e200_98z, e200_99, e200_102, e200_103, e200_106, e200_107, e200_108, e200_109, e200_148, e200_149, e200_150, e200_153, e200_154, e200_155, e200_158, e200_159, e200_160, e200_163, e200_164, e200_165, e200_168, e200_169, e200_170, e200_173, e200_174, e200_175, am_bd_some, Option.toList_some, Option.toList_none, List.cons_append, List.nil_append, am_w8_0, am_w8_1, am_w8_2, am_w8_3, am_w8_4, eq_self, or_true, true_or, am_kd_sI, am_kd_sL, am_kd_sR, am_tc_sI, am_tc_sL, am_tc_sR, am_len_sI, am_len_sL, am_len_sR, am_rfs, if_true, if_false, am_rdL_sI, am_rR_sL, am_rt_cq, am_kd_cq, am_tc_cq, am_len_cq, am_rd_sL, am_rd_sR, am_rdL_sR, okK_211 ok, den_in, lo, hi, l100, a3, e1', a4, a5, q0, q1, q2, q3, q4, q5, rg, p5, w0, w1, w2, eq_true w3, F_ansN]
      by_cases w4 : w = 4
      · simp only [e200_0, e200_1, e200_2, e200_5, e200_6, e200_7, e200_10, e200_13, e200_14, e200_15, e200_16, e200_18, e200_20, e200_23, e200_26, e200_27, e200_28, e200_30, e200_31, e200_34, e200_37, e200_38, e200_40, e200_43, e200_44, e200_47, e200_48, e200_50, e200_51, e200_52, e200_55, e200_56, e200_59, e200_60, e200_62, e200_63, e200_64, e200_67, e200_68, e200_69, e200_70, e200_72, e200_75, e200_76, e200_78, e200_79, e200_80, e200_83, e200_86, e200_87, e200_90, e200_91, e200_94, e200_95, e200_97, e200_98, e200_98z, e200_99, e200_102, e200_103, e200_106, e200_107, e200_108, e200_109, e200_148, e200_149, e200_150, e200_153, e200_154, e200_155, e200_158, e200_159, e200_160, e200_163, e200_164, e200_165, e200_168, e200_169, e200_170, e200_173, e200_174, e200_175, am_bd_some, Option.toList_some, Option.toList_none, List.cons_append, List.nil_append, am_w8_0, am_w8_1, am_w8_2, am_w8_3, am_w8_4, eq_self, or_true, true_or, am_kd_sI, am_kd_sL, am_kd_sR, am_tc_sI, am_tc_sL, am_tc_sR, am_len_sI, am_len_sL, am_len_sR, am_rfs, if_true, if_false, am_rdL_sI, am_rR_sL, am_rt_cq, am_kd_cq, am_tc_cq, am_len_cq, am_rd_sL, am_rd_sR, am_rdL_sR, okK_211 ok, den_in, lo, hi, l100, a3, e1', a4, a5, q0, q1, q2, q3, q4, q5, rg, p5, w0, w1, w2, w3, eq_true w4, F_ansN]
      by_cases w5 : w = 5
      · simp only [e200_0, e200_1, e200_2, e200_5, e200_6, e200_7, e200_10, e200_13, e200_14, e200_15, e200_16, e200_18, e200_20, e200_23, e200_26, e200_27, e200_28, e200_30, e200_31, e200_34, e200_37, e200_38, e200_40, e200_43, e200_44, e200_47, e200_48, e200_50, e200_51, e200_52, e200_55, e200_56, e200_59, e200_60, e200_62, e200_63, e200_64, e200_67, e200_68, e200_69, e200_70, e200_72, e200_75, e200_76, e200_78, e200_79, e200_80, e200_83, e200_86, e200_87, e200_90, e200_91, e200_94, e200_95, e200_97, e200_98, e200_98z, e200_99, e200_102, e200_103, e200_106, e200_107, e200_108, e200_109, e200_148, e200_149, e200_150, e200_153, e200_154, e200_155, e200_158, e200_159, e200_160, e200_163, e200_164, e200_165, e200_168, e200_169, e200_170, e200_173, e200_174, e200_175, am_bd_some, Option.toList_some, Option.toList_none, List.cons_append, List.nil_append, am_w8_0, am_w8_1, am_w8_2, am_w8_3, am_w8_4, eq_self, or_true, true_or, am_kd_sI, am_kd_sL, am_kd_sR, am_tc_sI, am_tc_sL, am_tc_sR, am_len_sI, am_len_sL, am_len_sR, am_rfs, if_true, if_false, am_rdL_sI, am_rR_sL, am_rt_cq, am_kd_cq, am_tc_cq, am_len_cq, am_rd_sL, am_rd_sR, am_rdL_sR, okK_211 ok, den_in, lo, hi, l100, a3, e1', a4, a5, q0, q1, q2, q3, q4, q5, rg, p5, w0, w1, w2, w3, w4, eq_true w5, F_ansN]
      simp only [e200_0, e200_1, e200_2, e200_5, e200_6, e200_7, e200_10, e200_13, e200_14, e200_15, e200_16, e200_18, e200_20, e200_23, e200_26, e200_27, e200_28, e200_30, e200_31, e200_34, e200_37, e200_38, e200_40, e200_43, e200_44, e200_47, e200_48, e200_50, e200_51, e200_52, e200_55, e200_56, e200_59, e200_60, e200_62, e200_63, e200_64, e200_67, e200_68, e200_69, e200_70, e200_72, e200_75, e200_76, e200_78, e200_79, e200_80, e200_83, e200_86, e200_87, e200_90, e200_91, e200_94, e200_95, e200_97, e200_98, e200_98z, e200_99, e200_102, e200_103, e200_106, e200_107, e200_108, e200_109, e200_148, e200_149, e200_150, e200_153, e200_154, e200_155, e200_158, e200_159, e200_160, e200_163, e200_164, e200_165, e200_168, e200_169, e200_170, e200_173, e200_174, e200_175, am_bd_some, Option.toList_some, Option.toList_none, List.cons_append, List.nil_append, am_w8_0, am_w8_1, am_w8_2, am_w8_3, am_w8_4, eq_self, or_true, true_or, am_kd_sI, am_kd_sL, am_kd_sR, am_tc_sI, am_tc_sL, am_tc_sR, am_len_sI, am_len_sL, am_len_sR, am_rfs, if_true, if_false, am_rdL_sI, am_rR_sL, am_rt_cq, am_kd_cq, am_tc_cq, am_len_cq, am_rd_sL, am_rd_sR, am_rdL_sR, okK_211 ok, den_in, lo, hi, l100, a3, e1', a4, a5, q0, q1, q2, q3, q4, q5, rg, p5, w0, w1, w2, w3, w4, w5, u10, u20, un, F_ansN]
def q_feA (A : q_All) (a w : Int32) : Int32 := if 0 ≤ a ∧ a < nI (A.2.1 0) then F_ans (A.2.2.1 a.toNatClampNeg) w else -1
theorem den_cfell {A : q_All} {h : am_H} (H : q_Rel A h) (a w : Int32) : ∃ h' : am_H, q_wk h h' ∧ am_den 65 [.ref 0, .int a, .int w] h = some (some (.int (q_feA A a w)), h') := by
  have ok := H.1
  obtain ⟨c1, c2, c3⟩ := H.cnt 0 (by decide)
  have dh := den_has h ok 0 (by decide) (A.2.1 0) c1 c2 a
  rw [nI_0] at dh
  have y : ¬ (1 : Int32) = 0 := by decide
  refine ⟨h, q_wk.rf ok, ?_⟩
  show am_ev 65 0 [some (.ref 0), some (.int a), some (.int w)] [] h = _
  unfold q_feA
  by_cases ca : 0 ≤ a ∧ a < nI (A.2.1 0)
  · rw [if_pos ca] at dh ⊢
    obtain ⟨i, hi, rfl⟩ := q_in2 c1 ca
    obtain ⟨fk, cF, -⟩ := H.fl i hi
    have z : (nI i).toNatClampNeg = i := nI_clamp (by omega)
    have x : am_ix (nI i) 2 = true := am_ix_nI (by omega) (by decide)
    have r := q_fo_ref ok i (by omega)
    have da := den_cfans h (8 + 16 * i) _ cF fk w
    rw [z]
    simp only [e65_0, e65_1, e65_4, e65_5, e65_6, e65_9, e65_12, e65_13, e65_16, e65_19, e65_20f, e65_20d, e65_20b, e65_20l, e65_20t, e65_21, e65_22, e65_25, e65_28, e65_29, am_bd_some, Option.toList_some, Option.toList_none, List.cons_append, List.nil_append, am_w8_0, am_w8_1, am_w8_2, am_w8_3, am_w8_4, eq_self, or_true, true_or, am_kd_sI, am_kd_sL, am_kd_sR, am_tc_sI, am_tc_sL, am_tc_sR, am_len_sI, am_len_sL, am_len_sR, am_rfs, if_true, if_false, am_rdL_sI, am_rR_sL, am_rt_cq, am_kd_cq, am_tc_cq, am_len_cq, am_rd_sL, am_rd_sR, am_rdL_sR, okK_0 ok, okR_0_0 ok, okK_1 ok, okR_1_5 ok, okT_4 ok, okL_4 ok, dh, y, x, z, r, cF.1.1.1, da]
  · rw [if_neg ca] at dh ⊢
    simp only [e65_0, e65_1, e65_4, e65_5, e65_6, e65_9, e65_12, e65_13, e65_16, e65_19, e65_20f, e65_20d, e65_20b, e65_20l, e65_20t, e65_21, e65_22, e65_25, e65_28, e65_29, am_bd_some, Option.toList_some, Option.toList_none, List.cons_append, List.nil_append, am_w8_0, am_w8_1, am_w8_2, am_w8_3, am_w8_4, eq_self, or_true, true_or, am_kd_sI, am_kd_sL, am_kd_sR, am_tc_sI, am_tc_sL, am_tc_sR, am_len_sI, am_len_sL, am_len_sR, am_rfs, if_true, if_false, am_rdL_sI, am_rR_sL, am_rt_cq, am_kd_cq, am_tc_cq, am_len_cq, am_rd_sL, am_rd_sR, am_rdL_sR, okK_0 ok, okR_0_0 ok, okK_1 ok, dh]
theorem den_mfell {A : q_All} {h : am_H} (H : q_Rel A h) (a w : Int32) : ∃ h' : am_H, q_wk h h' ∧ am_den 200 [.ref 211, .int a, .int w] h = some (some (.int (q_feA A a w)), h') := by
  have ok := H.1
  have h0 := H.2.1
  obtain ⟨c1, c2, c3⟩ := H.cnt 0 (by decide)
  have y : ¬ (1 : Int32) = 0 := by decide
  show ∃ h' : am_H, q_wk h h' ∧ am_ev 200 0 [some (.ref 211), some (.int a), some (.int w)] [] h = _
  unfold q_feA
  by_cases ca : 0 ≤ a ∧ a < nI (A.2.1 0)
  · rw [if_pos ca]
    obtain ⟨i, hi, rfl⟩ := q_in2 c1 ca
    obtain ⟨fk, cF, fm⟩ := H.fl i hi
    have z : (nI i).toNatClampNeg = i := nI_clamp (by omega)
    obtain ⟨h1, f1, e24, g1, s1⟩ := den_hand1 h ok i (by omega) _ fk fm (A.2.1 0) c1 hi c3
    have m0 : h1.1 217 (34 * i + 0) = nI (F_w (A.2.2.1 i)) := by rw [f1.2 _ _ (by decide) (by omega)]; exact fm.1
    have m1 : h1.1 217 (34 * i + 1) = nI (F_h (A.2.2.1 i)) := by rw [f1.2 _ _ (by decide) (by omega)]; exact fm.2.1
    have da := den_mfans h1 _ g1 fk i (by omega) e24 m0 m1 (nI i) w
    refine ⟨h1, f1.wk ok, ?_⟩
    rw [z]
    simp only [e200_0, e200_1, e200_2, e200_5, e200_6, e200_7, e200_10, e200_13, e200_14, e200_16, e200_18, e200_20, e200_23, e200_26, e200_27, e200_28, e200_30, e200_31, e200_34, e200_37, e200_38, e200_40, e200_43, e200_44, e200_47, e200_48, e200_50, e200_51, e200_52, e200_55, e200_56, e200_59, e200_60, e200_62, e200_63, e200_64, e200_67, e200_68, e200_69, e200_70, e200_72, e200_75, e200_76, e200_78, e200_79, e200_80, e200_83, e200_86, e200_87, e200_90, e200_91, e200_94, e200_95, e200_97, e200_98, e200_98z, e200_99, e200_102, e200_103, e200_106, e200_107, e200_108, e200_109, e200_148, e200_149, e200_150, e200_153, e200_154, e200_155, e200_158, e200_159, e200_160, e200_163, e200_164, e200_165, e200_168, e200_169, e200_170, e200_173, e200_174, e200_175, am_bd_some, Option.toList_some, Option.toList_none, List.cons_append, List.nil_append, am_w8_0, am_w8_1, am_w8_2, am_w8_3, am_w8_4, eq_self, or_true, true_or, am_kd_sI, am_kd_sL, am_kd_sR, am_tc_sI, am_tc_sL, am_tc_sR, am_len_sI, am_len_sL, am_len_sR, am_rfs, if_true, if_false, am_rdL_sI, am_rR_sL, am_rt_cq, am_kd_cq, am_tc_cq, am_len_cq, am_rd_sL, am_rd_sR, am_rdL_sR, okK_211 ok, am_sI_id h0, s1, y, not_false_eq_true]
    exact da
  · rw [if_neg ca]
    have s0 := den_hand0 h ok (A.2.1 0) c1 c3 a ca
    refine ⟨h, q_wk.rf ok, ?_⟩
    simp only [e200_0, e200_1, e200_2, e200_5, e200_6, e200_7, e200_10, e200_13, e200_14, e200_16, e200_18, e200_20, e200_23, e200_26, e200_27, e200_28, e200_30, e200_31, e200_34, e200_37, e200_38, e200_40, e200_43, e200_44, e200_47, e200_48, e200_50, e200_51, e200_52, e200_55, e200_56, e200_59, e200_60, e200_62, e200_63, e200_64, e200_67, e200_68, e200_69, e200_70, e200_72, e200_75, e200_76, e200_78, e200_79, e200_80, e200_83, e200_86, e200_87, e200_90, e200_91, e200_94, e200_95, e200_97, e200_98, e200_98z, e200_99, e200_102, e200_103, e200_106, e200_107, e200_108, e200_109, e200_148, e200_149, e200_150, e200_153, e200_154, e200_155, e200_158, e200_159, e200_160, e200_163, e200_164, e200_165, e200_168, e200_169, e200_170, e200_173, e200_174, e200_175, am_bd_some, Option.toList_some, Option.toList_none, List.cons_append, List.nil_append, am_w8_0, am_w8_1, am_w8_2, am_w8_3, am_w8_4, eq_self, or_true, true_or, am_kd_sI, am_kd_sL, am_kd_sR, am_tc_sI, am_tc_sL, am_tc_sR, am_len_sI, am_len_sL, am_len_sR, am_rfs, if_true, if_false, am_rdL_sI, am_rR_sL, am_rt_cq, am_kd_cq, am_tc_cq, am_len_cq, am_rd_sL, am_rd_sR, am_rdL_sR, okK_211 ok, am_sI_id h0, s0, not_true]
theorem ly_4 : ly_p4 := fun a w => pr_wk (fun A => q_feA A a w) (fun A h H => den_cfell H a w) (fun A h H => den_mfell H a w)
