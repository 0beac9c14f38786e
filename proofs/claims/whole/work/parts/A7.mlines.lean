/-! part A7: the reference reads line behind line -/
theorem e176_0 {ls : List (Option Value)} {st : List Value} {h : am_H} {l0 : Option Value} {a : Int32} : am_ev 176 0 (l0 :: some (.int a) :: ls) (st) h = am_ev 176 1 (l0 :: some (.int a) :: ls) (.int a :: st) h := am_ev_step (q := (1, l0 :: some (.int a) :: ls, .int a :: st, h)) _ (.iload_n 1) 1 am_my_176 (by decide +kernel) rfl
theorem e176_1 {ls : List (Option Value)} {st : List Value} {h : am_H} {a : Int32} : am_ev 176 1 ls (.int a :: st) h = if a = 0 then am_ev 176 28 ls st h else if a = 1 then am_ev 176 36 ls st h else if a = 2 then am_ev 176 44 ls st h else am_ev 176 52 ls st h := by
  by_cases c0 : a = 0
  · subst c0
    exact am_ev_step (q := (28, ls, st, h)) _ (.tableswitch (51) (0) (2) #[27, 35, 43]) 27 am_my_176 (by decide +kernel) rfl
  rw [if_neg c0]
  by_cases c1 : a = 1
  · subst c1
    exact am_ev_step (q := (36, ls, st, h)) _ (.tableswitch (51) (0) (2) #[27, 35, 43]) 27 am_my_176 (by decide +kernel) rfl
  rw [if_neg c1]
  by_cases c2 : a = 2
  · subst c2
    exact am_ev_step (q := (44, ls, st, h)) _ (.tableswitch (51) (0) (2) #[27, 35, 43]) 27 am_my_176 (by decide +kernel) rfl
  rw [if_neg c2]
  have t0 : a.toInt ≠ 0 := fun q => c0 (Int32.toInt_inj.mp q)
  have t1 : a.toInt ≠ 1 := fun q => c1 (Int32.toInt_inj.mp q)
  have t2 : a.toInt ≠ 2 := fun q => c2 (Int32.toInt_inj.mp q)
  refine am_ev_step (q := (52, ls, st, h)) _ (.tableswitch (51) (0) (2) #[27, 35, 43]) 27 am_my_176 (by decide +kernel) ?_
  show am_sw (51) (0) (2) #[27, 35, 43] 1 ls (.int a :: st) h = _
  unfold am_sw
  dsimp only
  rw [if_pos (by omega)]
  rfl
theorem e176_28 {ls : List (Option Value)} {st : List Value} {h : am_H} {a : Nat} : am_ev 176 28 (some (.ref a) :: ls) (st) h = am_ev 176 29 (some (.ref a) :: ls) (.ref a :: st) h := am_ev_step (q := (29, some (.ref a) :: ls, .ref a :: st, h)) _ (.aload_n 0) 1 am_my_176 (by decide +kernel) rfl
theorem e176_29 {ls : List (Option Value)} {st : List Value} {h : am_H} {l0 l1 : Option Value} {a : Int64} : am_ev 176 29 (l0 :: l1 :: some (.long a) :: some (.retAddr 0) :: ls) (st) h = am_ev 176 30 (l0 :: l1 :: some (.long a) :: some (.retAddr 0) :: ls) (.long a :: st) h := am_ev_step (q := (30, l0 :: l1 :: some (.long a) :: some (.retAddr 0) :: ls, .long a :: st, h)) _ (.lload_n 2) 1 am_my_176 (by decide +kernel) rfl
theorem e176_30 {ls : List (Option Value)} {st : List Value} {h : am_H} {l0 l1 l2 l3 : Option Value} {a : Int32} : am_ev 176 30 (l0 :: l1 :: l2 :: l3 :: some (.int a) :: ls) (st) h = am_ev 176 32 (l0 :: l1 :: l2 :: l3 :: some (.int a) :: ls) (.int a :: st) h := am_ev_step (q := (32, l0 :: l1 :: l2 :: l3 :: some (.int a) :: ls, .int a :: st, h)) _ (.iload 4) 2 am_my_176 (by decide +kernel) rfl
theorem e176_32 {ls : List (Option Value)} {st : List Value} {h : am_H} {p0 : Int64} {p1 : Int32} {o : Nat} (hw : am_w8 st ≤ 8) (hk : am_kd h o = some (.inl 11)) : am_ev 176 32 ls (.int p1 :: .long p0 :: .ref o :: st) h = am_bd (am_den 177 [.ref o, .long p0, .int p1] h) (fun v h1 => am_ev 176 35 ls (v.toList ++ st) h1) := am_u_cV (idx := 226) (wn := 6120) (as := [.long p0, .int p1]) am_my_176 (by decide +kernel) (Or.inl (by decide +kernel)) am_my_177 (by decide +kernel) rfl ⟨Nat.le_of_ble_eq_true rfl, rfl⟩ (by decide +kernel) hw hk
theorem e176_35 {ls : List (Option Value)} {h : am_H} {v : Int32} (hv : v = 0 ∨ v = 1) : am_ev 176 35 ls [.int v] h = some (some (.int v), h) := am_u_rtZ am_my_176 (by decide +kernel) rfl hv
theorem e176_36 {ls : List (Option Value)} {st : List Value} {h : am_H} {a : Nat} : am_ev 176 36 (some (.ref a) :: ls) (st) h = am_ev 176 37 (some (.ref a) :: ls) (.ref a :: st) h := am_ev_step (q := (37, some (.ref a) :: ls, .ref a :: st, h)) _ (.aload_n 0) 1 am_my_176 (by decide +kernel) rfl
theorem e176_37 {ls : List (Option Value)} {st : List Value} {h : am_H} {l0 l1 : Option Value} {a : Int64} : am_ev 176 37 (l0 :: l1 :: some (.long a) :: some (.retAddr 0) :: ls) (st) h = am_ev 176 38 (l0 :: l1 :: some (.long a) :: some (.retAddr 0) :: ls) (.long a :: st) h := am_ev_step (q := (38, l0 :: l1 :: some (.long a) :: some (.retAddr 0) :: ls, .long a :: st, h)) _ (.lload_n 2) 1 am_my_176 (by decide +kernel) rfl
theorem e176_38 {ls : List (Option Value)} {st : List Value} {h : am_H} {l0 l1 l2 l3 : Option Value} {a : Int32} : am_ev 176 38 (l0 :: l1 :: l2 :: l3 :: some (.int a) :: ls) (st) h = am_ev 176 40 (l0 :: l1 :: l2 :: l3 :: some (.int a) :: ls) (.int a :: st) h := am_ev_step (q := (40, l0 :: l1 :: l2 :: l3 :: some (.int a) :: ls, .int a :: st, h)) _ (.iload 4) 2 am_my_176 (by decide +kernel) rfl
theorem e176_40 {ls : List (Option Value)} {st : List Value} {h : am_H} {p0 : Int64} {p1 : Int32} {o : Nat} (hw : am_w8 st ≤ 8) (hk : am_kd h o = some (.inl 11)) : am_ev 176 40 ls (.int p1 :: .long p0 :: .ref o :: st) h = am_bd (am_den 188 [.ref o, .long p0, .int p1] h) (fun v h1 => am_ev 176 43 ls (v.toList ++ st) h1) := am_u_cV (idx := 230) (wn := 6170) (as := [.long p0, .int p1]) am_my_176 (by decide +kernel) (Or.inl (by decide +kernel)) am_my_188 (by decide +kernel) rfl ⟨Nat.le_of_ble_eq_true rfl, rfl⟩ (by decide +kernel) hw hk
theorem e176_43 {ls : List (Option Value)} {h : am_H} {v : Int32} (hv : v = 0 ∨ v = 1) : am_ev 176 43 ls [.int v] h = some (some (.int v), h) := am_u_rtZ am_my_176 (by decide +kernel) rfl hv
theorem e176_44 {ls : List (Option Value)} {st : List Value} {h : am_H} {a : Nat} : am_ev 176 44 (some (.ref a) :: ls) (st) h = am_ev 176 45 (some (.ref a) :: ls) (.ref a :: st) h := am_ev_step (q := (45, some (.ref a) :: ls, .ref a :: st, h)) _ (.aload_n 0) 1 am_my_176 (by decide +kernel) rfl
theorem e176_45 {ls : List (Option Value)} {st : List Value} {h : am_H} {l0 l1 : Option Value} {a : Int64} : am_ev 176 45 (l0 :: l1 :: some (.long a) :: some (.retAddr 0) :: ls) (st) h = am_ev 176 46 (l0 :: l1 :: some (.long a) :: some (.retAddr 0) :: ls) (.long a :: st) h := am_ev_step (q := (46, l0 :: l1 :: some (.long a) :: some (.retAddr 0) :: ls, .long a :: st, h)) _ (.lload_n 2) 1 am_my_176 (by decide +kernel) rfl
theorem e176_46 {ls : List (Option Value)} {st : List Value} {h : am_H} {l0 l1 l2 l3 : Option Value} {a : Int32} : am_ev 176 46 (l0 :: l1 :: l2 :: l3 :: some (.int a) :: ls) (st) h = am_ev 176 48 (l0 :: l1 :: l2 :: l3 :: some (.int a) :: ls) (.int a :: st) h := am_ev_step (q := (48, l0 :: l1 :: l2 :: l3 :: some (.int a) :: ls, .int a :: st, h)) _ (.iload 4) 2 am_my_176 (by decide +kernel) rfl
theorem e176_48 {ls : List (Option Value)} {st : List Value} {h : am_H} {p0 : Int64} {p1 : Int32} {o : Nat} (hw : am_w8 st ≤ 8) (hk : am_kd h o = some (.inl 11)) : am_ev 176 48 ls (.int p1 :: .long p0 :: .ref o :: st) h = am_bd (am_den 190 [.ref o, .long p0, .int p1] h) (fun v h1 => am_ev 176 51 ls (v.toList ++ st) h1) := am_u_cV (idx := 233) (wn := 6182) (as := [.long p0, .int p1]) am_my_176 (by decide +kernel) (Or.inl (by decide +kernel)) am_my_190 (by decide +kernel) rfl ⟨Nat.le_of_ble_eq_true rfl, rfl⟩ (by decide +kernel) hw hk
theorem e176_51 {ls : List (Option Value)} {h : am_H} {v : Int32} (hv : v = 0 ∨ v = 1) : am_ev 176 51 ls [.int v] h = some (some (.int v), h) := am_u_rtZ am_my_176 (by decide +kernel) rfl hv
theorem e176_52 {ls : List (Option Value)} {st : List Value} {h : am_H} {a : Nat} : am_ev 176 52 (some (.ref a) :: ls) (st) h = am_ev 176 53 (some (.ref a) :: ls) (.ref a :: st) h := am_ev_step (q := (53, some (.ref a) :: ls, .ref a :: st, h)) _ (.aload_n 0) 1 am_my_176 (by decide +kernel) rfl
theorem e176_53 {ls : List (Option Value)} {st : List Value} {h : am_H} {l0 l1 : Option Value} {a : Int64} : am_ev 176 53 (l0 :: l1 :: some (.long a) :: some (.retAddr 0) :: ls) (st) h = am_ev 176 54 (l0 :: l1 :: some (.long a) :: some (.retAddr 0) :: ls) (.long a :: st) h := am_ev_step (q := (54, l0 :: l1 :: some (.long a) :: some (.retAddr 0) :: ls, .long a :: st, h)) _ (.lload_n 2) 1 am_my_176 (by decide +kernel) rfl
theorem e176_54 {ls : List (Option Value)} {st : List Value} {h : am_H} {l0 l1 l2 l3 : Option Value} {a : Int32} : am_ev 176 54 (l0 :: l1 :: l2 :: l3 :: some (.int a) :: ls) (st) h = am_ev 176 56 (l0 :: l1 :: l2 :: l3 :: some (.int a) :: ls) (.int a :: st) h := am_ev_step (q := (56, l0 :: l1 :: l2 :: l3 :: some (.int a) :: ls, .int a :: st, h)) _ (.iload 4) 2 am_my_176 (by decide +kernel) rfl
theorem e176_56 {ls : List (Option Value)} {st : List Value} {h : am_H} {p0 : Int64} {p1 : Int32} {o : Nat} (hw : am_w8 st ≤ 8) (hk : am_kd h o = some (.inl 11)) : am_ev 176 56 ls (.int p1 :: .long p0 :: .ref o :: st) h = am_bd (am_den 191 [.ref o, .long p0, .int p1] h) (fun v h1 => am_ev 176 59 ls (v.toList ++ st) h1) := am_u_cV (idx := 236) (wn := 6188) (as := [.long p0, .int p1]) am_my_176 (by decide +kernel) (Or.inl (by decide +kernel)) am_my_191 (by decide +kernel) rfl ⟨Nat.le_of_ble_eq_true rfl, rfl⟩ (by decide +kernel) hw hk
theorem e176_59 {ls : List (Option Value)} {h : am_H} {v : Int32} (hv : v = 0 ∨ v = 1) : am_ev 176 59 ls [.int v] h = some (some (.int v), h) := am_u_rtZ am_my_176 (by decide +kernel) rfl hv
theorem e175_0 {ls : List (Option Value)} {st : List Value} {h : am_H} : am_ev 175 0 (ls) (st) h = am_ev 175 1 (ls) (.int (1) :: st) h := am_ev_step (q := (1, ls, .int (1) :: st, h)) _ (.iconst (1)) 1 am_my_175 (by decide +kernel) rfl
theorem e175_1 {ls : List (Option Value)} {st : List Value} {h : am_H} {l0 l1 : Option Value} {z : Option Value} {a : Int32} : am_ev 175 1 (l0 :: l1 :: z :: ls) (.int a :: st) h = am_ev 175 2 (l0 :: l1 :: some (.int a) :: ls) (st) h := am_ev_step (q := (2, l0 :: l1 :: some (.int a) :: ls, st, h)) _ (.istore_n 2) 1 am_my_175 (by decide +kernel) rfl
theorem e175_2 {ls : List (Option Value)} {st : List Value} {h : am_H} {l0 l1 : Option Value} {a : Int32} : am_ev 175 2 (l0 :: l1 :: some (.int a) :: ls) (st) h = am_ev 175 3 (l0 :: l1 :: some (.int a) :: ls) (.int a :: st) h := am_ev_step (q := (3, l0 :: l1 :: some (.int a) :: ls, .int a :: st, h)) _ (.iload_n 2) 1 am_my_175 (by decide +kernel) rfl
theorem e175_3 {ls : List (Option Value)} {st : List Value} {h : am_H} {a : Int32} : am_ev 175 3 ls (.int a :: st) h = if a = 0 then am_ev 175 74 ls st h else am_ev 175 6 ls st h := am_u_if1 (c := .eq) (off := 71) am_my_175 (by decide +kernel) (by decide)
theorem e175_6 {ls : List (Option Value)} {st : List Value} {h : am_H} {a : Nat} : am_ev 175 6 (some (.ref a) :: ls) (st) h = am_ev 175 7 (some (.ref a) :: ls) (.ref a :: st) h := am_ev_step (q := (7, some (.ref a) :: ls, .ref a :: st, h)) _ (.aload_n 0) 1 am_my_175 (by decide +kernel) rfl
theorem e175_7 {ls : List (Option Value)} {st : List Value} {h : am_H} {o : Nat} (hk : am_kd h o = some (.inl 11)) : am_ev 175 7 ls (.ref o :: st) h = am_ev 175 10 ls (.int (h.1 o 13) :: st) h := am_u_gfI (idx := 124) (wn := 5145) am_my_175 (by decide +kernel) (by decide +kernel) (by decide +kernel) hk
theorem e175_10 {ls : List (Option Value)} {st : List Value} {h : am_H} {a : Int32} : am_ev 175 10 ls (.int a :: st) h = if a = 0 then am_ev 175 74 ls st h else am_ev 175 13 ls st h := am_u_if1 (c := .eq) (off := 64) am_my_175 (by decide +kernel) (by decide)
theorem e175_13 {ls : List (Option Value)} {st : List Value} {h : am_H} {a : Nat} : am_ev 175 13 (some (.ref a) :: ls) (st) h = am_ev 175 14 (some (.ref a) :: ls) (.ref a :: st) h := am_ev_step (q := (14, some (.ref a) :: ls, .ref a :: st, h)) _ (.aload_n 0) 1 am_my_175 (by decide +kernel) rfl
theorem e175_14 {ls : List (Option Value)} {st : List Value} {h : am_H} {o : Nat} (hk : am_kd h o = some (.inl 11)) : am_ev 175 14 ls (.ref o :: st) h = am_ev 175 17 ls (.int (h.1 o 12) :: st) h := am_u_gfI (idx := 117) (wn := 5144) am_my_175 (by decide +kernel) (by decide +kernel) (by decide +kernel) hk
theorem e175_17 {ls : List (Option Value)} {st : List Value} {h : am_H} {l0 l1 l2 : Option Value} {z : Option Value} {a : Int32} : am_ev 175 17 (l0 :: l1 :: l2 :: z :: ls) (.int a :: st) h = am_ev 175 18 (l0 :: l1 :: l2 :: some (.int a) :: ls) (st) h := am_ev_step (q := (18, l0 :: l1 :: l2 :: some (.int a) :: ls, st, h)) _ (.istore_n 3) 1 am_my_175 (by decide +kernel) rfl
theorem e175_18 {ls : List (Option Value)} {st : List Value} {h : am_H} {a : Nat} : am_ev 175 18 (some (.ref a) :: ls) (st) h = am_ev 175 19 (some (.ref a) :: ls) (.ref a :: st) h := am_ev_step (q := (19, some (.ref a) :: ls, .ref a :: st, h)) _ (.aload_n 0) 1 am_my_175 (by decide +kernel) rfl
theorem e175_19 {ls : List (Option Value)} {st : List Value} {h : am_H} : am_ev 175 19 (ls) (st) h = am_ev 175 20 (ls) (.int (1) :: st) h := am_ev_step (q := (20, ls, .int (1) :: st, h)) _ (.iconst (1)) 1 am_my_175 (by decide +kernel) rfl
theorem e175_20 {ls : List (Option Value)} {st : List Value} {h : am_H} {o : Nat} {v : Int32} (hk : am_kd h o = some (.inl 11)) (hv : v = 0 ∨ v = 1) : am_ev 175 20 ls (.int v :: .ref o :: st) h = am_ev 175 23 ls st (am_sI h o 23 v) := am_u_pfZ (idx := 147) (wn := 5155) am_my_175 (by decide +kernel) (by decide +kernel) (by decide +kernel) (by decide +kernel) hk hv
theorem e175_23 {ls : List (Option Value)} {st : List Value} {h : am_H} {a : Nat} : am_ev 175 23 (some (.ref a) :: ls) (st) h = am_ev 175 24 (some (.ref a) :: ls) (.ref a :: st) h := am_ev_step (q := (24, some (.ref a) :: ls, .ref a :: st, h)) _ (.aload_n 0) 1 am_my_175 (by decide +kernel) rfl
theorem e175_24 {ls : List (Option Value)} {st : List Value} {h : am_H} {l0 : Option Value} {a : Int32} : am_ev 175 24 (l0 :: some (.int a) :: ls) (st) h = am_ev 175 25 (l0 :: some (.int a) :: ls) (.int a :: st) h := am_ev_step (q := (25, l0 :: some (.int a) :: ls, .int a :: st, h)) _ (.iload_n 1) 1 am_my_175 (by decide +kernel) rfl
theorem e175_25 {ls : List (Option Value)} {st : List Value} {h : am_H} {a : Nat} : am_ev 175 25 (some (.ref a) :: ls) (st) h = am_ev 175 26 (some (.ref a) :: ls) (.ref a :: st) h := am_ev_step (q := (26, some (.ref a) :: ls, .ref a :: st, h)) _ (.aload_n 0) 1 am_my_175 (by decide +kernel) rfl
theorem e175_26 {ls : List (Option Value)} {st : List Value} {h : am_H} {o : Nat} (hk : am_kd h o = some (.inl 11)) : am_ev 175 26 ls (.ref o :: st) h = am_ev 175 29 ls (.int (h.1 o 13) :: st) h := am_u_gfI (idx := 124) (wn := 5145) am_my_175 (by decide +kernel) (by decide +kernel) (by decide +kernel) hk
theorem e175_29 {ls : List (Option Value)} {st : List Value} {h : am_H} : am_ev 175 29 (ls) (st) h = am_ev 175 30 (ls) (.int (2) :: st) h := am_ev_step (q := (30, ls, .int (2) :: st, h)) _ (.iconst (2)) 1 am_my_175 (by decide +kernel) rfl
theorem e175_30 {ls : List (Option Value)} {st : List Value} {h : am_H} {a b : Int32} : am_ev 175 30 ls (.int b :: .int a :: st) h = if ¬ a = b then am_ev 175 40 ls st h else am_ev 175 33 ls st h := am_u_if2 (c := .ne) (off := 10) am_my_175 (by decide +kernel) (by decide)
theorem e175_33 {ls : List (Option Value)} {st : List Value} {h : am_H} {a : Nat} : am_ev 175 33 (some (.ref a) :: ls) (st) h = am_ev 175 34 (some (.ref a) :: ls) (.ref a :: st) h := am_ev_step (q := (34, some (.ref a) :: ls, .ref a :: st, h)) _ (.aload_n 0) 1 am_my_175 (by decide +kernel) rfl
theorem e175_34 {ls : List (Option Value)} {st : List Value} {h : am_H} {o : Nat} (hk : am_kd h o = some (.inl 11)) : am_ev 175 34 ls (.ref o :: st) h = am_ev 175 37 ls (.long (h.2.1 o 15) :: st) h := am_u_gfL (idx := 120) (wn := 5147) am_my_175 (by decide +kernel) (by decide +kernel) (by decide +kernel) hk
theorem e175_37 {ls : List (Option Value)} {st : List Value} {h : am_H} : am_ev 175 37 (ls) (st) h = am_ev 175 41 (ls) (st) h := am_ev_step (q := (41, ls, st, h)) _ (.goto (4)) 3 am_my_175 (by decide +kernel) rfl
theorem e175_40 {ls : List (Option Value)} {st : List Value} {h : am_H} : am_ev 175 40 (ls) (st) h = am_ev 175 41 (ls) (.long 0 :: st) h := am_ev_step (q := (41, ls, .long 0 :: st, h)) _ (.lconst 0) 1 am_my_175 (by decide +kernel) rfl
theorem e175_41 {ls : List (Option Value)} {st : List Value} {h : am_H} {l0 l1 l2 : Option Value} {a : Int32} : am_ev 175 41 (l0 :: l1 :: l2 :: some (.int a) :: ls) (st) h = am_ev 175 42 (l0 :: l1 :: l2 :: some (.int a) :: ls) (.int a :: st) h := am_ev_step (q := (42, l0 :: l1 :: l2 :: some (.int a) :: ls, .int a :: st, h)) _ (.iload_n 3) 1 am_my_175 (by decide +kernel) rfl
theorem e175_42 {ls : List (Option Value)} {st : List Value} {h : am_H} {p0 : Int32} {p1 : Int64} {p2 : Int32} {o : Nat} (hw : am_w8 st ≤ 8) (hk : am_kd h o = some (.inl 11)) : am_ev 175 42 ls (.int p2 :: .long p1 :: .int p0 :: .ref o :: st) h = am_bd (am_den 176 [.ref o, .int p0, .long p1, .int p2] h) (fun v h1 => am_ev 175 45 ls (v.toList ++ st) h1) := am_u_cV (idx := 239) (wn := 6116) (as := [.int p0, .long p1, .int p2]) am_my_175 (by decide +kernel) (Or.inl (by decide +kernel)) am_my_176 (by decide +kernel) rfl ⟨Nat.le_of_ble_eq_true rfl, rfl⟩ (by decide +kernel) hw hk
theorem e175_45 {ls : List (Option Value)} {st : List Value} {h : am_H} {l0 l1 : Option Value} {z : Option Value} {a : Int32} : am_ev 175 45 (l0 :: l1 :: z :: ls) (.int a :: st) h = am_ev 175 46 (l0 :: l1 :: some (.int a) :: ls) (st) h := am_ev_step (q := (46, l0 :: l1 :: some (.int a) :: ls, st, h)) _ (.istore_n 2) 1 am_my_175 (by decide +kernel) rfl
theorem e175_46 {ls : List (Option Value)} {st : List Value} {h : am_H} {l0 l1 : Option Value} {a : Int32} : am_ev 175 46 (l0 :: l1 :: some (.int a) :: ls) (st) h = am_ev 175 47 (l0 :: l1 :: some (.int a) :: ls) (.int a :: st) h := am_ev_step (q := (47, l0 :: l1 :: some (.int a) :: ls, .int a :: st, h)) _ (.iload_n 2) 1 am_my_175 (by decide +kernel) rfl
theorem e175_47 {ls : List (Option Value)} {st : List Value} {h : am_H} {a : Int32} : am_ev 175 47 ls (.int a :: st) h = if a = 0 then am_ev 175 63 ls st h else am_ev 175 50 ls st h := am_u_if1 (c := .eq) (off := 16) am_my_175 (by decide +kernel) (by decide)
theorem e175_50 {ls : List (Option Value)} {st : List Value} {h : am_H} {a : Nat} : am_ev 175 50 (some (.ref a) :: ls) (st) h = am_ev 175 51 (some (.ref a) :: ls) (.ref a :: st) h := am_ev_step (q := (51, some (.ref a) :: ls, .ref a :: st, h)) _ (.aload_n 0) 1 am_my_175 (by decide +kernel) rfl
theorem e175_51 {ls : List (Option Value)} {st : List Value} {h : am_H} {o : Nat} (hk : am_kd h o = some (.inl 11)) : am_ev 175 51 ls (.ref o :: st) h = am_ev 175 54 ls (.int (h.1 o 13) :: st) h := am_u_gfI (idx := 124) (wn := 5145) am_my_175 (by decide +kernel) (by decide +kernel) (by decide +kernel) hk
theorem e175_54 {ls : List (Option Value)} {st : List Value} {h : am_H} : am_ev 175 54 (ls) (st) h = am_ev 175 55 (ls) (.int (4) :: st) h := am_ev_step (q := (55, ls, .int (4) :: st, h)) _ (.iconst (4)) 1 am_my_175 (by decide +kernel) rfl
theorem e175_55 {ls : List (Option Value)} {st : List Value} {h : am_H} {a b : Int32} : am_ev 175 55 ls (.int b :: .int a :: st) h = if a = b then am_ev 175 63 ls st h else am_ev 175 58 ls st h := am_u_if2 (c := .eq) (off := 8) am_my_175 (by decide +kernel) (by decide)
theorem e175_58 {ls : List (Option Value)} {st : List Value} {h : am_H} {a : Nat} : am_ev 175 58 (some (.ref a) :: ls) (st) h = am_ev 175 59 (some (.ref a) :: ls) (.ref a :: st) h := am_ev_step (q := (59, some (.ref a) :: ls, .ref a :: st, h)) _ (.aload_n 0) 1 am_my_175 (by decide +kernel) rfl
theorem e175_59 {ls : List (Option Value)} {st : List Value} {h : am_H}  {o : Nat} (hw : am_w8 st ≤ 8) (hk : am_kd h o = some (.inl 11)) : am_ev 175 59 ls (.ref o :: st) h = am_bd (am_den 179 [.ref o] h) (fun v h1 => am_ev 175 62 ls (v.toList ++ st) h1) := am_u_cV (idx := 139) (wn := 6135) (as := []) am_my_175 (by decide +kernel) (Or.inl (by decide +kernel)) am_my_179 (by decide +kernel) rfl ⟨Nat.le_of_ble_eq_true rfl, rfl⟩ (by decide +kernel) hw hk
theorem e175_62 {ls : List (Option Value)} {st : List Value} {h : am_H} {l0 l1 : Option Value} {z : Option Value} {a : Int32} : am_ev 175 62 (l0 :: l1 :: z :: ls) (.int a :: st) h = am_ev 175 63 (l0 :: l1 :: some (.int a) :: ls) (st) h := am_ev_step (q := (63, l0 :: l1 :: some (.int a) :: ls, st, h)) _ (.istore_n 2) 1 am_my_175 (by decide +kernel) rfl
theorem e175_63 {ls : List (Option Value)} {st : List Value} {h : am_H} {l0 l1 : Option Value} {a : Int32} : am_ev 175 63 (l0 :: l1 :: some (.int a) :: ls) (st) h = am_ev 175 64 (l0 :: l1 :: some (.int a) :: ls) (.int a :: st) h := am_ev_step (q := (64, l0 :: l1 :: some (.int a) :: ls, .int a :: st, h)) _ (.iload_n 2) 1 am_my_175 (by decide +kernel) rfl
theorem e175_64 {ls : List (Option Value)} {st : List Value} {h : am_H} {a : Int32} : am_ev 175 64 ls (.int a :: st) h = if a = 0 then am_ev 175 71 ls st h else am_ev 175 67 ls st h := am_u_if1 (c := .eq) (off := 7) am_my_175 (by decide +kernel) (by decide)
theorem e175_67 {ls : List (Option Value)} {st : List Value} {h : am_H} {a : Nat} : am_ev 175 67 (some (.ref a) :: ls) (st) h = am_ev 175 68 (some (.ref a) :: ls) (.ref a :: st) h := am_ev_step (q := (68, some (.ref a) :: ls, .ref a :: st, h)) _ (.aload_n 0) 1 am_my_175 (by decide +kernel) rfl
theorem e175_68 {ls : List (Option Value)} {st : List Value} {h : am_H}  {o : Nat} (hw : am_w8 st ≤ 8) (hk : am_kd h o = some (.inl 11)) : am_ev 175 68 ls (.ref o :: st) h = am_bd (am_den 173 [.ref o] h) (fun v h1 => am_ev 175 71 ls (v.toList ++ st) h1) := am_u_cV (idx := 151) (wn := 6104) (as := []) am_my_175 (by decide +kernel) (Or.inl (by decide +kernel)) am_my_173 (by decide +kernel) rfl ⟨Nat.le_of_ble_eq_true rfl, rfl⟩ (by decide +kernel) hw hk
theorem e175_71 {ls : List (Option Value)} {st : List Value} {h : am_H} : am_ev 175 71 (ls) (st) h = am_ev 175 2 (ls) (st) h := am_ev_step (q := (2, ls, st, h)) _ (.goto (-69)) 3 am_my_175 (by decide +kernel) rfl
theorem e175_74 {ls : List (Option Value)} {st : List Value} {h : am_H} {l0 l1 : Option Value} {a : Int32} : am_ev 175 74 (l0 :: l1 :: some (.int a) :: ls) (st) h = am_ev 175 75 (l0 :: l1 :: some (.int a) :: ls) (.int a :: st) h := am_ev_step (q := (75, l0 :: l1 :: some (.int a) :: ls, .int a :: st, h)) _ (.iload_n 2) 1 am_my_175 (by decide +kernel) rfl
theorem e175_75 {ls : List (Option Value)} {h : am_H} {v : Int32} (hv : v = 0 ∨ v = 1) : am_ev 175 75 ls [.int v] h = some (some (.int v), h) := am_u_rtZ am_my_175 (by decide +kernel) rfl hv
theorem t_K0 {t : Nat → Nat} {L s : Nat} (h : t_K t L s = 0) (hs : s ≤ L) : s = L := by
  by_cases c : s < L
  · exfalso
    unfold t_K at h
    rw [if_pos c] at h
    by_cases c1 : t_le (t s) = true
    · rw [if_pos c1] at h; cases h
    rw [if_neg c1] at h
    by_cases c2 : t_di (t s) = true
    · rw [if_pos c2] at h
      by_cases c3 : 2 < t_E t L s - s
      · rw [if_pos c3] at h; cases h
      · rw [if_neg c3] at h; cases h
    rw [if_neg c2] at h
    by_cases c3 : t s = 59
    · rw [if_pos c3] at h; cases h
    · rw [if_neg c3] at h; cases h
  · omega
/-- which line method, by the sort -/
def m_lk (so : Nat) : Nat := if so = 0 then 177 else if so = 1 then 188 else if so = 2 then 190 else 191
theorem den_lineOf (h : am_H) (ok : am_okH h) (so W : Nat) (hso : so < 4) (s v : Int32) (h' : am_H) (hv : v = 0 ∨ v = 1) (d : am_den (m_lk so) [.ref 211, .long (lN W), .int s] h = some (some (.int v), h')) : am_den 176 [.ref 211, .int (nI so), .long (lN W), .int s] h = some (some (.int v), h') := by
  show am_ev 176 0 [some (.ref 211), some (.int (nI so)), some (.long (lN W)), some (.retAddr 0), some (.int s)] [] h = _
  have h4 : so = 0 ∨ so = 1 ∨ so = 2 ∨ so = 3 := by omega
  rcases h4 with rfl | rfl | rfl | rfl
  · have d' : am_den 177 [.ref 211, .long (lN W), .int s] h = some (some (.int v), h') := d
    have c0 : (nI 0 = 0) = True := eq_true rfl
    simp only [e176_0, e176_1, e176_28, e176_29, e176_30, e176_32, e176_35, e176_36, e176_37, e176_38, e176_40, e176_43, e176_44, e176_45, e176_46, e176_48, e176_51, e176_52, e176_53, e176_54, e176_56, e176_59, am_bd_some, Option.toList_some, Option.toList_none, List.cons_append, List.nil_append, am_w8_0, am_w8_1, am_w8_2, am_w8_3, am_w8_4, eq_self, or_true, true_or, am_kd_sI, am_kd_sL, am_kd_sR, am_tc_sI, am_tc_sL, am_tc_sR, am_len_sI, am_len_sL, am_len_sR, am_rfs, if_true, if_false, am_rdL_sI, am_rR_sL, am_rt_cq, am_kd_cq, am_tc_cq, am_len_cq, am_rd_sL, am_rd_sR, am_rdL_sR, c0, okK_211 ok, d', hv]
  · have d' : am_den 188 [.ref 211, .long (lN W), .int s] h = some (some (.int v), h') := d
    have c0 : (nI 1 = 0) = False := eq_false (by decide)
    have c1 : (nI 1 = 1) = True := eq_true rfl
    simp only [e176_0, e176_1, e176_28, e176_29, e176_30, e176_32, e176_35, e176_36, e176_37, e176_38, e176_40, e176_43, e176_44, e176_45, e176_46, e176_48, e176_51, e176_52, e176_53, e176_54, e176_56, e176_59, am_bd_some, Option.toList_some, Option.toList_none, List.cons_append, List.nil_append, am_w8_0, am_w8_1, am_w8_2, am_w8_3, am_w8_4, eq_self, or_true, true_or, am_kd_sI, am_kd_sL, am_kd_sR, am_tc_sI, am_tc_sL, am_tc_sR, am_len_sI, am_len_sL, am_len_sR, am_rfs, if_true, if_false, am_rdL_sI, am_rR_sL, am_rt_cq, am_kd_cq, am_tc_cq, am_len_cq, am_rd_sL, am_rd_sR, am_rdL_sR, c0, c1, okK_211 ok, d', hv]
  · have d' : am_den 190 [.ref 211, .long (lN W), .int s] h = some (some (.int v), h') := d
    have c0 : (nI 2 = 0) = False := eq_false (by decide)
    have c1 : (nI 2 = 1) = False := eq_false (by decide)
    have c2 : (nI 2 = 2) = True := eq_true rfl
    simp only [e176_0, e176_1, e176_28, e176_29, e176_30, e176_32, e176_35, e176_36, e176_37, e176_38, e176_40, e176_43, e176_44, e176_45, e176_46, e176_48, e176_51, e176_52, e176_53, e176_54, e176_56, e176_59, am_bd_some, Option.toList_some, Option.toList_none, List.cons_append, List.nil_append, am_w8_0, am_w8_1, am_w8_2, am_w8_3, am_w8_4, eq_self, or_true, true_or, am_kd_sI, am_kd_sL, am_kd_sR, am_tc_sI, am_tc_sL, am_tc_sR, am_len_sI, am_len_sL, am_len_sR, am_rfs, if_true, if_false, am_rdL_sI, am_rR_sL, am_rt_cq, am_kd_cq, am_tc_cq, am_len_cq, am_rd_sL, am_rd_sR, am_rdL_sR, c0, c1, c2, okK_211 ok, d', hv]
  · have d' : am_den 191 [.ref 211, .long (lN W), .int s] h = some (some (.int v), h') := d
    have c0 : (nI 3 = 0) = False := eq_false (by decide)
    have c1 : (nI 3 = 1) = False := eq_false (by decide)
    have c2 : (nI 3 = 2) = False := eq_false (by decide)
    simp only [e176_0, e176_1, e176_28, e176_29, e176_30, e176_32, e176_35, e176_36, e176_37, e176_38, e176_40, e176_43, e176_44, e176_45, e176_46, e176_48, e176_51, e176_52, e176_53, e176_54, e176_56, e176_59, am_bd_some, Option.toList_some, Option.toList_none, List.cons_append, List.nil_append, am_w8_0, am_w8_1, am_w8_2, am_w8_3, am_w8_4, eq_self, or_true, true_or, am_kd_sI, am_kd_sL, am_kd_sR, am_tc_sI, am_tc_sL, am_tc_sR, am_len_sI, am_len_sL, am_len_sR, am_rfs, if_true, if_false, am_rdL_sI, am_rR_sL, am_rt_cq, am_kd_cq, am_tc_cq, am_len_cq, am_rd_sL, am_rd_sR, am_rdL_sR, c0, c1, c2, okK_211 ok, d', hv]
/-- what the reference is told: kept where only other cells change; a line; no line -/
def m_dr {D : Type} (mr : am_H → D → Prop) (mw : am_H → Prop) (full : Nat → D → Bool) (upd : Nat → (Nat → Nat) → D → D) (so : Nat) : Prop :=
  (∀ (h h' : am_H), (∀ k, h'.1 221 k = h.1 221 k) → h'.1 211 21 = h.1 211 21 → h'.1 211 22 = h.1 211 22 → (∀ d, mr h d → mr h' d) ∧ (mw h → mw h')) ∧
  (∀ (t : Nat → Nat) (L : Nat) (g h : am_H) (s : Nat) (q : Nat × Nat), m_st t L g h s q s → s < L → h.1 211 23 = 1 → ∀ d : D, (q.1 = 0 → mr h d) → mw h → ∀ i, i < 18 → ln_s i = so → m_lr mr mw full upd t L g (m_lk so) (ln_k i) h s q d i) ∧
  (∀ (t : Nat → Nat) (L : Nat) (g h : am_H) (s : Nat) (q : Nat × Nat), m_st t L g h s q s → ∀ W, W < 2 ^ 64 → (∀ j, j < 18 → ln_s j = so → W ≠ ln_k j) → ∃ h' : am_H, am_den (m_lk so) [.ref 211, .long (lN W), .int (nI s)] h = some (some (.int 0), h') ∧ m_bk g h' s)
theorem m_rl {D : Type} {mr : am_H → D → Prop} {mw : am_H → Prop} {full : Nat → D → Bool} {upd : Nat → (Nat → Nat) → D → D} {so : Nat} (A : m_dr mr mw full upd so) (hso : so < 4) (t : Nat → Nat) (L : Nat) (g : am_H) (okg : am_okH g) (hb : ∀ k, k < L → t k < 256) : ∀ (n a : Nat) (q : Nat × Nat) (d : D) (h : am_H) (x3 : Option Value), L < a + n → a ≤ L → m_st t L g h (t_S t L a) q (t_S t L a) → (q.1 = 0 → mr h d) → mw h →
    (match t_ll full upd t L so n a q d with
    | .inl p => ∃ h' : am_H, am_ev 175 2 [some (.ref 211), some (.int (nI so)), some (.int 1), x3] [] h = some (some (.int 0), h') ∧ m_bk g h' p
    | .inr r => ∃ h' : am_H, am_ev 175 2 [some (.ref 211), some (.int (nI so)), some (.int 1), x3] [] h = some (some (.int 1), h') ∧ m_st t L g h' L r.1 L ∧ (r.1.1 = 0 → mr h' r.2) ∧ mw h') := by
  obtain ⟨A1, A2, A3⟩ := A
  have o0 : (0 : Int32) = 0 ∨ (0 : Int32) = 1 := Or.inl rfl
  have o1 : (1 : Int32) = 0 ∨ (1 : Int32) = 1 := Or.inr rfl
  have y : ¬ (1 : Int32) = 0 := by decide
  intro n
  induction n with
  | zero => intro a q d h x3 hn ha; exact absurd ha (by omega)
  | succ n ih =>
    intro a q d h x3 hn ha H hd hw
    have ok := H.1.1
    have L6 := H.1.2.1
    have sl := t_S_le t L a ha
    unfold t_ll
    generalize t_S t L a = s at H sl ⊢
    have e12 := H.2.2.2.1.2.1
    have e13 := H.2.2.2.1.2.2.1
    have e15 := H.2.2.2.1.2.2.2.2
    have kl := (t_CK t L s).1
    have q0 : h.1 211 13 = 0 ↔ t_K t L s = 0 := by rw [e13]; exact nI_eq (b := 0) (by omega) (by decide)
    by_cases cK : t_K t L s = 0
    · rw [if_pos cK]
      have c0 := eq_true (q0.mpr cK)
      have eL := t_K0 cK sl.2
      refine ⟨h, ?_, eL ▸ H, hd, hw⟩
      simp only [e175_0, e175_1, e175_2, e175_3, e175_6, e175_7, e175_10, e175_13, e175_14, e175_17, e175_18, e175_19, e175_20, e175_23, e175_24, e175_25, e175_26, e175_29, e175_30, e175_33, e175_34, e175_37, e175_40, e175_41, e175_42, e175_45, e175_46, e175_47, e175_50, e175_51, e175_54, e175_55, e175_58, e175_59, e175_62, e175_63, e175_64, e175_67, e175_68, e175_71, e175_74, e175_75, am_bd_some, Option.toList_some, Option.toList_none, List.cons_append, List.nil_append, am_w8_0, am_w8_1, am_w8_2, am_w8_3, am_w8_4, eq_self, or_true, true_or, am_kd_sI, am_kd_sL, am_kd_sR, am_tc_sI, am_tc_sL, am_tc_sR, am_len_sI, am_len_sL, am_len_sR, am_rfs, if_true, if_false, am_rdL_sI, am_rR_sL, am_rt_cq, am_kd_cq, am_tc_cq, am_len_cq, am_rd_sL, am_rd_sR, am_rdL_sR, y, okK_211 ok, c0, o1]
    · rw [if_neg cK]
      have c0 := eq_false (fun w => cK (q0.mp w))
      have sL := t_K_lt cK
      have ok1 : am_okH (am_sI h 211 23 1) := ok
      have H1 : m_st t L g (am_sI h 211 23 1) s q s := H.sI 211 23 1 (by omega)
      have k1 : ∀ k, (am_sI h 211 23 1).1 221 k = h.1 221 k := fun k => c_ne _ _ _ _ _ _ (by decide)
      have T1 := A1 h (am_sI h 211 23 1) k1 (by rw [c_rw, if_neg (by decide)]) (by rw [c_rw, if_neg (by decide)])
      have e131 : (am_sI h 211 23 1).1 211 13 = nI (t_K t L s) := by rw [c_rw, if_neg (by decide)]; exact e13
      have q2 : nI (t_K t L s) = 2 ↔ t_K t L s = 2 := nI_eq (b := 2) (by omega) (by decide)
      have s2 : ∀ (v : Int32) (h2 : am_H), (v = 0 ∨ v = 1) → am_den (m_lk so) [.ref 211, .long (lN (m_W t L s)), .int (nI s)] (am_sI h 211 23 1) = some (some (.int v), h2) → am_ev 175 2 [some (.ref 211), some (.int (nI so)), some (.int 1), x3] [] h = am_ev 175 45 [some (.ref 211), some (.int (nI so)), some (.int 1), some (.int (nI s))] [.int v] h2 := by
        intro v h2 hv dl
        have dl' := den_lineOf _ ok1 so (m_W t L s) hso (nI s) v h2 hv dl
        unfold m_W at dl'
        by_cases c2 : t_K t L s = 2
        · have c2' := eq_true (q2.mpr c2)
          rw [if_pos c2] at dl'
          simp only [e175_0, e175_1, e175_2, e175_3, e175_6, e175_7, e175_10, e175_13, e175_14, e175_17, e175_18, e175_19, e175_20, e175_23, e175_24, e175_25, e175_26, e175_29, e175_30, e175_33, e175_34, e175_37, e175_40, e175_41, e175_42, e175_46, e175_47, e175_50, e175_51, e175_54, e175_55, e175_58, e175_59, e175_62, e175_63, e175_64, e175_67, e175_68, e175_71, e175_74, e175_75, am_bd_some, Option.toList_some, Option.toList_none, List.cons_append, List.nil_append, am_w8_0, am_w8_1, am_w8_2, am_w8_3, am_w8_4, eq_self, or_true, true_or, am_kd_sI, am_kd_sL, am_kd_sR, am_tc_sI, am_tc_sL, am_tc_sR, am_len_sI, am_len_sL, am_len_sR, am_rfs, if_true, if_false, am_rdL_sI, am_rR_sL, am_rt_cq, am_kd_cq, am_tc_cq, am_len_cq, am_rd_sL, am_rd_sR, am_rdL_sR, y, okK_211 ok, c0, e12, o1, okK_211 ok1, e131, c2', not_true, e15, dl']
        · have c2' := eq_false (fun w => c2 (q2.mp w))
          have z0 : (0 : Int64) = lN 0 := rfl
          rw [if_neg c2] at dl'
          simp only [e175_0, e175_1, e175_2, e175_3, e175_6, e175_7, e175_10, e175_13, e175_14, e175_17, e175_18, e175_19, e175_20, e175_23, e175_24, e175_25, e175_26, e175_29, e175_30, e175_33, e175_34, e175_37, e175_40, e175_41, e175_42, e175_46, e175_47, e175_50, e175_51, e175_54, e175_55, e175_58, e175_59, e175_62, e175_63, e175_64, e175_67, e175_68, e175_71, e175_74, e175_75, am_bd_some, Option.toList_some, Option.toList_none, List.cons_append, List.nil_append, am_w8_0, am_w8_1, am_w8_2, am_w8_3, am_w8_4, eq_self, or_true, true_or, am_kd_sI, am_kd_sL, am_kd_sR, am_tc_sI, am_tc_sL, am_tc_sR, am_len_sI, am_len_sL, am_len_sR, am_rfs, if_true, if_false, am_rdL_sI, am_rR_sL, am_rt_cq, am_kd_cq, am_tc_cq, am_len_cq, am_rd_sL, am_rd_sR, am_rdL_sR, y, okK_211 ok, c0, e12, o1, okK_211 ok1, e131, c2', not_false_eq_true, z0, dl']
      have bad : ∀ (h2 : am_H) (p : Nat), am_den (m_lk so) [.ref 211, .long (lN (m_W t L s)), .int (nI s)] (am_sI h 211 23 1) = some (some (.int 0), h2) → m_bk g h2 p → ∃ h' : am_H, am_ev 175 2 [some (.ref 211), some (.int (nI so)), some (.int 1), x3] [] h = some (some (.int 0), h') ∧ m_bk g h' p := by
        intro h2 p dl b
        refine ⟨h2, ?_, b⟩
        rw [s2 0 h2 o0 dl]
        simp only [e175_0, e175_1, e175_2, e175_3, e175_6, e175_7, e175_10, e175_13, e175_14, e175_17, e175_18, e175_19, e175_20, e175_23, e175_24, e175_25, e175_26, e175_29, e175_30, e175_33, e175_34, e175_37, e175_40, e175_41, e175_42, e175_45, e175_46, e175_47, e175_50, e175_51, e175_54, e175_55, e175_58, e175_59, e175_62, e175_63, e175_64, e175_67, e175_68, e175_71, e175_74, e175_75, am_bd_some, Option.toList_some, Option.toList_none, List.cons_append, List.nil_append, am_w8_0, am_w8_1, am_w8_2, am_w8_3, am_w8_4, eq_self, or_true, true_or, am_kd_sI, am_kd_sL, am_kd_sR, am_tc_sI, am_tc_sL, am_tc_sR, am_len_sI, am_len_sL, am_len_sR, am_rfs, if_true, if_false, am_rdL_sI, am_rR_sL, am_rt_cq, am_kd_cq, am_tc_cq, am_len_cq, am_rd_sL, am_rd_sR, am_rdL_sR, o0]
      obtain ⟨W1, W2, W3⟩ := m_word t L so s hb sl.2
      cases hl : t_ln t L so s with
      | none =>
        obtain ⟨h2, d2, b2⟩ := A3 t L g _ s q H1 (m_W t L s) W3 (W2 hl)
        exact bad h2 s d2 b2
      | some i =>
        obtain ⟨i18, is, iw, iK⟩ := t_ln_lt hl
        have ea := (t_CK t L s).2.2 (by omega)
        have el := t_E_le t L s sl.2
        have gt := el.2.2 sL
        have pl := t_ps_le t L (t_E t L s) el.2.1 ((ln_r i).length + 1)
        have F := A2 t L g _ s q H1 sL (c_eq _ _ _ _) d (fun w => T1.1 d (hd w)) (T1.2 hw) i i18 is
        rw [← W1 i hl] at F
        unfold m_lr at F
        dsimp only
        rw [ea]
        unfold t_rw
        revert F
        cases hf : t_fb t L (t_E t L s) (ln_r i).length 0 with
        | some p =>
          rintro ⟨h2, d2, b2⟩
          exact bad h2 p d2 b2
        | none =>
          rintro ⟨h2, d2, S2, M2, w2⟩
          have ok2 := S2.1.1
          have f13 := S2.2.2.2.1.2.2.1
          have kl2 := (t_CK t L (t_nx t L (t_E t L s) (ln_r i).length)).1
          have q4 : h2.1 211 13 = 4 ↔ t_K t L (t_nx t L (t_E t L s) (ln_r i).length) = 4 := by rw [f13]; exact nI_eq (b := 4) (by omega) (by decide)
          dsimp only
          by_cases c4 : t_K t L (t_nx t L (t_E t L s) (ln_r i).length) = 4
          · rw [if_pos c4]
            have c4' := eq_true (q4.mpr c4)
            obtain ⟨h3, d3, S3, a1, a2, a3⟩ := m_tok (S2.le (Nat.le_succ _)) (t_K_lt (show t_K t L (t_nx t L (t_E t L s) (ln_r i).length) ≠ 0 by omega))
            have T3 := A1 h2 h3 a1 (a3 21 (by decide)) (a3 22 (by decide))
            have s3 : am_ev 175 45 [some (.ref 211), some (.int (nI so)), some (.int 1), some (.int (nI s))] [.int 1] h2 = am_ev 175 2 [some (.ref 211), some (.int (nI so)), some (.int 1), some (.int (nI s))] [] h3 := by
              simp only [e175_0, e175_1, e175_3, e175_6, e175_7, e175_10, e175_13, e175_14, e175_17, e175_18, e175_19, e175_20, e175_23, e175_24, e175_25, e175_26, e175_29, e175_30, e175_33, e175_34, e175_37, e175_40, e175_41, e175_42, e175_45, e175_46, e175_47, e175_50, e175_51, e175_54, e175_55, e175_58, e175_59, e175_62, e175_63, e175_64, e175_67, e175_68, e175_71, e175_74, e175_75, am_bd_some, Option.toList_some, Option.toList_none, List.cons_append, List.nil_append, am_w8_0, am_w8_1, am_w8_2, am_w8_3, am_w8_4, eq_self, or_true, true_or, am_kd_sI, am_kd_sL, am_kd_sR, am_tc_sI, am_tc_sL, am_tc_sR, am_len_sI, am_len_sL, am_len_sR, am_rfs, if_true, if_false, am_rdL_sI, am_rR_sL, am_rt_cq, am_kd_cq, am_tc_cq, am_len_cq, am_rd_sL, am_rd_sR, am_rdL_sR, y, okK_211 ok2, c4', d3]
            rw [s2 1 h2 o1 d2, s3]
            refine ih _ _ _ h3 _ (by omega) pl.2 S3 (fun w => ?_) (T3.2 w2)
            rw [if_pos w]
            exact T3.1 _ (M2 w)
          · rw [if_neg c4]
            have c4' := eq_false (fun w => c4 (q4.mp w))
            obtain ⟨h3, d3, b3⟩ := m_fails S2
            refine ⟨h3, ?_, b3⟩
            rw [s2 1 h2 o1 d2]
            simp only [e175_0, e175_1, e175_2, e175_3, e175_6, e175_7, e175_10, e175_13, e175_14, e175_17, e175_18, e175_19, e175_20, e175_23, e175_24, e175_25, e175_26, e175_29, e175_30, e175_33, e175_34, e175_37, e175_40, e175_41, e175_42, e175_45, e175_46, e175_47, e175_50, e175_51, e175_54, e175_55, e175_58, e175_59, e175_62, e175_63, e175_64, e175_67, e175_68, e175_71, e175_74, e175_75, am_bd_some, Option.toList_some, Option.toList_none, List.cons_append, List.nil_append, am_w8_0, am_w8_1, am_w8_2, am_w8_3, am_w8_4, eq_self, or_true, true_or, am_kd_sI, am_kd_sL, am_kd_sR, am_tc_sI, am_tc_sL, am_tc_sR, am_len_sI, am_len_sL, am_len_sR, am_rfs, if_true, if_false, am_rdL_sI, am_rR_sL, am_rt_cq, am_kd_cq, am_tc_cq, am_len_cq, am_rd_sL, am_rd_sR, am_rdL_sR, y, okK_211 ok2, c4', d3, o0]
theorem m_lines {D : Type} {mr : am_H → D → Prop} {mw : am_H → Prop} {full : Nat → D → Bool} {upd : Nat → (Nat → Nat) → D → D} {so : Nat} (A : m_dr mr mw full upd so) (hso : so < 4) (t : Nat → Nat) (L : Nat) (g : am_H) (okg : am_okH g) (hb : ∀ k, k < L → t k < 256) (d : D) (h : am_H) (H : m_st t L g h (t_S t L 0) (0, 0) (t_S t L 0)) (hd : mr h d) (hw : mw h) :
    (match t_ll full upd t L so (L + 1) 0 (0, 0) d with
    | .inl p => ∃ h' : am_H, am_den 175 [.ref 211, .int (nI so)] h = some (some (.int 0), h') ∧ m_bk g h' p
    | .inr r => ∃ h' : am_H, am_den 175 [.ref 211, .int (nI so)] h = some (some (.int 1), h') ∧ m_st t L g h' L r.1 L ∧ (r.1.1 = 0 → mr h' r.2) ∧ mw h') := by
  have s0 : am_den 175 [.ref 211, .int (nI so)] h = am_ev 175 2 [some (.ref 211), some (.int (nI so)), some (.int 1), none] [] h := by
    show am_ev 175 0 [some (.ref 211), some (.int (nI so)), none, none] [] h = _
    simp only [e175_0, e175_1, e175_3, e175_6, e175_7, e175_10, e175_13, e175_14, e175_17, e175_18, e175_19, e175_20, e175_23, e175_24, e175_25, e175_26, e175_29, e175_30, e175_33, e175_34, e175_37, e175_40, e175_41, e175_42, e175_45, e175_46, e175_47, e175_50, e175_51, e175_54, e175_55, e175_58, e175_59, e175_62, e175_63, e175_64, e175_67, e175_68, e175_71, e175_74, e175_75, am_bd_some, Option.toList_some, Option.toList_none, List.cons_append, List.nil_append, am_w8_0, am_w8_1, am_w8_2, am_w8_3, am_w8_4, eq_self, or_true, true_or, am_kd_sI, am_kd_sL, am_kd_sR, am_tc_sI, am_tc_sL, am_tc_sR, am_len_sI, am_len_sL, am_len_sR, am_rfs, if_true, if_false, am_rdL_sI, am_rR_sL, am_rt_cq, am_kd_cq, am_tc_cq, am_len_cq, am_rd_sL, am_rd_sR, am_rdL_sR]
  rw [s0]
  exact m_rl A hso t L g okg hb (L + 1) 0 (0, 0) d h none (by omega) (Nat.zero_le _) H (fun _ => hd) hw
theorem m_dr_f : m_dr f_mr f_mw f_full f_upd 0 := by
  refine ⟨fun h h' e x y => ⟨fun d H => ?_, fun H => ?_⟩, fun t L g h s q H hs G d R Rw i hi is => m_fl H hs G d R Rw i hi is, fun t L g h s q H W hW hn => m_fl_n H W hW hn⟩
  · have e' : (fun k => h'.1 221 k) = (fun k => h.1 221 k) := funext e
    unfold f_mr at H ⊢
    rw [e', x, y]
    exact H
  · obtain ⟨n, n6, e7⟩ := H
    exact ⟨n, n6, (e 7).trans e7⟩
theorem m_dr_d : m_dr d_mr d_mw d_full d_upd 1 := by
  refine ⟨fun h h' e x y => ⟨fun d H => ?_, fun H => ?_⟩, fun t L g h s q H hs G d R Rw i hi is => m_dl H hs G d R Rw i hi is, fun t L g h s q H W hW hn => m_dl_n H W hW hn⟩
  · have e' : (fun k => h'.1 221 k) = (fun k => h.1 221 k) := funext e
    unfold d_mr at H ⊢
    rw [e']
    exact H
  · obtain ⟨n, n6, e7⟩ := H
    exact ⟨n, n6, (e 0).trans e7⟩
theorem m_dr_b : m_dr b_mr b_mw b_full b_upd 2 := by
  refine ⟨fun h h' e x y => ⟨fun d H => ?_, fun H => ?_⟩, fun t L g h s q H hs G d R Rw i hi is => m_bl H hs G d R Rw i hi is, fun t L g h s q H W hW hn => m_bl_n H W hW hn⟩
  · have e' : (fun k => h'.1 221 k) = (fun k => h.1 221 k) := funext e
    unfold b_mr at H ⊢
    rw [e']
    exact H
  · obtain ⟨n0, n1, n2, nn, e0, e1, e2⟩ := H
    exact ⟨n0, n1, n2, nn, (e 0).trans e0, (e 1).trans e1, (e 2).trans e2⟩
theorem m_dr_l : m_dr l_mr l_mw l_full l_upd 3 := by
  refine ⟨fun h h' e x y => ⟨fun d H => ?_, fun H => ?_⟩, fun t L g h s q H hs G d R Rw i hi is => m_ln3 H hs G d R Rw i hi is, fun t L g h s q H W hW hn => m_ll_n H W hW hn⟩
  · have e' : (fun k => h'.1 221 k) = (fun k => h.1 221 k) := funext e
    unfold l_mr at H ⊢
    rw [e']
    exact H
  · obtain ⟨n, n6, e7⟩ := H
    exact ⟨n, n6, (e 0).trans e7⟩
