/-! part 54: caught, spread -/
theorem e121_0 {ls : List (Option Value)} {st : List Value} {h : am_H} {a : Nat} : am_ev 121 0 (some (.ref a) :: ls) (st) h = am_ev 121 1 (some (.ref a) :: ls) (.ref a :: st) h := am_ev_step (q := (1, some (.ref a) :: ls, .ref a :: st, h)) _ (.aload_n 0) 1 am_my_121 (by decide +kernel) rfl
theorem e121_1 {ls : List (Option Value)} {st : List Value} {h : am_H} {l0 : Option Value} {a : Int32} : am_ev 121 1 (l0 :: some (.int a) :: ls) (st) h = am_ev 121 2 (l0 :: some (.int a) :: ls) (.int a :: st) h := am_ev_step (q := (2, l0 :: some (.int a) :: ls, .int a :: st, h)) _ (.iload_n 1) 1 am_my_121 (by decide +kernel) rfl
theorem e121_2 {ls : List (Option Value)} {st : List Value} {h : am_H} {l0 l1 : Option Value} {a : Int32} : am_ev 121 2 (l0 :: l1 :: some (.int a) :: ls) (st) h = am_ev 121 3 (l0 :: l1 :: some (.int a) :: ls) (.int a :: st) h := am_ev_step (q := (3, l0 :: l1 :: some (.int a) :: ls, .int a :: st, h)) _ (.iload_n 2) 1 am_my_121 (by decide +kernel) rfl
theorem e121_3 {ls : List (Option Value)} {st : List Value} {h : am_H} {p0 : Int32} {p1 : Int32} {o : Nat} (hw : am_w8 st ≤ 8) (hk : am_kd h o = some (.inl 10)) : am_ev 121 3 ls (.int p1 :: .int p0 :: .ref o :: st) h = am_bd (am_den 114 [.ref o, .int p0, .int p1] h) (fun v h1 => am_ev 121 6 ls (v.toList ++ st) h1) := am_u_cV (idx := 238) (wn := 4155) (as := [.int p0, .int p1]) am_my_121 (by decide +kernel) (Or.inl (by decide +kernel)) am_my_114 (by decide +kernel) rfl ⟨Nat.le_of_ble_eq_true rfl, rfl⟩ (by decide +kernel) hw hk
theorem e121_6 {ls : List (Option Value)} {st : List Value} {h : am_H} {a : Int32} : am_ev 121 6 ls (.int a :: st) h = if a = 0 then am_ev 121 25 ls st h else am_ev 121 9 ls st h := am_u_if1 (c := .eq) (off := 19) am_my_121 (by decide +kernel) (by decide)
theorem e121_9 {ls : List (Option Value)} {st : List Value} {h : am_H} {a : Nat} : am_ev 121 9 (some (.ref a) :: ls) (st) h = am_ev 121 10 (some (.ref a) :: ls) (.ref a :: st) h := am_ev_step (q := (10, some (.ref a) :: ls, .ref a :: st, h)) _ (.aload_n 0) 1 am_my_121 (by decide +kernel) rfl
theorem e121_10 {ls : List (Option Value)} {st : List Value} {h : am_H} {o : Nat} (hk : am_kd h o = some (.inl 10)) : am_ev 121 10 ls (.ref o :: st) h = am_ev 121 13 ls (va_rf (h.2.2.1 o 0) :: st) h := am_u_gfR (idx := 10) (wn := 2146) (a := 0) am_my_121 (by decide +kernel) (by decide +kernel) (by decide +kernel) hk
theorem e121_13 {ls : List (Option Value)} {st : List Value} {h : am_H} {o : Nat} (hk : am_kd h o = some (.inl 8)) : am_ev 121 13 ls (.ref o :: st) h = am_ev 121 16 ls (va_rf (h.2.2.1 o 5) :: st) h := am_u_gfR (idx := 116) (wn := 1191) (a := 0) am_my_121 (by decide +kernel) (by decide +kernel) (by decide +kernel) hk
theorem e121_16 {ls : List (Option Value)} {st : List Value} {h : am_H} {l0 : Option Value} {a : Int32} : am_ev 121 16 (l0 :: some (.int a) :: ls) (st) h = am_ev 121 17 (l0 :: some (.int a) :: ls) (.int a :: st) h := am_ev_step (q := (17, l0 :: some (.int a) :: ls, .int a :: st, h)) _ (.iload_n 1) 1 am_my_121 (by decide +kernel) rfl
theorem e121_17f {ls : List (Option Value)} {st : List Value} {h : am_H} {i : Int32} {a : Nat} (ht : am_tc h a = some 4) : am_ev 121 17 ls (.int i :: .ref a :: st) h = if am_ix i (am_len h a) = true then am_ev 121 18 ls (va_rf (h.2.2.1 a i.toNatClampNeg) :: st) h else none := am_u_rA am_my_121 (by decide +kernel) ht (by decide)
theorem e121_17d {ls : List (Option Value)} {st : List Value} {h : am_H} {i : Int32} {a : Nat} (ht : am_tc h a = some 5) : am_ev 121 17 ls (.int i :: .ref a :: st) h = if am_ix i (am_len h a) = true then am_ev 121 18 ls (va_rf (h.2.2.1 a i.toNatClampNeg) :: st) h else none := am_u_rA am_my_121 (by decide +kernel) ht (by decide)
theorem e121_17b {ls : List (Option Value)} {st : List Value} {h : am_H} {i : Int32} {a : Nat} (ht : am_tc h a = some 6) : am_ev 121 17 ls (.int i :: .ref a :: st) h = if am_ix i (am_len h a) = true then am_ev 121 18 ls (va_rf (h.2.2.1 a i.toNatClampNeg) :: st) h else none := am_u_rA am_my_121 (by decide +kernel) ht (by decide)
theorem e121_17l {ls : List (Option Value)} {st : List Value} {h : am_H} {i : Int32} {a : Nat} (ht : am_tc h a = some 7) : am_ev 121 17 ls (.int i :: .ref a :: st) h = if am_ix i (am_len h a) = true then am_ev 121 18 ls (va_rf (h.2.2.1 a i.toNatClampNeg) :: st) h else none := am_u_rA am_my_121 (by decide +kernel) ht (by decide)
theorem e121_17t {ls : List (Option Value)} {st : List Value} {h : am_H} {i : Int32} {a : Nat} (ht : am_tc h a = some 8) : am_ev 121 17 ls (.int i :: .ref a :: st) h = if am_ix i (am_len h a) = true then am_ev 121 18 ls (va_rf (h.2.2.1 a i.toNatClampNeg) :: st) h else none := am_u_rA am_my_121 (by decide +kernel) ht (by decide)
theorem e121_18 {ls : List (Option Value)} {st : List Value} {h : am_H} {o : Nat} (hk : am_kd h o = some (.inl 3)) : am_ev 121 18 ls (.ref o :: st) h = am_ev 121 21 ls (.int (h.1 o 5) :: st) h := am_u_gfI (idx := 124) (wn := 1067) am_my_121 (by decide +kernel) (by decide +kernel) (by decide +kernel) hk
theorem e121_21 {ls : List (Option Value)} {st : List Value} {h : am_H} : am_ev 121 21 (ls) (st) h = am_ev 121 22 (ls) (.int (2) :: st) h := am_ev_step (q := (22, ls, .int (2) :: st, h)) _ (.iconst (2)) 1 am_my_121 (by decide +kernel) rfl
theorem e121_22 {ls : List (Option Value)} {st : List Value} {h : am_H} {a b : Int32} : am_ev 121 22 ls (.int b :: .int a :: st) h = if b ≤ a then am_ev 121 27 ls st h else am_ev 121 25 ls st h := am_u_if2 (c := .ge) (off := 5) am_my_121 (by decide +kernel) (by decide)
theorem e121_25 {ls : List (Option Value)} {st : List Value} {h : am_H} : am_ev 121 25 (ls) (st) h = am_ev 121 26 (ls) (.int (-1) :: st) h := am_ev_step (q := (26, ls, .int (-1) :: st, h)) _ (.iconst (-1)) 1 am_my_121 (by decide +kernel) rfl
theorem e121_26 {ls : List (Option Value)} {h : am_H} {v : Int32} : am_ev 121 26 ls [.int v] h = some (some (.int v), h) := am_u_rtI am_my_121 (by decide +kernel) rfl
theorem e121_27 {ls : List (Option Value)} {st : List Value} {h : am_H} {a : Nat} : am_ev 121 27 (some (.ref a) :: ls) (st) h = am_ev 121 28 (some (.ref a) :: ls) (.ref a :: st) h := am_ev_step (q := (28, some (.ref a) :: ls, .ref a :: st, h)) _ (.aload_n 0) 1 am_my_121 (by decide +kernel) rfl
theorem e121_28 {ls : List (Option Value)} {st : List Value} {h : am_H} {o : Nat} (hk : am_kd h o = some (.inl 10)) : am_ev 121 28 ls (.ref o :: st) h = am_ev 121 31 ls (va_rf (h.2.2.1 o 4) :: st) h := am_u_gfR (idx := 34) (wn := 2150) (a := 0) am_my_121 (by decide +kernel) (by decide +kernel) (by decide +kernel) hk
theorem e121_31 {ls : List (Option Value)} {st : List Value} {h : am_H} {a : Nat} : am_ev 121 31 (some (.ref a) :: ls) (st) h = am_ev 121 32 (some (.ref a) :: ls) (.ref a :: st) h := am_ev_step (q := (32, some (.ref a) :: ls, .ref a :: st, h)) _ (.aload_n 0) 1 am_my_121 (by decide +kernel) rfl
theorem e121_32 {ls : List (Option Value)} {st : List Value} {h : am_H} {o : Nat} (hk : am_kd h o = some (.inl 10)) : am_ev 121 32 ls (.ref o :: st) h = am_ev 121 35 ls (va_rf (h.2.2.1 o 0) :: st) h := am_u_gfR (idx := 10) (wn := 2146) (a := 0) am_my_121 (by decide +kernel) (by decide +kernel) (by decide +kernel) hk
theorem e121_35 {ls : List (Option Value)} {st : List Value} {h : am_H} {o : Nat} (hk : am_kd h o = some (.inl 8)) : am_ev 121 35 ls (.ref o :: st) h = am_ev 121 38 ls (va_rf (h.2.2.1 o 5) :: st) h := am_u_gfR (idx := 116) (wn := 1191) (a := 0) am_my_121 (by decide +kernel) (by decide +kernel) (by decide +kernel) hk
theorem e121_38 {ls : List (Option Value)} {st : List Value} {h : am_H} {l0 : Option Value} {a : Int32} : am_ev 121 38 (l0 :: some (.int a) :: ls) (st) h = am_ev 121 39 (l0 :: some (.int a) :: ls) (.int a :: st) h := am_ev_step (q := (39, l0 :: some (.int a) :: ls, .int a :: st, h)) _ (.iload_n 1) 1 am_my_121 (by decide +kernel) rfl
theorem e121_39f {ls : List (Option Value)} {st : List Value} {h : am_H} {i : Int32} {a : Nat} (ht : am_tc h a = some 4) : am_ev 121 39 ls (.int i :: .ref a :: st) h = if am_ix i (am_len h a) = true then am_ev 121 40 ls (va_rf (h.2.2.1 a i.toNatClampNeg) :: st) h else none := am_u_rA am_my_121 (by decide +kernel) ht (by decide)
theorem e121_39d {ls : List (Option Value)} {st : List Value} {h : am_H} {i : Int32} {a : Nat} (ht : am_tc h a = some 5) : am_ev 121 39 ls (.int i :: .ref a :: st) h = if am_ix i (am_len h a) = true then am_ev 121 40 ls (va_rf (h.2.2.1 a i.toNatClampNeg) :: st) h else none := am_u_rA am_my_121 (by decide +kernel) ht (by decide)
theorem e121_39b {ls : List (Option Value)} {st : List Value} {h : am_H} {i : Int32} {a : Nat} (ht : am_tc h a = some 6) : am_ev 121 39 ls (.int i :: .ref a :: st) h = if am_ix i (am_len h a) = true then am_ev 121 40 ls (va_rf (h.2.2.1 a i.toNatClampNeg) :: st) h else none := am_u_rA am_my_121 (by decide +kernel) ht (by decide)
theorem e121_39l {ls : List (Option Value)} {st : List Value} {h : am_H} {i : Int32} {a : Nat} (ht : am_tc h a = some 7) : am_ev 121 39 ls (.int i :: .ref a :: st) h = if am_ix i (am_len h a) = true then am_ev 121 40 ls (va_rf (h.2.2.1 a i.toNatClampNeg) :: st) h else none := am_u_rA am_my_121 (by decide +kernel) ht (by decide)
theorem e121_39t {ls : List (Option Value)} {st : List Value} {h : am_H} {i : Int32} {a : Nat} (ht : am_tc h a = some 8) : am_ev 121 39 ls (.int i :: .ref a :: st) h = if am_ix i (am_len h a) = true then am_ev 121 40 ls (va_rf (h.2.2.1 a i.toNatClampNeg) :: st) h else none := am_u_rA am_my_121 (by decide +kernel) ht (by decide)
theorem e121_40 {ls : List (Option Value)} {st : List Value} {h : am_H} {p0 : Nat} {o : Nat} (hw : am_w8 st ≤ 8) (hk : am_kd h o = some (.inl 4)) : am_ev 121 40 ls (.ref p0 :: .ref o :: st) h = am_bd (am_den 72 [.ref o, .ref p0] h) (fun v h1 => am_ev 121 43 ls (v.toList ++ st) h1) := am_u_cV (idx := 130) (wn := 3210) (as := [.ref p0]) am_my_121 (by decide +kernel) (Or.inl (by decide +kernel)) am_my_72 (by decide +kernel) rfl ⟨Nat.le_of_ble_eq_true rfl, rfl⟩ (by decide +kernel) hw hk
theorem e121_43 {ls : List (Option Value)} {st : List Value} {h : am_H} {a : Nat} : am_ev 121 43 (some (.ref a) :: ls) (st) h = am_ev 121 44 (some (.ref a) :: ls) (.ref a :: st) h := am_ev_step (q := (44, some (.ref a) :: ls, .ref a :: st, h)) _ (.aload_n 0) 1 am_my_121 (by decide +kernel) rfl
theorem e121_44 {ls : List (Option Value)} {st : List Value} {h : am_H} {o : Nat} (hk : am_kd h o = some (.inl 10)) : am_ev 121 44 ls (.ref o :: st) h = am_ev 121 47 ls (va_rf (h.2.2.1 o 4) :: st) h := am_u_gfR (idx := 34) (wn := 2150) (a := 0) am_my_121 (by decide +kernel) (by decide +kernel) (by decide +kernel) hk
theorem e121_47 {ls : List (Option Value)} {st : List Value} {h : am_H} {a : Nat} : am_ev 121 47 (some (.ref a) :: ls) (st) h = am_ev 121 48 (some (.ref a) :: ls) (.ref a :: st) h := am_ev_step (q := (48, some (.ref a) :: ls, .ref a :: st, h)) _ (.aload_n 0) 1 am_my_121 (by decide +kernel) rfl
theorem e121_48 {ls : List (Option Value)} {st : List Value} {h : am_H} {o : Nat} (hk : am_kd h o = some (.inl 10)) : am_ev 121 48 ls (.ref o :: st) h = am_ev 121 51 ls (va_rf (h.2.2.1 o 0) :: st) h := am_u_gfR (idx := 10) (wn := 2146) (a := 0) am_my_121 (by decide +kernel) (by decide +kernel) (by decide +kernel) hk
theorem e121_51 {ls : List (Option Value)} {st : List Value} {h : am_H} {o : Nat} (hk : am_kd h o = some (.inl 8)) : am_ev 121 51 ls (.ref o :: st) h = am_ev 121 54 ls (va_rf (h.2.2.1 o 6) :: st) h := am_u_gfR (idx := 230) (wn := 1193) (a := 0) am_my_121 (by decide +kernel) (by decide +kernel) (by decide +kernel) hk
theorem e121_54 {ls : List (Option Value)} {st : List Value} {h : am_H} {l0 l1 : Option Value} {a : Int32} : am_ev 121 54 (l0 :: l1 :: some (.int a) :: ls) (st) h = am_ev 121 55 (l0 :: l1 :: some (.int a) :: ls) (.int a :: st) h := am_ev_step (q := (55, l0 :: l1 :: some (.int a) :: ls, .int a :: st, h)) _ (.iload_n 2) 1 am_my_121 (by decide +kernel) rfl
theorem e121_55f {ls : List (Option Value)} {st : List Value} {h : am_H} {i : Int32} {a : Nat} (ht : am_tc h a = some 4) : am_ev 121 55 ls (.int i :: .ref a :: st) h = if am_ix i (am_len h a) = true then am_ev 121 56 ls (va_rf (h.2.2.1 a i.toNatClampNeg) :: st) h else none := am_u_rA am_my_121 (by decide +kernel) ht (by decide)
theorem e121_55d {ls : List (Option Value)} {st : List Value} {h : am_H} {i : Int32} {a : Nat} (ht : am_tc h a = some 5) : am_ev 121 55 ls (.int i :: .ref a :: st) h = if am_ix i (am_len h a) = true then am_ev 121 56 ls (va_rf (h.2.2.1 a i.toNatClampNeg) :: st) h else none := am_u_rA am_my_121 (by decide +kernel) ht (by decide)
theorem e121_55b {ls : List (Option Value)} {st : List Value} {h : am_H} {i : Int32} {a : Nat} (ht : am_tc h a = some 6) : am_ev 121 55 ls (.int i :: .ref a :: st) h = if am_ix i (am_len h a) = true then am_ev 121 56 ls (va_rf (h.2.2.1 a i.toNatClampNeg) :: st) h else none := am_u_rA am_my_121 (by decide +kernel) ht (by decide)
theorem e121_55l {ls : List (Option Value)} {st : List Value} {h : am_H} {i : Int32} {a : Nat} (ht : am_tc h a = some 7) : am_ev 121 55 ls (.int i :: .ref a :: st) h = if am_ix i (am_len h a) = true then am_ev 121 56 ls (va_rf (h.2.2.1 a i.toNatClampNeg) :: st) h else none := am_u_rA am_my_121 (by decide +kernel) ht (by decide)
theorem e121_55t {ls : List (Option Value)} {st : List Value} {h : am_H} {i : Int32} {a : Nat} (ht : am_tc h a = some 8) : am_ev 121 55 ls (.int i :: .ref a :: st) h = if am_ix i (am_len h a) = true then am_ev 121 56 ls (va_rf (h.2.2.1 a i.toNatClampNeg) :: st) h else none := am_u_rA am_my_121 (by decide +kernel) ht (by decide)
theorem e121_56 {ls : List (Option Value)} {st : List Value} {h : am_H} {l0 l1 l2 : Option Value} {a : Int32} : am_ev 121 56 (l0 :: l1 :: l2 :: some (.int a) :: ls) (st) h = am_ev 121 57 (l0 :: l1 :: l2 :: some (.int a) :: ls) (.int a :: st) h := am_ev_step (q := (57, l0 :: l1 :: l2 :: some (.int a) :: ls, .int a :: st, h)) _ (.iload_n 3) 1 am_my_121 (by decide +kernel) rfl
theorem e121_57 {ls : List (Option Value)} {st : List Value} {h : am_H} {p0 : Nat} {p1 : Int32} {o : Nat} (hw : am_w8 st ≤ 8) (hk : am_kd h o = some (.inl 4)) : am_ev 121 57 ls (.int p1 :: .ref p0 :: .ref o :: st) h = am_bd (am_den 115 [.ref o, .ref p0, .int p1] h) (fun v h1 => am_ev 121 60 ls (v.toList ++ st) h1) := am_u_cV (idx := 241) (wn := 4159) (as := [.ref p0, .int p1]) am_my_121 (by decide +kernel) (Or.inl (by decide +kernel)) am_my_115 (by decide +kernel) rfl ⟨Nat.le_of_ble_eq_true rfl, rfl⟩ (by decide +kernel) hw hk
theorem e121_60 {ls : List (Option Value)} {st : List Value} {h : am_H} {l0 l1 l2 : Option Value} {a : Int32} : am_ev 121 60 (l0 :: l1 :: l2 :: some (.int a) :: ls) (st) h = am_ev 121 61 (l0 :: l1 :: l2 :: some (.int a) :: ls) (.int a :: st) h := am_ev_step (q := (61, l0 :: l1 :: l2 :: some (.int a) :: ls, .int a :: st, h)) _ (.iload_n 3) 1 am_my_121 (by decide +kernel) rfl
theorem e121_61 {ls : List (Option Value)} {st : List Value} {h : am_H} {a b : Int32} : am_ev 121 61 ls (.int b :: .int a :: st) h = if ¬ a = b then am_ev 121 74 ls st h else am_ev 121 64 ls st h := am_u_if2 (c := .ne) (off := 13) am_my_121 (by decide +kernel) (by decide)
theorem e121_64 {ls : List (Option Value)} {st : List Value} {h : am_H} {a : Nat} : am_ev 121 64 (some (.ref a) :: ls) (st) h = am_ev 121 65 (some (.ref a) :: ls) (.ref a :: st) h := am_ev_step (q := (65, some (.ref a) :: ls, .ref a :: st, h)) _ (.aload_n 0) 1 am_my_121 (by decide +kernel) rfl
theorem e121_65 {ls : List (Option Value)} {st : List Value} {h : am_H} {o : Nat} (hk : am_kd h o = some (.inl 10)) : am_ev 121 65 ls (.ref o :: st) h = am_ev 121 68 ls (va_rf (h.2.2.1 o 4) :: st) h := am_u_gfR (idx := 34) (wn := 2150) (a := 0) am_my_121 (by decide +kernel) (by decide +kernel) (by decide +kernel) hk
theorem e121_68 {ls : List (Option Value)} {st : List Value} {h : am_H}  {o : Nat} (hw : am_w8 st ≤ 8) (hk : am_kd h o = some (.inl 4)) : am_ev 121 68 ls (.ref o :: st) h = am_bd (am_den 122 [.ref o] h) (fun v h1 => am_ev 121 71 ls (v.toList ++ st) h1) := am_u_cV (idx := 255) (wn := 4192) (as := []) am_my_121 (by decide +kernel) (Or.inl (by decide +kernel)) am_my_122 (by decide +kernel) rfl ⟨Nat.le_of_ble_eq_true rfl, rfl⟩ (by decide +kernel) hw hk
theorem e121_71 {ls : List (Option Value)} {st : List Value} {h : am_H} : am_ev 121 71 (ls) (st) h = am_ev 121 75 (ls) (st) h := am_ev_step (q := (75, ls, st, h)) _ (.goto (4)) 3 am_my_121 (by decide +kernel) rfl
theorem e121_74 {ls : List (Option Value)} {st : List Value} {h : am_H} : am_ev 121 74 (ls) (st) h = am_ev 121 75 (ls) (.int (-1) :: st) h := am_ev_step (q := (75, ls, .int (-1) :: st, h)) _ (.iconst (-1)) 1 am_my_121 (by decide +kernel) rfl
theorem e121_75 {ls : List (Option Value)} {h : am_H} {v : Int32} : am_ev 121 75 ls [.int v] h = some (some (.int v), h) := am_u_rtI am_my_121 (by decide +kernel) rfl
theorem e285_0 {ls : List (Option Value)} {st : List Value} {h : am_H} {a : Nat} : am_ev 285 0 (some (.ref a) :: ls) (st) h = am_ev 285 1 (some (.ref a) :: ls) (.ref a :: st) h := am_ev_step (q := (1, some (.ref a) :: ls, .ref a :: st, h)) _ (.aload_n 0) 1 am_my_285 (by decide +kernel) rfl
theorem e285_1 {ls : List (Option Value)} {st : List Value} {h : am_H} : am_ev 285 1 (ls) (st) h = am_ev 285 2 (ls) (.int (0) :: st) h := am_ev_step (q := (2, ls, .int (0) :: st, h)) _ (.iconst (0)) 1 am_my_285 (by decide +kernel) rfl
theorem e285_2 {ls : List (Option Value)} {st : List Value} {h : am_H} {o : Nat} {v : Int32} (hk : am_kd h o = some (.inl 11)) : am_ev 285 2 ls (.int v :: .ref o :: st) h = am_ev 285 5 ls st (am_sI h o 0 v) := am_u_pfI (idx := 87) (wn := 5132) am_my_285 (by decide +kernel) (by decide +kernel) (by decide +kernel) (by decide +kernel) hk
theorem e285_5 {ls : List (Option Value)} {st : List Value} {h : am_H} {a : Nat} : am_ev 285 5 (some (.ref a) :: ls) (st) h = am_ev 285 6 (some (.ref a) :: ls) (.ref a :: st) h := am_ev_step (q := (6, some (.ref a) :: ls, .ref a :: st, h)) _ (.aload_n 0) 1 am_my_285 (by decide +kernel) rfl
theorem e285_6 {ls : List (Option Value)} {st : List Value} {h : am_H} {l0 : Option Value} {a : Int32} : am_ev 285 6 (l0 :: some (.int a) :: ls) (st) h = am_ev 285 7 (l0 :: some (.int a) :: ls) (.int a :: st) h := am_ev_step (q := (7, l0 :: some (.int a) :: ls, .int a :: st, h)) _ (.iload_n 1) 1 am_my_285 (by decide +kernel) rfl
theorem e285_7 {ls : List (Option Value)} {st : List Value} {h : am_H} {l0 l1 : Option Value} {a : Int32} : am_ev 285 7 (l0 :: l1 :: some (.int a) :: ls) (st) h = am_ev 285 8 (l0 :: l1 :: some (.int a) :: ls) (.int a :: st) h := am_ev_step (q := (8, l0 :: l1 :: some (.int a) :: ls, .int a :: st, h)) _ (.iload_n 2) 1 am_my_285 (by decide +kernel) rfl
theorem e285_8 {ls : List (Option Value)} {st : List Value} {h : am_H} {p0 : Int32} {p1 : Int32} {o : Nat} (hw : am_w8 st ≤ 8) (hk : am_kd h o = some (.inl 11)) : am_ev 285 8 ls (.int p1 :: .int p0 :: .ref o :: st) h = am_bd (am_den 209 [.ref o, .int p0, .int p1] h) (fun v h1 => am_ev 285 11 ls (v.toList ++ st) h1) := am_u_cV (idx := 373) (wn := 7022) (as := [.int p0, .int p1]) am_my_285 (by decide +kernel) (Or.inl (by decide +kernel)) am_my_209 (by decide +kernel) rfl ⟨Nat.le_of_ble_eq_true rfl, rfl⟩ (by decide +kernel) hw hk
theorem e285_11 {ls : List (Option Value)} {st : List Value} {h : am_H} {a : Int32} : am_ev 285 11 ls (.int a :: st) h = if a = 0 then am_ev 285 43 ls st h else am_ev 285 14 ls st h := am_u_if1 (c := .eq) (off := 32) am_my_285 (by decide +kernel) (by decide)
theorem e285_14 {ls : List (Option Value)} {st : List Value} {h : am_H} {a : Nat} : am_ev 285 14 (some (.ref a) :: ls) (st) h = am_ev 285 15 (some (.ref a) :: ls) (.ref a :: st) h := am_ev_step (q := (15, some (.ref a) :: ls, .ref a :: st, h)) _ (.aload_n 0) 1 am_my_285 (by decide +kernel) rfl
theorem e285_15 {ls : List (Option Value)} {st : List Value} {h : am_H} {o : Nat} (hk : am_kd h o = some (.inl 11)) : am_ev 285 15 ls (.ref o :: st) h = am_ev 285 18 ls (.int (h.1 o 30) :: st) h := am_u_gfI (idx := 300) (wn := 5162) am_my_285 (by decide +kernel) (by decide +kernel) (by decide +kernel) hk
theorem e285_18 {ls : List (Option Value)} {st : List Value} {h : am_H} : am_ev 285 18 (ls) (st) h = am_ev 285 19 (ls) (.int (2) :: st) h := am_ev_step (q := (19, ls, .int (2) :: st, h)) _ (.iconst (2)) 1 am_my_285 (by decide +kernel) rfl
theorem e285_19 {ls : List (Option Value)} {st : List Value} {h : am_H} {a b : Int32} : am_ev 285 19 ls (.int b :: .int a :: st) h = if a < b then am_ev 285 43 ls st h else am_ev 285 22 ls st h := am_u_if2 (c := .lt) (off := 24) am_my_285 (by decide +kernel) (by decide)
theorem e285_22 {ls : List (Option Value)} {st : List Value} {h : am_H} {l0 l1 l2 : Option Value} {a : Int32} : am_ev 285 22 (l0 :: l1 :: l2 :: some (.int a) :: ls) (st) h = am_ev 285 23 (l0 :: l1 :: l2 :: some (.int a) :: ls) (.int a :: st) h := am_ev_step (q := (23, l0 :: l1 :: l2 :: some (.int a) :: ls, .int a :: st, h)) _ (.iload_n 3) 1 am_my_285 (by decide +kernel) rfl
theorem e285_23 {ls : List (Option Value)} {st : List Value} {h : am_H} : am_ev 285 23 (ls) (st) h = am_ev 285 24 (ls) (.int (0) :: st) h := am_ev_step (q := (24, ls, .int (0) :: st, h)) _ (.iconst (0)) 1 am_my_285 (by decide +kernel) rfl
theorem e285_24 {ls : List (Option Value)} {st : List Value} {h : am_H} {a : Nat} : am_ev 285 24 (some (.ref a) :: ls) (st) h = am_ev 285 25 (some (.ref a) :: ls) (.ref a :: st) h := am_ev_step (q := (25, some (.ref a) :: ls, .ref a :: st, h)) _ (.aload_n 0) 1 am_my_285 (by decide +kernel) rfl
theorem e285_25 {ls : List (Option Value)} {st : List Value} {h : am_H}  {o : Nat} (hw : am_w8 st ≤ 8) (hk : am_kd h o = some (.inl 11)) : am_ev 285 25 ls (.ref o :: st) h = am_bd (am_den 206 [.ref o] h) (fun v h1 => am_ev 285 28 ls (v.toList ++ st) h1) := am_u_cV (idx := 351) (wn := 7010) (as := []) am_my_285 (by decide +kernel) (Or.inl (by decide +kernel)) am_my_206 (by decide +kernel) rfl ⟨Nat.le_of_ble_eq_true rfl, rfl⟩ (by decide +kernel) hw hk
theorem e285_28 {ls : List (Option Value)} {st : List Value} {h : am_H} {p0 : Int32} {p1 : Int32} {p2 : Int32} (hw : am_w8 st ≤ 8) : am_ev 285 28 ls (.int p2 :: .int p1 :: .int p0 :: st) h = am_bd (am_den 168 [.int p0, .int p1, .int p2] h) (fun v h1 => am_ev 285 31 ls (v.toList ++ st) h1) := am_u_cS (idx := 99) (wn := 6085) (as := [.int p0, .int p1, .int p2]) am_my_285 (by decide +kernel) (by decide +kernel) am_my_168 (by decide +kernel) rfl ⟨Nat.le_of_ble_eq_true rfl, rfl⟩ hw
theorem e285_31 {ls : List (Option Value)} {st : List Value} {h : am_H} {a : Int32} : am_ev 285 31 ls (.int a :: st) h = if a = 0 then am_ev 285 43 ls st h else am_ev 285 34 ls st h := am_u_if1 (c := .eq) (off := 12) am_my_285 (by decide +kernel) (by decide)
theorem e285_34 {ls : List (Option Value)} {st : List Value} {h : am_H} {a : Nat} : am_ev 285 34 (some (.ref a) :: ls) (st) h = am_ev 285 35 (some (.ref a) :: ls) (.ref a :: st) h := am_ev_step (q := (35, some (.ref a) :: ls, .ref a :: st, h)) _ (.aload_n 0) 1 am_my_285 (by decide +kernel) rfl
theorem e285_35 {ls : List (Option Value)} {st : List Value} {h : am_H} {l0 l1 l2 : Option Value} {a : Int32} : am_ev 285 35 (l0 :: l1 :: l2 :: some (.int a) :: ls) (st) h = am_ev 285 36 (l0 :: l1 :: l2 :: some (.int a) :: ls) (.int a :: st) h := am_ev_step (q := (36, l0 :: l1 :: l2 :: some (.int a) :: ls, .int a :: st, h)) _ (.iload_n 3) 1 am_my_285 (by decide +kernel) rfl
theorem e285_36 {ls : List (Option Value)} {st : List Value} {h : am_H} {p0 : Int32} {o : Nat} (hw : am_w8 st ≤ 8) (hk : am_kd h o = some (.inl 11)) : am_ev 285 36 ls (.int p0 :: .ref o :: st) h = am_bd (am_den 210 [.ref o, .int p0] h) (fun v h1 => am_ev 285 39 ls (v.toList ++ st) h1) := am_u_cV (idx := 376) (wn := 7026) (as := [.int p0]) am_my_285 (by decide +kernel) (Or.inl (by decide +kernel)) am_my_210 (by decide +kernel) rfl ⟨Nat.le_of_ble_eq_true rfl, rfl⟩ (by decide +kernel) hw hk
theorem e285_39 {ls : List (Option Value)} {st : List Value} {h : am_H} {l0 l1 l2 : Option Value} {a : Int32} : am_ev 285 39 (l0 :: l1 :: l2 :: some (.int a) :: ls) (st) h = am_ev 285 40 (l0 :: l1 :: l2 :: some (.int a) :: ls) (.int a :: st) h := am_ev_step (q := (40, l0 :: l1 :: l2 :: some (.int a) :: ls, .int a :: st, h)) _ (.iload_n 3) 1 am_my_285 (by decide +kernel) rfl
theorem e285_40 {ls : List (Option Value)} {st : List Value} {h : am_H} {a b : Int32} : am_ev 285 40 ls (.int b :: .int a :: st) h = if b ≤ a then am_ev 285 45 ls st h else am_ev 285 43 ls st h := am_u_if2 (c := .ge) (off := 5) am_my_285 (by decide +kernel) (by decide)
theorem e285_43 {ls : List (Option Value)} {st : List Value} {h : am_H} : am_ev 285 43 (ls) (st) h = am_ev 285 44 (ls) (.int (-1) :: st) h := am_ev_step (q := (44, ls, .int (-1) :: st, h)) _ (.iconst (-1)) 1 am_my_285 (by decide +kernel) rfl
theorem e285_44 {ls : List (Option Value)} {h : am_H} {v : Int32} : am_ev 285 44 ls [.int v] h = some (some (.int v), h) := am_u_rtI am_my_285 (by decide +kernel) rfl
theorem e285_45 {ls : List (Option Value)} {st : List Value} {h : am_H} : am_ev 285 45 (ls) (st) h = am_ev 285 46 (ls) (.int (0) :: st) h := am_ev_step (q := (46, ls, .int (0) :: st, h)) _ (.iconst (0)) 1 am_my_285 (by decide +kernel) rfl
theorem e285_46 {ls : List (Option Value)} {st : List Value} {h : am_H} {l0 l1 l2 l3 : Option Value} {z : Option Value} {a : Int32} : am_ev 285 46 (l0 :: l1 :: l2 :: l3 :: z :: ls) (.int a :: st) h = am_ev 285 48 (l0 :: l1 :: l2 :: l3 :: some (.int a) :: ls) (st) h := am_ev_step (q := (48, l0 :: l1 :: l2 :: l3 :: some (.int a) :: ls, st, h)) _ (.istore 4) 2 am_my_285 (by decide +kernel) rfl
theorem e285_48 {ls : List (Option Value)} {st : List Value} {h : am_H} : am_ev 285 48 (ls) (st) h = am_ev 285 49 (ls) (.int (0) :: st) h := am_ev_step (q := (49, ls, .int (0) :: st, h)) _ (.iconst (0)) 1 am_my_285 (by decide +kernel) rfl
theorem e285_49 {ls : List (Option Value)} {st : List Value} {h : am_H} {l0 l1 l2 l3 l4 : Option Value} {z : Option Value} {a : Int32} : am_ev 285 49 (l0 :: l1 :: l2 :: l3 :: l4 :: z :: ls) (.int a :: st) h = am_ev 285 51 (l0 :: l1 :: l2 :: l3 :: l4 :: some (.int a) :: ls) (st) h := am_ev_step (q := (51, l0 :: l1 :: l2 :: l3 :: l4 :: some (.int a) :: ls, st, h)) _ (.istore 5) 2 am_my_285 (by decide +kernel) rfl
theorem e285_51 {ls : List (Option Value)} {st : List Value} {h : am_H} {l0 l1 l2 l3 l4 : Option Value} {a : Int32} : am_ev 285 51 (l0 :: l1 :: l2 :: l3 :: l4 :: some (.int a) :: ls) (st) h = am_ev 285 53 (l0 :: l1 :: l2 :: l3 :: l4 :: some (.int a) :: ls) (.int a :: st) h := am_ev_step (q := (53, l0 :: l1 :: l2 :: l3 :: l4 :: some (.int a) :: ls, .int a :: st, h)) _ (.iload 5) 2 am_my_285 (by decide +kernel) rfl
theorem e285_53 {ls : List (Option Value)} {st : List Value} {h : am_H} {a : Nat} : am_ev 285 53 (some (.ref a) :: ls) (st) h = am_ev 285 54 (some (.ref a) :: ls) (.ref a :: st) h := am_ev_step (q := (54, some (.ref a) :: ls, .ref a :: st, h)) _ (.aload_n 0) 1 am_my_285 (by decide +kernel) rfl
theorem e285_54 {ls : List (Option Value)} {st : List Value} {h : am_H} {o : Nat} (hk : am_kd h o = some (.inl 11)) : am_ev 285 54 ls (.ref o :: st) h = am_ev 285 57 ls (.int (h.1 o 30) :: st) h := am_u_gfI (idx := 300) (wn := 5162) am_my_285 (by decide +kernel) (by decide +kernel) (by decide +kernel) hk
theorem e285_57 {ls : List (Option Value)} {st : List Value} {h : am_H} {a b : Int32} : am_ev 285 57 ls (.int b :: .int a :: st) h = if b ≤ a then am_ev 285 107 ls st h else am_ev 285 60 ls st h := am_u_if2 (c := .ge) (off := 50) am_my_285 (by decide +kernel) (by decide)
theorem e285_60 {ls : List (Option Value)} {st : List Value} {h : am_H} : am_ev 285 60 (ls) (st) h = am_ev 285 61 (ls) (.int (0) :: st) h := am_ev_step (q := (61, ls, .int (0) :: st, h)) _ (.iconst (0)) 1 am_my_285 (by decide +kernel) rfl
theorem e285_61 {ls : List (Option Value)} {st : List Value} {h : am_H} {l0 l1 l2 l3 l4 l5 : Option Value} {z : Option Value} {a : Int32} : am_ev 285 61 (l0 :: l1 :: l2 :: l3 :: l4 :: l5 :: z :: ls) (.int a :: st) h = am_ev 285 63 (l0 :: l1 :: l2 :: l3 :: l4 :: l5 :: some (.int a) :: ls) (st) h := am_ev_step (q := (63, l0 :: l1 :: l2 :: l3 :: l4 :: l5 :: some (.int a) :: ls, st, h)) _ (.istore 6) 2 am_my_285 (by decide +kernel) rfl
theorem e285_63 {ls : List (Option Value)} {st : List Value} {h : am_H} {l0 l1 l2 l3 l4 l5 : Option Value} {a : Int32} : am_ev 285 63 (l0 :: l1 :: l2 :: l3 :: l4 :: l5 :: some (.int a) :: ls) (st) h = am_ev 285 65 (l0 :: l1 :: l2 :: l3 :: l4 :: l5 :: some (.int a) :: ls) (.int a :: st) h := am_ev_step (q := (65, l0 :: l1 :: l2 :: l3 :: l4 :: l5 :: some (.int a) :: ls, .int a :: st, h)) _ (.iload 6) 2 am_my_285 (by decide +kernel) rfl
theorem e285_65 {ls : List (Option Value)} {st : List Value} {h : am_H} {l0 l1 l2 l3 l4 : Option Value} {a : Int32} : am_ev 285 65 (l0 :: l1 :: l2 :: l3 :: l4 :: some (.int a) :: ls) (st) h = am_ev 285 67 (l0 :: l1 :: l2 :: l3 :: l4 :: some (.int a) :: ls) (.int a :: st) h := am_ev_step (q := (67, l0 :: l1 :: l2 :: l3 :: l4 :: some (.int a) :: ls, .int a :: st, h)) _ (.iload 5) 2 am_my_285 (by decide +kernel) rfl
theorem e285_67 {ls : List (Option Value)} {st : List Value} {h : am_H} {a b : Int32} : am_ev 285 67 ls (.int b :: .int a :: st) h = if b ≤ a then am_ev 285 101 ls st h else am_ev 285 70 ls st h := am_u_if2 (c := .ge) (off := 34) am_my_285 (by decide +kernel) (by decide)
theorem e285_70 {ls : List (Option Value)} {st : List Value} {h : am_H} {l0 l1 l2 l3 : Option Value} {a : Int32} : am_ev 285 70 (l0 :: l1 :: l2 :: l3 :: some (.int a) :: ls) (st) h = am_ev 285 72 (l0 :: l1 :: l2 :: l3 :: some (.int a) :: ls) (.int a :: st) h := am_ev_step (q := (72, l0 :: l1 :: l2 :: l3 :: some (.int a) :: ls, .int a :: st, h)) _ (.iload 4) 2 am_my_285 (by decide +kernel) rfl
theorem e285_72 {ls : List (Option Value)} {st : List Value} {h : am_H} {a : Nat} : am_ev 285 72 (some (.ref a) :: ls) (st) h = am_ev 285 73 (some (.ref a) :: ls) (.ref a :: st) h := am_ev_step (q := (73, some (.ref a) :: ls, .ref a :: st, h)) _ (.aload_n 0) 1 am_my_285 (by decide +kernel) rfl
theorem e285_73 {ls : List (Option Value)} {st : List Value} {h : am_H} {a : Nat} : am_ev 285 73 (some (.ref a) :: ls) (st) h = am_ev 285 74 (some (.ref a) :: ls) (.ref a :: st) h := am_ev_step (q := (74, some (.ref a) :: ls, .ref a :: st, h)) _ (.aload_n 0) 1 am_my_285 (by decide +kernel) rfl
theorem e285_74 {ls : List (Option Value)} {st : List Value} {h : am_H} {o : Nat} (hk : am_kd h o = some (.inl 11)) : am_ev 285 74 ls (.ref o :: st) h = am_ev 285 77 ls (va_rf (h.2.2.1 o 36) :: st) h := am_u_gfR (idx := 51) (wn := 5168) (a := 0) am_my_285 (by decide +kernel) (by decide +kernel) (by decide +kernel) hk
theorem e285_77 {ls : List (Option Value)} {st : List Value} {h : am_H} {l0 l1 l2 l3 l4 : Option Value} {a : Int32} : am_ev 285 77 (l0 :: l1 :: l2 :: l3 :: l4 :: some (.int a) :: ls) (st) h = am_ev 285 79 (l0 :: l1 :: l2 :: l3 :: l4 :: some (.int a) :: ls) (.int a :: st) h := am_ev_step (q := (79, l0 :: l1 :: l2 :: l3 :: l4 :: some (.int a) :: ls, .int a :: st, h)) _ (.iload 5) 2 am_my_285 (by decide +kernel) rfl
theorem e285_79 {ls : List (Option Value)} {st : List Value} {h : am_H} {i : Int32} {a : Nat} (ht : am_tc h a = some 0) : am_ev 285 79 ls (.int i :: .ref a :: st) h = if am_ix i (am_len h a) = true then am_ev 285 80 ls (.int (h.1 a i.toNatClampNeg) :: st) h else none := am_u_rI am_my_285 (by decide +kernel) ht
theorem e285_80 {ls : List (Option Value)} {st : List Value} {h : am_H} {a : Nat} : am_ev 285 80 (some (.ref a) :: ls) (st) h = am_ev 285 81 (some (.ref a) :: ls) (.ref a :: st) h := am_ev_step (q := (81, some (.ref a) :: ls, .ref a :: st, h)) _ (.aload_n 0) 1 am_my_285 (by decide +kernel) rfl
theorem e285_81 {ls : List (Option Value)} {st : List Value} {h : am_H} {o : Nat} (hk : am_kd h o = some (.inl 11)) : am_ev 285 81 ls (.ref o :: st) h = am_ev 285 84 ls (va_rf (h.2.2.1 o 36) :: st) h := am_u_gfR (idx := 51) (wn := 5168) (a := 0) am_my_285 (by decide +kernel) (by decide +kernel) (by decide +kernel) hk
theorem e285_84 {ls : List (Option Value)} {st : List Value} {h : am_H} {l0 l1 l2 l3 l4 l5 : Option Value} {a : Int32} : am_ev 285 84 (l0 :: l1 :: l2 :: l3 :: l4 :: l5 :: some (.int a) :: ls) (st) h = am_ev 285 86 (l0 :: l1 :: l2 :: l3 :: l4 :: l5 :: some (.int a) :: ls) (.int a :: st) h := am_ev_step (q := (86, l0 :: l1 :: l2 :: l3 :: l4 :: l5 :: some (.int a) :: ls, .int a :: st, h)) _ (.iload 6) 2 am_my_285 (by decide +kernel) rfl
theorem e285_86 {ls : List (Option Value)} {st : List Value} {h : am_H} {i : Int32} {a : Nat} (ht : am_tc h a = some 0) : am_ev 285 86 ls (.int i :: .ref a :: st) h = if am_ix i (am_len h a) = true then am_ev 285 87 ls (.int (h.1 a i.toNatClampNeg) :: st) h else none := am_u_rI am_my_285 (by decide +kernel) ht
theorem e285_87 {ls : List (Option Value)} {st : List Value} {h : am_H} {p0 : Int32} {p1 : Int32} {o : Nat} (hw : am_w8 st ≤ 8) (hk : am_kd h o = some (.inl 11)) : am_ev 285 87 ls (.int p1 :: .int p0 :: .ref o :: st) h = am_bd (am_den 220 [.ref o, .int p0, .int p1] h) (fun v h1 => am_ev 285 90 ls (v.toList ++ st) h1) := am_u_cV (idx := 321) (wn := 7066) (as := [.int p0, .int p1]) am_my_285 (by decide +kernel) (Or.inl (by decide +kernel)) am_my_220 (by decide +kernel) rfl ⟨Nat.le_of_ble_eq_true rfl, rfl⟩ (by decide +kernel) hw hk
theorem e285_90 {ls : List (Option Value)} {st : List Value} {h : am_H} {p0 : Int32} {p1 : Int32} (hw : am_w8 st ≤ 8) : am_ev 285 90 ls (.int p1 :: .int p0 :: st) h = am_bd (am_den 187 [.int p0, .int p1] h) (fun v h1 => am_ev 285 93 ls (v.toList ++ st) h1) := am_u_cS (idx := 168) (wn := 6167) (as := [.int p0, .int p1]) am_my_285 (by decide +kernel) (by decide +kernel) am_my_187 (by decide +kernel) rfl ⟨Nat.le_of_ble_eq_true rfl, rfl⟩ hw
theorem e285_93 {ls : List (Option Value)} {st : List Value} {h : am_H} {l0 l1 l2 l3 : Option Value} {z : Option Value} {a : Int32} : am_ev 285 93 (l0 :: l1 :: l2 :: l3 :: z :: ls) (.int a :: st) h = am_ev 285 95 (l0 :: l1 :: l2 :: l3 :: some (.int a) :: ls) (st) h := am_ev_step (q := (95, l0 :: l1 :: l2 :: l3 :: some (.int a) :: ls, st, h)) _ (.istore 4) 2 am_my_285 (by decide +kernel) rfl
theorem e285_95 {ls : List (Option Value)} {st : List Value} {h : am_H} {l0 l1 l2 l3 l4 l5 : Option Value} {a : Int32} : am_ev 285 95 (l0 :: l1 :: l2 :: l3 :: l4 :: l5 :: some (.int a) :: ls) (st) h = am_ev 285 98 (l0 :: l1 :: l2 :: l3 :: l4 :: l5 :: some (.int (a + (1))) :: ls) (st) h := am_ev_step (q := (98, l0 :: l1 :: l2 :: l3 :: l4 :: l5 :: some (.int (a + (1))) :: ls, st, h)) _ (.iinc 6 (1)) 3 am_my_285 (by decide +kernel) rfl
theorem e285_98 {ls : List (Option Value)} {st : List Value} {h : am_H} : am_ev 285 98 (ls) (st) h = am_ev 285 63 (ls) (st) h := am_ev_step (q := (63, ls, st, h)) _ (.goto (-35)) 3 am_my_285 (by decide +kernel) rfl
theorem e285_101 {ls : List (Option Value)} {st : List Value} {h : am_H} {l0 l1 l2 l3 l4 : Option Value} {a : Int32} : am_ev 285 101 (l0 :: l1 :: l2 :: l3 :: l4 :: some (.int a) :: ls) (st) h = am_ev 285 104 (l0 :: l1 :: l2 :: l3 :: l4 :: some (.int (a + (1))) :: ls) (st) h := am_ev_step (q := (104, l0 :: l1 :: l2 :: l3 :: l4 :: some (.int (a + (1))) :: ls, st, h)) _ (.iinc 5 (1)) 3 am_my_285 (by decide +kernel) rfl
theorem e285_104 {ls : List (Option Value)} {st : List Value} {h : am_H} : am_ev 285 104 (ls) (st) h = am_ev 285 51 (ls) (st) h := am_ev_step (q := (51, ls, st, h)) _ (.goto (-53)) 3 am_my_285 (by decide +kernel) rfl
theorem e285_107 {ls : List (Option Value)} {st : List Value} {h : am_H} {l0 l1 l2 l3 : Option Value} {a : Int32} : am_ev 285 107 (l0 :: l1 :: l2 :: l3 :: some (.int a) :: ls) (st) h = am_ev 285 109 (l0 :: l1 :: l2 :: l3 :: some (.int a) :: ls) (.int a :: st) h := am_ev_step (q := (109, l0 :: l1 :: l2 :: l3 :: some (.int a) :: ls, .int a :: st, h)) _ (.iload 4) 2 am_my_285 (by decide +kernel) rfl
theorem e285_109 {ls : List (Option Value)} {h : am_H} {v : Int32} : am_ev 285 109 ls [.int v] h = some (some (.int v), h) := am_u_rtI am_my_285 (by decide +kernel) rfl
def G_ct (f : q_Fl) (w : Nat → Nat) (b : Nat) : Nat → Nat → q_G → Int32
  | 0, _, _ => -1
  | r + 1, i, g => match G_ob f g (w i) with
    | none => -1
    | some g' => if G_pnd g' b = true then nI (i + 1) else G_ct f w b r (i + 1) g'
theorem q_ct_cl (o p : Nat) (hp : p + 1 < 178) (f : q_Fl) (wf : F_wf f) (d : q_Dr) (dk : D_ok d) (b : Nat) (hb : b < 6) (a1 a2 : Int32) : ∀ (r i : Nat) (g : q_G) (h : am_H), i + r = d.1 → am_okH h → q_cg h 178 o f g → G_in f g → q_cD h p d → ∃ h' : am_H, q_ff 178 h h' ∧ am_ev 120 50 [some (.ref 0), some (.int a1), some (.int a2), some (.int (nI b)), some (.ref p), some (.int (nI i))] [] h = some (some (.int (G_ct f d.2 b r i g)), h') := by
  have d40 := dk.1
  intro r
  induction r with
  | zero =>
    intro i g h hi ok cg gi cd
    have h1 : nI d.1 ≤ nI i := nI_le (by omega) (by omega)
    refine ⟨h, q_ff.rf _ h, ?_⟩
    rw [e120_50]
    simp only [e120_0, e120_1, e120_2, e120_3, e120_6, e120_9, e120_10, e120_11, e120_12, e120_15, e120_18, e120_19, e120_20, e120_21, e120_24, e120_27, e120_28f, e120_28d, e120_28b, e120_28l, e120_28t, e120_29, e120_31, e120_32, e120_35, e120_36, e120_39, e120_42, e120_43f, e120_43d, e120_43b, e120_43l, e120_43t, e120_44, e120_47, e120_48, e120_52, e120_54, e120_57, e120_60, e120_61, e120_64, e120_66, e120_69, e120_71, e120_72, e120_75, e120_78, e120_79, e120_80, e120_81, e120_84, e120_85, e120_88, e120_91, e120_93, e120_94, e120_95, e120_96, e120_99, e120_102, e120_103, am_bd_some, Option.toList_some, Option.toList_none, List.cons_append, List.nil_append, am_w8_0, am_w8_1, am_w8_2, am_w8_3, am_w8_4, eq_self, or_true, true_or, am_kd_sI, am_kd_sL, am_kd_sR, am_tc_sI, am_tc_sL, am_tc_sR, am_len_sI, am_len_sL, am_len_sR, am_rfs, if_true, if_false, am_rdL_sI, am_rR_sL, am_rt_cq, am_kd_cq, am_tc_cq, am_len_cq, am_rd_sL, am_rd_sR, am_rdL_sR, cd.1.1, cd.2.1, h1, G_ct]
  | succ r ih =>
    intro i g h hi ok cg gi cd
    have h1 : ¬ nI d.1 ≤ nI i := nI_ge (by omega) (by omega)
    have x : am_ix (nI i) 40 = true := am_ix_nI (by omega) (by decide)
    have z : (nI i).toNatClampNeg = i := nI_clamp (by omega)
    have v := cd.2.2 i (by omega)
    obtain ⟨b1, b2⟩ := den_obeys h 178 o f g cg wf gi (d.2 i) (dk.2 i (by omega))
    rw [e120_50, G_ct]
    cases hg : G_ob f g (d.2 i) with
    | none =>
      refine ⟨h, q_ff.rf _ h, ?_⟩
      simp only [e120_0, e120_1, e120_2, e120_3, e120_6, e120_9, e120_10, e120_11, e120_12, e120_15, e120_18, e120_19, e120_20, e120_21, e120_24, e120_27, e120_28f, e120_28d, e120_28b, e120_28l, e120_28t, e120_29, e120_31, e120_32, e120_35, e120_36, e120_39, e120_42, e120_43f, e120_43d, e120_43b, e120_43l, e120_43t, e120_44, e120_47, e120_48, e120_52, e120_54, e120_57, e120_60, e120_61, e120_64, e120_66, e120_69, e120_71, e120_72, e120_75, e120_78, e120_79, e120_80, e120_81, e120_84, e120_85, e120_88, e120_91, e120_93, e120_94, e120_95, e120_96, e120_99, e120_102, e120_103, am_bd_some, Option.toList_some, Option.toList_none, List.cons_append, List.nil_append, am_w8_0, am_w8_1, am_w8_2, am_w8_3, am_w8_4, eq_self, or_true, true_or, am_kd_sI, am_kd_sL, am_kd_sR, am_tc_sI, am_tc_sL, am_tc_sR, am_len_sI, am_len_sL, am_len_sR, am_rfs, if_true, if_false, am_rdL_sI, am_rR_sL, am_rt_cq, am_kd_cq, am_tc_cq, am_len_cq, am_rd_sL, am_rd_sR, am_rdL_sR, cd.1.1, cd.1.2.1, q_tc cd.1.2.2, q_ln cd.1.2.2, cd.2.1, h1, okK_0 ok, okR_0_4 ok, okK_178 ok, x, z, v, b1 hg, not_true]
    | some g' =>
      obtain ⟨h', f1, g1, s1⟩ := b2 g' hg
      have ok' : am_okH h' := ok.of (congrArg Prod.snd f1.1)
      have gi' := G_ob_in wf gi hg
      have dp := den_isPenned h' 178 o f g' g1 gi' b hb
      have y : ¬ (1 : Int32) = 0 := by decide
      cases hpd : G_pnd g' b with
      | true =>
        rw [hpd] at dp
        have y2 : ¬ q_bi true = 0 := by decide
        refine ⟨h', f1, ?_⟩
        simp only [e120_0, e120_1, e120_2, e120_3, e120_6, e120_9, e120_10, e120_11, e120_12, e120_15, e120_18, e120_19, e120_20, e120_21, e120_24, e120_27, e120_28f, e120_28d, e120_28b, e120_28l, e120_28t, e120_29, e120_31, e120_32, e120_35, e120_36, e120_39, e120_42, e120_43f, e120_43d, e120_43b, e120_43l, e120_43t, e120_44, e120_47, e120_48, e120_52, e120_54, e120_57, e120_60, e120_61, e120_64, e120_66, e120_69, e120_71, e120_72, e120_75, e120_78, e120_79, e120_80, e120_81, e120_84, e120_85, e120_88, e120_91, e120_93, e120_94, e120_95, e120_96, e120_99, e120_102, e120_103, am_bd_some, Option.toList_some, Option.toList_none, List.cons_append, List.nil_append, am_w8_0, am_w8_1, am_w8_2, am_w8_3, am_w8_4, eq_self, or_true, true_or, am_kd_sI, am_kd_sL, am_kd_sR, am_tc_sI, am_tc_sL, am_tc_sR, am_len_sI, am_len_sL, am_len_sR, am_rfs, if_true, if_false, am_rdL_sI, am_rR_sL, am_rt_cq, am_kd_cq, am_tc_cq, am_len_cq, am_rd_sL, am_rd_sR, am_rdL_sR, cd.1.1, cd.1.2.1, q_tc cd.1.2.2, q_ln cd.1.2.2, cd.2.1, h1, okK_0 ok, okR_0_4 ok, okK_178 ok, x, z, v, s1, y, not_false_eq_true, okK_0 ok', okR_0_4 ok', okK_178 ok', dp, y2, nI_1, hpd]
      | false =>
        rw [hpd] at dp
        have y2 : q_bi false = 0 := rfl
        obtain ⟨h'', f2, s2⟩ := ih (i + 1) g' h' (by omega) ok' g1 gi' (f1.fb.cD cd (Or.inl hp))
        refine ⟨h'', f1.tr f2, ?_⟩
        simp only [e120_0, e120_1, e120_2, e120_3, e120_6, e120_9, e120_10, e120_11, e120_12, e120_15, e120_18, e120_19, e120_20, e120_21, e120_24, e120_27, e120_28f, e120_28d, e120_28b, e120_28l, e120_28t, e120_29, e120_31, e120_32, e120_35, e120_36, e120_39, e120_42, e120_43f, e120_43d, e120_43b, e120_43l, e120_43t, e120_44, e120_47, e120_48, e120_52, e120_54, e120_57, e120_60, e120_61, e120_64, e120_66, e120_69, e120_71, e120_72, e120_75, e120_78, e120_79, e120_80, e120_81, e120_84, e120_85, e120_88, e120_91, e120_93, e120_94, e120_95, e120_96, e120_99, e120_102, e120_103, am_bd_some, Option.toList_some, Option.toList_none, List.cons_append, List.nil_append, am_w8_0, am_w8_1, am_w8_2, am_w8_3, am_w8_4, eq_self, or_true, true_or, am_kd_sI, am_kd_sL, am_kd_sR, am_tc_sI, am_tc_sL, am_tc_sR, am_len_sI, am_len_sL, am_len_sR, am_rfs, if_true, if_false, am_rdL_sI, am_rR_sL, am_rt_cq, am_kd_cq, am_tc_cq, am_len_cq, am_rd_sL, am_rd_sR, am_rdL_sR, cd.1.1, cd.1.2.1, q_tc cd.1.2.2, q_ln cd.1.2.2, cd.2.1, h1, okK_0 ok, okR_0_4 ok, okK_178 ok, x, z, v, s1, y, not_false_eq_true, okK_0 ok', okR_0_4 ok', okK_178 ok', dp, y2, nI_1, hpd, Bool.false_eq_true]
        exact s2
theorem q_ct_ml (f : q_Fl) (wf : F_wf f) (i0 : Nat) (d : q_Dr) (dk : D_ok d) (b : Nat) (hb : b < 6) (a1 a2 : Int32) : ∀ (r i : Nat) (g : q_G) (h : am_H), i + r = d.1 → q_mg h f g → G_in f g → G_pi f g → q_mD h i0 d → G_pnd g b = false → ∃ h' : am_H, q_mw h h' ∧ am_ev 284 27 [some (.ref 211), some (.int a1), some (.int a2), some (.int (nI b)), some (.int (nI i))] [] h = some (some (.int (G_ct f d.2 b r i g)), h') := by
  have d40 := dk.1
  intro r
  induction r with
  | zero =>
    intro i g h hi mg gi gp md np
    have ok := mg.1.1
    have e2 := mg.2.1.2.1
    have dh := den_mhas h (G_pen g) b gi.2.1 hb
    have np' : (G_pen g).testBit b = false := np
    rw [np'] at dh
    have y : q_bi false = 0 := rfl
    have dw := den_whistles h ok i0 d md
    have h1 : nI i = nI d.1 := by rw [show i = d.1 by omega]
    refine ⟨h, q_mw.rf h, ?_⟩
    rw [e284_27]
    simp only [e284_0, e284_1, e284_2, e284_5, e284_6, e284_7, e284_8, e284_11, e284_14, e284_15, e284_16, e284_19, e284_22, e284_23, e284_24, e284_25, e284_28, e284_31, e284_32, e284_35, e284_38, e284_40, e284_41, e284_44, e284_47, e284_48, e284_49, e284_51, e284_52, e284_55, e284_56, e284_58, e284_59, e284_62, e284_65, e284_68, e284_69, e284_70, e284_73, e284_76, e284_78, am_bd_some, Option.toList_some, Option.toList_none, List.cons_append, List.nil_append, am_w8_0, am_w8_1, am_w8_2, am_w8_3, am_w8_4, eq_self, or_true, true_or, am_kd_sI, am_kd_sL, am_kd_sR, am_tc_sI, am_tc_sL, am_tc_sR, am_len_sI, am_len_sL, am_len_sR, am_rfs, if_true, if_false, am_rdL_sI, am_rR_sL, am_rt_cq, am_kd_cq, am_tc_cq, am_len_cq, am_rd_sL, am_rd_sR, am_rdL_sR, okK_211 ok, e2, dh, y, not_true, dw, eq_true h1, G_ct]
  | succ r ih =>
    intro i g h hi mg gi gp md np
    have ok := mg.1.1
    have e2 := mg.2.1.2.1
    have dh := den_mhas h (G_pen g) b gi.2.1 hb
    have np' : (G_pen g).testBit b = false := np
    rw [np'] at dh
    have y : q_bi false = 0 := rfl
    have dw := den_whistles h ok i0 d md
    have h1 : ¬ nI i = nI d.1 := fun w => by have := (nI_eq (by omega) (by omega)).mp w; omega
    obtain ⟨w1, w2⟩ := den_whistleOf h ok i0 d dk md i (by omega)
    obtain ⟨b1, b2⟩ := den_does h f g mg wf gi gp (d.2 i) (dk.2 i (by omega))
    rw [G_ct]
    cases hg : G_ob f g (d.2 i) with
    | none =>
      refine ⟨h, q_mw.rf h, ?_⟩
      rw [e284_27]
      simp only [e284_0, e284_1, e284_2, e284_5, e284_6, e284_7, e284_8, e284_11, e284_14, e284_15, e284_16, e284_19, e284_22, e284_23, e284_24, e284_25, e284_28, e284_31, e284_32, e284_35, e284_38, e284_40, e284_41, e284_44, e284_47, e284_48, e284_49, e284_51, e284_52, e284_55, e284_56, e284_58, e284_59, e284_62, e284_65, e284_68, e284_69, e284_70, e284_73, e284_76, e284_78, am_bd_some, Option.toList_some, Option.toList_none, List.cons_append, List.nil_append, am_w8_0, am_w8_1, am_w8_2, am_w8_3, am_w8_4, eq_self, or_true, true_or, am_kd_sI, am_kd_sL, am_kd_sR, am_tc_sI, am_tc_sL, am_tc_sR, am_len_sI, am_len_sL, am_len_sR, am_rfs, if_true, if_false, am_rdL_sI, am_rR_sL, am_rt_cq, am_kd_cq, am_tc_cq, am_len_cq, am_rd_sL, am_rd_sR, am_rdL_sR, okK_211 ok, e2, dh, y, not_true, dw, h1, w1, w2, b1 hg]
    | some g' =>
      obtain ⟨h', f1, g1, s1⟩ := b2 g' hg
      have ok' := g1.1.1
      have e2' := g1.2.1.2.1
      have gi' := G_ob_in wf gi hg
      have gp' := G_ob_pi wf gi gp hg
      have y1 : ¬ (1 : Int32) = 0 := by decide
      have go : am_ev 284 27 [some (.ref 211), some (.int a1), some (.int a2), some (.int (nI b)), some (.int (nI i))] [] h = am_ev 284 27 [some (.ref 211), some (.int a1), some (.int a2), some (.int (nI b)), some (.int (nI (i + 1)))] [] h' := by
        rw [e284_27]
        simp only [e284_0, e284_1, e284_2, e284_5, e284_6, e284_7, e284_8, e284_11, e284_14, e284_15, e284_16, e284_19, e284_22, e284_23, e284_24, e284_25, e284_28, e284_31, e284_32, e284_35, e284_38, e284_40, e284_41, e284_44, e284_47, e284_48, e284_49, e284_51, e284_52, e284_55, e284_56, e284_58, e284_59, e284_62, e284_65, e284_68, e284_69, e284_70, e284_73, e284_76, e284_78, am_bd_some, Option.toList_some, Option.toList_none, List.cons_append, List.nil_append, am_w8_0, am_w8_1, am_w8_2, am_w8_3, am_w8_4, eq_self, or_true, true_or, am_kd_sI, am_kd_sL, am_kd_sR, am_tc_sI, am_tc_sL, am_tc_sR, am_len_sI, am_len_sL, am_len_sR, am_rfs, if_true, if_false, am_rdL_sI, am_rR_sL, am_rt_cq, am_kd_cq, am_tc_cq, am_len_cq, am_rd_sL, am_rd_sR, am_rdL_sR, okK_211 ok, e2, dh, y, not_true, dw, h1, w1, w2, s1, y1, not_false_eq_true, nI_1]
      cases hpd : G_pnd g' b with
      | true =>
        have dh' := den_mhas h' (G_pen g') b gi'.2.1 hb
        have pd' : (G_pen g').testBit b = true := hpd
        rw [pd'] at dh'
        have y2 : ¬ q_bi true = 0 := by decide
        refine ⟨h', f1, ?_⟩
        rw [go, e284_27]
        simp only [e284_0, e284_1, e284_2, e284_5, e284_6, e284_7, e284_8, e284_11, e284_14, e284_15, e284_16, e284_19, e284_22, e284_23, e284_24, e284_25, e284_28, e284_31, e284_32, e284_35, e284_38, e284_40, e284_41, e284_44, e284_47, e284_48, e284_49, e284_51, e284_52, e284_55, e284_56, e284_58, e284_59, e284_62, e284_65, e284_68, e284_69, e284_70, e284_73, e284_76, e284_78, am_bd_some, Option.toList_some, Option.toList_none, List.cons_append, List.nil_append, am_w8_0, am_w8_1, am_w8_2, am_w8_3, am_w8_4, eq_self, or_true, true_or, am_kd_sI, am_kd_sL, am_kd_sR, am_tc_sI, am_tc_sL, am_tc_sR, am_len_sI, am_len_sL, am_len_sR, am_rfs, if_true, if_false, am_rdL_sI, am_rR_sL, am_rt_cq, am_kd_cq, am_tc_cq, am_len_cq, am_rd_sL, am_rd_sR, am_rdL_sR, okK_211 ok', e2', dh', y2, not_false_eq_true, hpd]
      | false =>
        obtain ⟨h'', f2, s2⟩ := ih (i + 1) g' h' (by omega) g1 gi' gp' (f1.hw.mD md) hpd
        refine ⟨h'', f1.tr f2, ?_⟩
        rw [go, s2]
        simp only [hpd, Bool.false_eq_true, if_false]
def q_ctP (A : q_All) (a d b : Int32) : Prop := q_fd A a d ∧ (0 ≤ b ∧ b < nI (F_n (A.2.2.1 a.toNatClampNeg)))
noncomputable def q_ctA (A : q_All) (a d b : Int32) : Int32 := @ite _ (q_ctP A a d b) (Classical.propDecidable _) (G_ct (A.2.2.1 a.toNatClampNeg) (A.2.2.2.1 d.toNatClampNeg).2 b.toNatClampNeg (A.2.2.2.1 d.toNatClampNeg).1 0 (G_0 (A.2.2.1 a.toNatClampNeg))) (-1)
theorem den_ccaught {A : q_All} {h : am_H} (H : q_Rel A h) (a d b : Int32) : ∃ h' : am_H, q_wk h h' ∧ am_den 120 [.ref 0, .int a, .int d, .int b] h = some (some (.int (q_ctA A a d b)), h') := by
  have ok := H.1
  obtain ⟨b1, b0⟩ := den_hasBoth H a d
  have hb := den_hasBeast H a b
  have y : ¬ (1 : Int32) = 0 := by decide
  show ∃ h' : am_H, q_wk h h' ∧ am_ev 120 0 [some (.ref 0), some (.int a), some (.int d), some (.int b), none, none] [] h = _
  unfold q_ctA
  by_cases cf : q_fd A a d
  · have db := b1 cf
    by_cases cb : 0 ≤ b ∧ b < nI (F_n (A.2.2.1 a.toNatClampNeg))
    · rw [if_pos ⟨cf.1, cb⟩] at hb
      rw [if_pos ⟨cf, cb⟩]
      have cc : q_fb2 A a b := ⟨cf.1, cb⟩
      obtain ⟨i, j, hi, hi2, rfl, hj, hj2, rfl⟩ := q_fd_nat H cf
      obtain ⟨i', k, -, hi3, ei, hk, hk6, rfl⟩ := q_fb2_nat H cc
      obtain rfl : i = i' := (nI_eq (by omega) (by omega)).mp ei
      obtain ⟨fk, cF, -⟩ := H.fl i hi
      obtain ⟨dk, cD⟩ := H.cD j hj
      have wf := fk.wf
      have z : (nI i).toNatClampNeg = i := nI_clamp (by omega)
      have x : am_ix (nI i) 2 = true := am_ix_nI (by omega) (by decide)
      have zj : (nI j).toNatClampNeg = j := nI_clamp (by omega)
      have xj : am_ix (nI j) 2 = true := am_ix_nI (by omega) (by decide)
      have zk : (nI k).toNatClampNeg = k := nI_clamp (by omega)
      have r := q_fo_ref ok i hi2
      have rj := (q_do_now ok j hj2).2
      have q178 : q_flk 178 := Or.inl rfl
      obtain ⟨h1, f1, g1, s1⟩ := den_begin h ok 178 (8 + 16 * i) q178 (by omega) _ wf cF
      have ok1 := f1.ok q178 ok
      obtain ⟨h2, f2, s2⟩ := q_ct_cl (8 + 16 * i) (11 + 16 * j) (by omega) _ wf _ dk k hk6 (nI i) (nI j) (A.2.2.2.1 j).1 0 (G_0 _) h1 (by omega) ok1 g1 (G_0_in fk) (f1.cD cD (by omega))
      rw [nI_0] at s2
      refine ⟨h2, (f1.tr f2.fb).wk q178 ok, ?_⟩
      rw [z, zj, zk]
      simp only [e120_0, e120_1, e120_2, e120_3, e120_6, e120_9, e120_10, e120_11, e120_12, e120_15, e120_18, e120_19, e120_20, e120_21, e120_24, e120_27, e120_28f, e120_28d, e120_28b, e120_28l, e120_28t, e120_29, e120_31, e120_32, e120_35, e120_36, e120_39, e120_42, e120_43f, e120_43d, e120_43b, e120_43l, e120_43t, e120_44, e120_47, e120_48, e120_52, e120_54, e120_57, e120_60, e120_61, e120_64, e120_66, e120_69, e120_71, e120_72, e120_75, e120_78, e120_79, e120_80, e120_81, e120_84, e120_85, e120_88, e120_91, e120_93, e120_94, e120_95, e120_96, e120_99, e120_102, e120_103, am_bd_some, Option.toList_some, Option.toList_none, List.cons_append, List.nil_append, am_w8_0, am_w8_1, am_w8_2, am_w8_3, am_w8_4, eq_self, or_true, true_or, am_kd_sI, am_kd_sL, am_kd_sR, am_tc_sI, am_tc_sL, am_tc_sR, am_len_sI, am_len_sL, am_len_sR, am_rfs, if_true, if_false, am_rdL_sI, am_rR_sL, am_rt_cq, am_kd_cq, am_tc_cq, am_len_cq, am_rd_sL, am_rd_sR, am_rdL_sR, okK_0 ok, okR_0_0 ok, okK_1 ok, okR_1_5 ok, okR_1_6 ok, okT_4 ok, okL_4 ok, okT_5 ok, okL_5 ok, okR_0_4 ok, okK_178 ok, db, hb, y, not_false_eq_true, x, z, r, xj, zj, rj, s1]
      exact s2
    · rw [if_neg (fun w => cb w.2)] at hb
      rw [if_neg (fun w => cb w.2)]
      refine ⟨h, q_wk.rf ok, ?_⟩
      simp only [e120_0, e120_1, e120_2, e120_3, e120_6, e120_9, e120_10, e120_11, e120_12, e120_15, e120_18, e120_19, e120_20, e120_21, e120_24, e120_27, e120_28f, e120_28d, e120_28b, e120_28l, e120_28t, e120_29, e120_31, e120_32, e120_35, e120_36, e120_39, e120_42, e120_43f, e120_43d, e120_43b, e120_43l, e120_43t, e120_44, e120_47, e120_48, e120_52, e120_54, e120_57, e120_60, e120_61, e120_64, e120_66, e120_69, e120_71, e120_72, e120_75, e120_78, e120_79, e120_80, e120_81, e120_84, e120_85, e120_88, e120_91, e120_93, e120_94, e120_95, e120_96, e120_99, e120_102, e120_103, am_bd_some, Option.toList_some, Option.toList_none, List.cons_append, List.nil_append, am_w8_0, am_w8_1, am_w8_2, am_w8_3, am_w8_4, eq_self, or_true, true_or, am_kd_sI, am_kd_sL, am_kd_sR, am_tc_sI, am_tc_sL, am_tc_sR, am_len_sI, am_len_sL, am_len_sR, am_rfs, if_true, if_false, am_rdL_sI, am_rR_sL, am_rt_cq, am_kd_cq, am_tc_cq, am_len_cq, am_rd_sL, am_rd_sR, am_rdL_sR, okK_0 ok, db, y, hb, not_true]
  · have db := b0 cf
    rw [if_neg (fun w => cf w.1)]
    refine ⟨h, q_wk.rf ok, ?_⟩
    simp only [e120_0, e120_1, e120_2, e120_3, e120_6, e120_9, e120_10, e120_11, e120_12, e120_15, e120_18, e120_19, e120_20, e120_21, e120_24, e120_27, e120_28f, e120_28d, e120_28b, e120_28l, e120_28t, e120_29, e120_31, e120_32, e120_35, e120_36, e120_39, e120_42, e120_43f, e120_43d, e120_43b, e120_43l, e120_43t, e120_44, e120_47, e120_48, e120_52, e120_54, e120_57, e120_60, e120_61, e120_64, e120_66, e120_69, e120_71, e120_72, e120_75, e120_78, e120_79, e120_80, e120_81, e120_84, e120_85, e120_88, e120_91, e120_93, e120_94, e120_95, e120_96, e120_99, e120_102, e120_103, am_bd_some, Option.toList_some, Option.toList_none, List.cons_append, List.nil_append, am_w8_0, am_w8_1, am_w8_2, am_w8_3, am_w8_4, eq_self, or_true, true_or, am_kd_sI, am_kd_sL, am_kd_sR, am_tc_sI, am_tc_sL, am_tc_sR, am_len_sI, am_len_sL, am_len_sR, am_rfs, if_true, if_false, am_rdL_sI, am_rR_sL, am_rt_cq, am_kd_cq, am_tc_cq, am_len_cq, am_rd_sL, am_rd_sR, am_rdL_sR, okK_0 ok, db]
theorem den_mcaught {A : q_All} {h : am_H} (H : q_Rel A h) (a d b : Int32) : ∃ h' : am_H, q_wk h h' ∧ am_den 284 [.ref 211, .int a, .int d, .int b] h = some (some (.int (q_ctA A a d b)), h') := by
  have ok := H.1
  have h0 := H.2.1
  have y : ¬ (1 : Int32) = 0 := by decide
  show ∃ h' : am_H, q_wk h h' ∧ am_ev 284 0 [some (.ref 211), some (.int a), some (.int d), some (.int b), none] [] h = _
  unfold q_ctA
  by_cases cf : q_fd A a d
  · obtain ⟨i, j, hi, hi2, rfl, hj, hj2, rfl⟩ := q_fd_nat H cf
    have fk := (H.fl i hi).1
    have dk := (H.cD j hj).1
    have wf := fk.wf
    have z : (nI i).toNatClampNeg = i := nI_clamp (by omega)
    have zj : (nI j).toNatClampNeg = j := nI_clamp (by omega)
    obtain ⟨h1, f1, g1, md, s1⟩ := den_lay1 H i j hi hj
    have ok1 := g1.1.1
    have db := den_isBeast h1 ok1 (F_n (A.2.2.1 i)) wf.2.2.2.1 g1.1.2.2.2.2.2.1 b
    by_cases cb : 0 ≤ b ∧ b < nI (F_n (A.2.2.1 i))
    · rw [if_pos ⟨cf, by rw [z]; exact cb⟩]
      rw [if_pos cb] at db
      have n6 := wf.2.2.2.1
      obtain ⟨k, hk, rfl⟩ := nI_of (Int32.not_lt.mpr cb.1)
      have hk2 : k < F_n (A.2.2.1 i) := (nI_ltI hk (by omega)).mp cb.2
      have zk : (nI k).toNatClampNeg = k := nI_clamp (by omega)
      obtain ⟨h2, f2, s2⟩ := q_ct_ml _ wf j _ dk k (by omega) (nI i) (nI j) (A.2.2.2.1 j).1 0 (G_0 _) h1 (by omega) g1 (G_0_in fk) (G_0_pi fk) md (Nat.zero_testBit k)
      rw [nI_0] at s2
      refine ⟨h2, f1.tr (f2.wk ok1), ?_⟩
      rw [z, zj, zk]
      simp only [e284_0, e284_1, e284_2, e284_5, e284_6, e284_7, e284_8, e284_11, e284_14, e284_15, e284_16, e284_19, e284_22, e284_23, e284_24, e284_25, e284_28, e284_31, e284_32, e284_35, e284_38, e284_40, e284_41, e284_44, e284_47, e284_48, e284_49, e284_51, e284_52, e284_55, e284_56, e284_58, e284_59, e284_62, e284_65, e284_68, e284_69, e284_70, e284_73, e284_76, e284_78, am_bd_some, Option.toList_some, Option.toList_none, List.cons_append, List.nil_append, am_w8_0, am_w8_1, am_w8_2, am_w8_3, am_w8_4, eq_self, or_true, true_or, am_kd_sI, am_kd_sL, am_kd_sR, am_tc_sI, am_tc_sL, am_tc_sR, am_len_sI, am_len_sL, am_len_sR, am_rfs, if_true, if_false, am_rdL_sI, am_rR_sL, am_rt_cq, am_kd_cq, am_tc_cq, am_len_cq, am_rd_sL, am_rd_sR, am_rdL_sR, okK_211 ok, am_sI_id h0, s1, y, not_false_eq_true, okK_211 ok1, db]
      exact s2
    · rw [if_neg (fun w => cb (by have := w.2; rw [z] at this; exact this))]
      rw [if_neg cb] at db
      refine ⟨h1, f1, ?_⟩
      simp only [e284_0, e284_1, e284_2, e284_5, e284_6, e284_7, e284_8, e284_11, e284_14, e284_15, e284_16, e284_19, e284_22, e284_23, e284_24, e284_25, e284_28, e284_31, e284_32, e284_35, e284_38, e284_40, e284_41, e284_44, e284_47, e284_48, e284_49, e284_51, e284_52, e284_55, e284_56, e284_58, e284_59, e284_62, e284_65, e284_68, e284_69, e284_70, e284_73, e284_76, e284_78, am_bd_some, Option.toList_some, Option.toList_none, List.cons_append, List.nil_append, am_w8_0, am_w8_1, am_w8_2, am_w8_3, am_w8_4, eq_self, or_true, true_or, am_kd_sI, am_kd_sL, am_kd_sR, am_tc_sI, am_tc_sL, am_tc_sR, am_len_sI, am_len_sL, am_len_sR, am_rfs, if_true, if_false, am_rdL_sI, am_rR_sL, am_rt_cq, am_kd_cq, am_tc_cq, am_len_cq, am_rd_sL, am_rd_sR, am_rdL_sR, okK_211 ok, am_sI_id h0, s1, y, okK_211 ok1, db, not_true]
  · rw [if_neg (fun w => cf w.1)]
    obtain ⟨h1, f1, s1⟩ := den_lay0 H a d cf
    refine ⟨h1, f1, ?_⟩
    simp only [e284_0, e284_1, e284_2, e284_5, e284_6, e284_7, e284_8, e284_11, e284_14, e284_15, e284_16, e284_19, e284_22, e284_23, e284_24, e284_25, e284_28, e284_31, e284_32, e284_35, e284_38, e284_40, e284_41, e284_44, e284_47, e284_48, e284_49, e284_51, e284_52, e284_55, e284_56, e284_58, e284_59, e284_62, e284_65, e284_68, e284_69, e284_70, e284_73, e284_76, e284_78, am_bd_some, Option.toList_some, Option.toList_none, List.cons_append, List.nil_append, am_w8_0, am_w8_1, am_w8_2, am_w8_3, am_w8_4, eq_self, or_true, true_or, am_kd_sI, am_kd_sL, am_kd_sR, am_tc_sI, am_tc_sL, am_tc_sR, am_len_sI, am_len_sL, am_len_sR, am_rfs, if_true, if_false, am_rdL_sI, am_rR_sL, am_rt_cq, am_kd_cq, am_tc_cq, am_len_cq, am_rd_sL, am_rd_sR, am_rdL_sR, okK_211 ok, am_sI_id h0, s1]
theorem ly_27 : ly_p27 := fun a d b => pr_wk (fun A => q_ctA A a d b) (fun A h H => den_ccaught H a d b) (fun A h H => den_mcaught H a d b)
/-! all of the first n whistles can be -/
def q_ful (f : q_Fl) (d : q_Dr) (g : q_G) (n : Int32) : Prop := (0 ≤ n ∧ n ≤ nI d.1) ∧ (G_fol f d.2 n.toNatClampNeg 0 g).1 = n.toNatClampNeg
theorem den_cful (q o p : Nat) (f : q_Fl) (wf : F_wf f) (d : q_Dr) (dk : D_ok d) (dj : p + 1 < q ∨ q + 5 < p) (n : Int32) (g : q_G) (h : am_H) (cg : q_cg h q o f g) (gi : G_in f g) (cd : q_cD h p d) : ∃ (h' : am_H) (v : Int32), q_ff q h h' ∧ am_den 115 [.ref q, .ref p, .int n] h = some (some (.int v), h') ∧ (v = n ↔ q_ful f d g n) ∧ (q_ful f d g n → q_cg h' q o f (G_fol f d.2 n.toNatClampNeg 0 g).2) := by
  have d40 := dk.1
  by_cases c : n < 0
  · refine ⟨h, 0, q_ff.rf q h, den_follows0 q p d dk n c h cd, ⟨fun w => ?_, fun w => absurd c (Int32.not_lt.mpr w.1.1)⟩, fun w => absurd c (Int32.not_lt.mpr w.1.1)⟩
    rw [← w] at c
    exact absurd c (by decide)
  · obtain ⟨k, hk, rfl⟩ := nI_of c
    have z : (nI k).toNatClampNeg = k := nI_clamp (by omega)
    obtain ⟨h', f1, g1, s1⟩ := den_follows q o p f wf d dk dj k hk g h cg gi cd
    have le := (G_fol_le f d.2 (min k d.1) 0 g).2
    have p0 : (0 : Int32) ≤ nI k := Int32.not_lt.mp c
    have cm : nI k ≤ nI d.1 ↔ k ≤ d.1 := nI_leI hk (by omega)
    have eqv : nI (G_fol f d.2 (min k d.1) 0 g).1 = nI k ↔ (G_fol f d.2 (min k d.1) 0 g).1 = k := nI_eq (by omega) hk
    refine ⟨h', _, f1, s1, ?_, fun w => ?_⟩
    · unfold q_ful
      rw [z, eqv, cm]
      constructor
      · intro w
        have : min k d.1 = k := by omega
        rw [this] at w
        exact ⟨⟨p0, by omega⟩, w⟩
      · intro w
        have : min k d.1 = k := by omega
        rw [this]
        exact w.2
    · have : k ≤ d.1 := cm.mp w.1.2
      rw [z]
      rw [show min k d.1 = k by omega] at g1
      exact g1
