/-! part 81: fits -/
theorem e146_0 {ls : List (Option Value)} {st : List Value} {h : am_H} {a : Nat} : am_ev 146 0 (some (.ref a) :: ls) (st) h = am_ev 146 1 (some (.ref a) :: ls) (.ref a :: st) h := am_ev_step (q := (1, some (.ref a) :: ls, .ref a :: st, h)) _ (.aload_n 0) 1 am_my_146 (by decide +kernel) rfl
theorem e146_1 {ls : List (Option Value)} {st : List Value} {h : am_H} {o : Nat} (hk : am_kd h o = some (.inl 10)) : am_ev 146 1 ls (.ref o :: st) h = am_ev 146 4 ls (va_rf (h.2.2.1 o 0) :: st) h := am_u_gfR (idx := 10) (wn := 2146) (a := 0) am_my_146 (by decide +kernel) (by decide +kernel) (by decide +kernel) hk
theorem e146_4 {ls : List (Option Value)} {st : List Value} {h : am_H} : am_ev 146 4 (ls) (st) h = am_ev 146 5 (ls) (.int (3) :: st) h := am_ev_step (q := (5, ls, .int (3) :: st, h)) _ (.iconst (3)) 1 am_my_146 (by decide +kernel) rfl
theorem e146_5 {ls : List (Option Value)} {st : List Value} {h : am_H} {l0 : Option Value} {a : Int32} : am_ev 146 5 (l0 :: some (.int a) :: ls) (st) h = am_ev 146 6 (l0 :: some (.int a) :: ls) (.int a :: st) h := am_ev_step (q := (6, l0 :: some (.int a) :: ls, .int a :: st, h)) _ (.iload_n 1) 1 am_my_146 (by decide +kernel) rfl
theorem e146_6 {ls : List (Option Value)} {st : List Value} {h : am_H} {p0 : Int32} {p1 : Int32} {o : Nat} (hw : am_w8 st ≤ 8) (hk : am_kd h o = some (.inl 8)) : am_ev 146 6 ls (.int p1 :: .int p0 :: .ref o :: st) h = am_bd (am_den 17 [.ref o, .int p0, .int p1] h) (fun v h1 => am_ev 146 9 ls (v.toList ++ st) h1) := am_u_cV (idx := 108) (wn := 2200) (as := [.int p0, .int p1]) am_my_146 (by decide +kernel) (Or.inl (by decide +kernel)) am_my_17 (by decide +kernel) rfl ⟨Nat.le_of_ble_eq_true rfl, rfl⟩ (by decide +kernel) hw hk
theorem e146_9 {ls : List (Option Value)} {st : List Value} {h : am_H} {a : Int32} : am_ev 146 9 ls (.int a :: st) h = if ¬ a = 0 then am_ev 146 15 ls st h else am_ev 146 12 ls st h := am_u_if1 (c := .ne) (off := 6) am_my_146 (by decide +kernel) (by decide)
theorem e146_12 {ls : List (Option Value)} {st : List Value} {h : am_H} : am_ev 146 12 (ls) (st) h = am_ev 146 14 (ls) (.int (-2) :: st) h := am_ev_step (q := (14, ls, .int (-2) :: st, h)) _ (.bipush (-2)) 2 am_my_146 (by decide +kernel) rfl
theorem e146_14 {ls : List (Option Value)} {h : am_H} {v : Int32} : am_ev 146 14 ls [.int v] h = some (some (.int v), h) := am_u_rtI am_my_146 (by decide +kernel) rfl
theorem e146_15 {ls : List (Option Value)} {st : List Value} {h : am_H} {a : Nat} : am_ev 146 15 (some (.ref a) :: ls) (st) h = am_ev 146 16 (some (.ref a) :: ls) (.ref a :: st) h := am_ev_step (q := (16, some (.ref a) :: ls, .ref a :: st, h)) _ (.aload_n 0) 1 am_my_146 (by decide +kernel) rfl
theorem e146_16 {ls : List (Option Value)} {st : List Value} {h : am_H} {a : Nat} : am_ev 146 16 (some (.ref a) :: ls) (st) h = am_ev 146 17 (some (.ref a) :: ls) (.ref a :: st) h := am_ev_step (q := (17, some (.ref a) :: ls, .ref a :: st, h)) _ (.aload_n 0) 1 am_my_146 (by decide +kernel) rfl
theorem e146_17 {ls : List (Option Value)} {st : List Value} {h : am_H} {o : Nat} (hk : am_kd h o = some (.inl 10)) : am_ev 146 17 ls (.ref o :: st) h = am_ev 146 20 ls (va_rf (h.2.2.1 o 0) :: st) h := am_u_gfR (idx := 10) (wn := 2146) (a := 0) am_my_146 (by decide +kernel) (by decide +kernel) (by decide +kernel) hk
theorem e146_20 {ls : List (Option Value)} {st : List Value} {h : am_H} {o : Nat} (hk : am_kd h o = some (.inl 8)) : am_ev 146 20 ls (.ref o :: st) h = am_ev 146 23 ls (va_rf (h.2.2.1 o 8) :: st) h := am_u_gfR (idx := 296) (wn := 1197) (a := 0) am_my_146 (by decide +kernel) (by decide +kernel) (by decide +kernel) hk
theorem e146_23 {ls : List (Option Value)} {st : List Value} {h : am_H} {l0 : Option Value} {a : Int32} : am_ev 146 23 (l0 :: some (.int a) :: ls) (st) h = am_ev 146 24 (l0 :: some (.int a) :: ls) (.int a :: st) h := am_ev_step (q := (24, l0 :: some (.int a) :: ls, .int a :: st, h)) _ (.iload_n 1) 1 am_my_146 (by decide +kernel) rfl
theorem e146_24f {ls : List (Option Value)} {st : List Value} {h : am_H} {i : Int32} {a : Nat} (ht : am_tc h a = some 4) : am_ev 146 24 ls (.int i :: .ref a :: st) h = if am_ix i (am_len h a) = true then am_ev 146 25 ls (va_rf (h.2.2.1 a i.toNatClampNeg) :: st) h else none := am_u_rA am_my_146 (by decide +kernel) ht (by decide)
theorem e146_24d {ls : List (Option Value)} {st : List Value} {h : am_H} {i : Int32} {a : Nat} (ht : am_tc h a = some 5) : am_ev 146 24 ls (.int i :: .ref a :: st) h = if am_ix i (am_len h a) = true then am_ev 146 25 ls (va_rf (h.2.2.1 a i.toNatClampNeg) :: st) h else none := am_u_rA am_my_146 (by decide +kernel) ht (by decide)
theorem e146_24b {ls : List (Option Value)} {st : List Value} {h : am_H} {i : Int32} {a : Nat} (ht : am_tc h a = some 6) : am_ev 146 24 ls (.int i :: .ref a :: st) h = if am_ix i (am_len h a) = true then am_ev 146 25 ls (va_rf (h.2.2.1 a i.toNatClampNeg) :: st) h else none := am_u_rA am_my_146 (by decide +kernel) ht (by decide)
theorem e146_24l {ls : List (Option Value)} {st : List Value} {h : am_H} {i : Int32} {a : Nat} (ht : am_tc h a = some 7) : am_ev 146 24 ls (.int i :: .ref a :: st) h = if am_ix i (am_len h a) = true then am_ev 146 25 ls (va_rf (h.2.2.1 a i.toNatClampNeg) :: st) h else none := am_u_rA am_my_146 (by decide +kernel) ht (by decide)
theorem e146_24t {ls : List (Option Value)} {st : List Value} {h : am_H} {i : Int32} {a : Nat} (ht : am_tc h a = some 8) : am_ev 146 24 ls (.int i :: .ref a :: st) h = if am_ix i (am_len h a) = true then am_ev 146 25 ls (va_rf (h.2.2.1 a i.toNatClampNeg) :: st) h else none := am_u_rA am_my_146 (by decide +kernel) ht (by decide)
theorem e146_25 {ls : List (Option Value)} {st : List Value} {h : am_H} {p0 : Nat} {o : Nat} (hw : am_w8 st ≤ 8) (hk : am_kd h o = some (.inl 10)) : am_ev 146 25 ls (.ref p0 :: .ref o :: st) h = am_bd (am_den 147 [.ref o, .ref p0] h) (fun v h1 => am_ev 146 28 ls (v.toList ++ st) h1) := am_u_cV (idx := 303) (wn := 5059) (as := [.ref p0]) am_my_146 (by decide +kernel) (Or.inl (by decide +kernel)) am_my_147 (by decide +kernel) rfl ⟨Nat.le_of_ble_eq_true rfl, rfl⟩ (by decide +kernel) hw hk
theorem e146_28 {ls : List (Option Value)} {st : List Value} {h : am_H} {l0 l1 l2 : Option Value} {z z2 : Option Value} {a : Int64} : am_ev 146 28 (l0 :: l1 :: l2 :: z :: z2 :: ls) (.long a :: st) h = am_ev 146 29 (l0 :: l1 :: l2 :: some (.long a) :: some (.retAddr 0) :: ls) (st) h := am_ev_step (q := (29, l0 :: l1 :: l2 :: some (.long a) :: some (.retAddr 0) :: ls, st, h)) _ (.lstore_n 3) 1 am_my_146 (by decide +kernel) rfl
theorem e146_29 {ls : List (Option Value)} {st : List Value} {h : am_H} {l0 l1 : Option Value} {a : Int32} : am_ev 146 29 (l0 :: l1 :: some (.int a) :: ls) (st) h = am_ev 146 30 (l0 :: l1 :: some (.int a) :: ls) (.int a :: st) h := am_ev_step (q := (30, l0 :: l1 :: some (.int a) :: ls, .int a :: st, h)) _ (.iload_n 2) 1 am_my_146 (by decide +kernel) rfl
theorem e146_30 {ls : List (Option Value)} {st : List Value} {h : am_H} {a : Int32} : am_ev 146 30 ls (.int a :: st) h = if ¬ a = 0 then am_ev 146 38 ls st h else am_ev 146 33 ls st h := am_u_if1 (c := .ne) (off := 8) am_my_146 (by decide +kernel) (by decide)
theorem e146_33 {ls : List (Option Value)} {st : List Value} {h : am_H} {l0 l1 l2 : Option Value} {a : Int64} : am_ev 146 33 (l0 :: l1 :: l2 :: some (.long a) :: some (.retAddr 0) :: ls) (st) h = am_ev 146 34 (l0 :: l1 :: l2 :: some (.long a) :: some (.retAddr 0) :: ls) (.long a :: st) h := am_ev_step (q := (34, l0 :: l1 :: l2 :: some (.long a) :: some (.retAddr 0) :: ls, .long a :: st, h)) _ (.lload_n 3) 1 am_my_146 (by decide +kernel) rfl
theorem e146_34 {ls : List (Option Value)} {st : List Value} {h : am_H} {p0 : Int64} (hw : am_w8 st ≤ 8) : am_ev 146 34 ls (.long p0 :: st) h = am_bd (am_den 90 [.long p0] h) (fun v h1 => am_ev 146 37 ls (v.toList ++ st) h1) := am_u_cS (idx := 307) (wn := 5080) (as := [.long p0]) am_my_146 (by decide +kernel) (by decide +kernel) am_my_90 (by decide +kernel) rfl ⟨Nat.le_of_ble_eq_true rfl, rfl⟩ hw
theorem e146_37 {ls : List (Option Value)} {h : am_H} {v : Int32} : am_ev 146 37 ls [.int v] h = some (some (.int v), h) := am_u_rtI am_my_146 (by decide +kernel) rfl
theorem e146_38 {ls : List (Option Value)} {st : List Value} {h : am_H} {l0 l1 : Option Value} {a : Int32} : am_ev 146 38 (l0 :: l1 :: some (.int a) :: ls) (st) h = am_ev 146 39 (l0 :: l1 :: some (.int a) :: ls) (.int a :: st) h := am_ev_step (q := (39, l0 :: l1 :: some (.int a) :: ls, .int a :: st, h)) _ (.iload_n 2) 1 am_my_146 (by decide +kernel) rfl
theorem e146_39 {ls : List (Option Value)} {st : List Value} {h : am_H} : am_ev 146 39 (ls) (st) h = am_ev 146 40 (ls) (.int (1) :: st) h := am_ev_step (q := (40, ls, .int (1) :: st, h)) _ (.iconst (1)) 1 am_my_146 (by decide +kernel) rfl
theorem e146_40 {ls : List (Option Value)} {st : List Value} {h : am_H} {a b : Int32} : am_ev 146 40 ls (.int b :: .int a :: st) h = if a = b then am_ev 146 48 ls st h else am_ev 146 43 ls st h := am_u_if2 (c := .eq) (off := 8) am_my_146 (by decide +kernel) (by decide)
theorem e146_43 {ls : List (Option Value)} {st : List Value} {h : am_H} {l0 l1 : Option Value} {a : Int32} : am_ev 146 43 (l0 :: l1 :: some (.int a) :: ls) (st) h = am_ev 146 44 (l0 :: l1 :: some (.int a) :: ls) (.int a :: st) h := am_ev_step (q := (44, l0 :: l1 :: some (.int a) :: ls, .int a :: st, h)) _ (.iload_n 2) 1 am_my_146 (by decide +kernel) rfl
theorem e146_44 {ls : List (Option Value)} {st : List Value} {h : am_H} : am_ev 146 44 (ls) (st) h = am_ev 146 45 (ls) (.int (2) :: st) h := am_ev_step (q := (45, ls, .int (2) :: st, h)) _ (.iconst (2)) 1 am_my_146 (by decide +kernel) rfl
theorem e146_45 {ls : List (Option Value)} {st : List Value} {h : am_H} {a b : Int32} : am_ev 146 45 ls (.int b :: .int a :: st) h = if ¬ a = b then am_ev 146 63 ls st h else am_ev 146 48 ls st h := am_u_if2 (c := .ne) (off := 18) am_my_146 (by decide +kernel) (by decide)
theorem e146_48 {ls : List (Option Value)} {st : List Value} {h : am_H} {l0 l1 l2 : Option Value} {a : Int64} : am_ev 146 48 (l0 :: l1 :: l2 :: some (.long a) :: some (.retAddr 0) :: ls) (st) h = am_ev 146 49 (l0 :: l1 :: l2 :: some (.long a) :: some (.retAddr 0) :: ls) (.long a :: st) h := am_ev_step (q := (49, l0 :: l1 :: l2 :: some (.long a) :: some (.retAddr 0) :: ls, .long a :: st, h)) _ (.lload_n 3) 1 am_my_146 (by decide +kernel) rfl
theorem e146_49 {ls : List (Option Value)} {st : List Value} {h : am_H} {l0 l1 : Option Value} {a : Int32} : am_ev 146 49 (l0 :: l1 :: some (.int a) :: ls) (st) h = am_ev 146 50 (l0 :: l1 :: some (.int a) :: ls) (.int a :: st) h := am_ev_step (q := (50, l0 :: l1 :: some (.int a) :: ls, .int a :: st, h)) _ (.iload_n 2) 1 am_my_146 (by decide +kernel) rfl
theorem e146_50 {ls : List (Option Value)} {st : List Value} {h : am_H} : am_ev 146 50 (ls) (st) h = am_ev 146 51 (ls) (.int (2) :: st) h := am_ev_step (q := (51, ls, .int (2) :: st, h)) _ (.iconst (2)) 1 am_my_146 (by decide +kernel) rfl
theorem e146_51 {ls : List (Option Value)} {st : List Value} {h : am_H} {a b : Int32} : am_ev 146 51 ls (.int b :: .int a :: st) h = if ¬ a = b then am_ev 146 58 ls st h else am_ev 146 54 ls st h := am_u_if2 (c := .ne) (off := 7) am_my_146 (by decide +kernel) (by decide)
theorem e146_54 {ls : List (Option Value)} {st : List Value} {h : am_H} : am_ev 146 54 (ls) (st) h = am_ev 146 55 (ls) (.int (1) :: st) h := am_ev_step (q := (55, ls, .int (1) :: st, h)) _ (.iconst (1)) 1 am_my_146 (by decide +kernel) rfl
theorem e146_55 {ls : List (Option Value)} {st : List Value} {h : am_H} : am_ev 146 55 (ls) (st) h = am_ev 146 59 (ls) (st) h := am_ev_step (q := (59, ls, st, h)) _ (.goto (4)) 3 am_my_146 (by decide +kernel) rfl
theorem e146_58 {ls : List (Option Value)} {st : List Value} {h : am_H} : am_ev 146 58 (ls) (st) h = am_ev 146 59 (ls) (.int (0) :: st) h := am_ev_step (q := (59, ls, .int (0) :: st, h)) _ (.iconst (0)) 1 am_my_146 (by decide +kernel) rfl
theorem e146_59 {ls : List (Option Value)} {st : List Value} {h : am_H} {p0 : Int64} {p1 : Int32} (hw : am_w8 st ≤ 8) : am_ev 146 59 ls (.int p1 :: .long p0 :: st) h = am_bd (am_den 152 [.long p0, .int p1] h) (fun v h1 => am_ev 146 62 ls (v.toList ++ st) h1) := am_u_cS (idx := 313) (wn := 5081) (as := [.long p0, .int p1]) am_my_146 (by decide +kernel) (by decide +kernel) am_my_152 (by decide +kernel) rfl ⟨Nat.le_of_ble_eq_true rfl, rfl⟩ hw
theorem e146_62 {ls : List (Option Value)} {h : am_H} {v : Int32} : am_ev 146 62 ls [.int v] h = some (some (.int v), h) := am_u_rtI am_my_146 (by decide +kernel) rfl
theorem e146_63 {ls : List (Option Value)} {st : List Value} {h : am_H} {l0 l1 : Option Value} {a : Int32} : am_ev 146 63 (l0 :: l1 :: some (.int a) :: ls) (st) h = am_ev 146 64 (l0 :: l1 :: some (.int a) :: ls) (.int a :: st) h := am_ev_step (q := (64, l0 :: l1 :: some (.int a) :: ls, .int a :: st, h)) _ (.iload_n 2) 1 am_my_146 (by decide +kernel) rfl
theorem e146_64 {ls : List (Option Value)} {st : List Value} {h : am_H} : am_ev 146 64 (ls) (st) h = am_ev 146 66 (ls) (.int (10) :: st) h := am_ev_step (q := (66, ls, .int (10) :: st, h)) _ (.bipush (10)) 2 am_my_146 (by decide +kernel) rfl
theorem e146_66 {ls : List (Option Value)} {st : List Value} {h : am_H} {a b : Int32} : am_ev 146 66 ls (.int b :: .int a :: st) h = if a < b then am_ev 146 80 ls st h else am_ev 146 69 ls st h := am_u_if2 (c := .lt) (off := 14) am_my_146 (by decide +kernel) (by decide)
theorem e146_69 {ls : List (Option Value)} {st : List Value} {h : am_H} {l0 l1 l2 : Option Value} {a : Int64} : am_ev 146 69 (l0 :: l1 :: l2 :: some (.long a) :: some (.retAddr 0) :: ls) (st) h = am_ev 146 70 (l0 :: l1 :: l2 :: some (.long a) :: some (.retAddr 0) :: ls) (.long a :: st) h := am_ev_step (q := (70, l0 :: l1 :: l2 :: some (.long a) :: some (.retAddr 0) :: ls, .long a :: st, h)) _ (.lload_n 3) 1 am_my_146 (by decide +kernel) rfl
theorem e146_70 {ls : List (Option Value)} {st : List Value} {h : am_H} {l0 l1 : Option Value} {a : Int32} : am_ev 146 70 (l0 :: l1 :: some (.int a) :: ls) (st) h = am_ev 146 71 (l0 :: l1 :: some (.int a) :: ls) (.int a :: st) h := am_ev_step (q := (71, l0 :: l1 :: some (.int a) :: ls, .int a :: st, h)) _ (.iload_n 2) 1 am_my_146 (by decide +kernel) rfl
theorem e146_71 {ls : List (Option Value)} {st : List Value} {h : am_H} : am_ev 146 71 (ls) (st) h = am_ev 146 73 (ls) (.int (10) :: st) h := am_ev_step (q := (73, ls, .int (10) :: st, h)) _ (.bipush (10)) 2 am_my_146 (by decide +kernel) rfl
theorem e146_73 {ls : List (Option Value)} {st : List Value} {h : am_H} {a b : Int32} : am_ev 146 73 (ls) (.int b :: .int a :: st) h = am_ev 146 74 (ls) (.int (a - b) :: st) h := am_ev_step (q := (74, ls, .int (a - b) :: st, h)) _ (.isub) 1 am_my_146 (by decide +kernel) rfl
theorem e146_74 {ls : List (Option Value)} {st : List Value} {h : am_H} {p0 : Int64} {p1 : Int32} (hw : am_w8 st ≤ 8) : am_ev 146 74 ls (.int p1 :: .long p0 :: st) h = am_bd (am_den 153 [.long p0, .int p1] h) (fun v h1 => am_ev 146 77 ls (v.toList ++ st) h1) := am_u_cS (idx := 317) (wn := 5084) (as := [.long p0, .int p1]) am_my_146 (by decide +kernel) (by decide +kernel) am_my_153 (by decide +kernel) rfl ⟨Nat.le_of_ble_eq_true rfl, rfl⟩ hw
theorem e146_77 {ls : List (Option Value)} {st : List Value} {h : am_H} : am_ev 146 77 (ls) (st) h = am_ev 146 81 (ls) (st) h := am_ev_step (q := (81, ls, st, h)) _ (.goto (4)) 3 am_my_146 (by decide +kernel) rfl
theorem e146_80 {ls : List (Option Value)} {st : List Value} {h : am_H} : am_ev 146 80 (ls) (st) h = am_ev 146 81 (ls) (.int (-1) :: st) h := am_ev_step (q := (81, ls, .int (-1) :: st, h)) _ (.iconst (-1)) 1 am_my_146 (by decide +kernel) rfl
theorem e146_81 {ls : List (Option Value)} {st : List Value} {h : am_H} {l0 l1 l2 l3 l4 : Option Value} {z : Option Value} {a : Int32} : am_ev 146 81 (l0 :: l1 :: l2 :: l3 :: l4 :: z :: ls) (.int a :: st) h = am_ev 146 83 (l0 :: l1 :: l2 :: l3 :: l4 :: some (.int a) :: ls) (st) h := am_ev_step (q := (83, l0 :: l1 :: l2 :: l3 :: l4 :: some (.int a) :: ls, st, h)) _ (.istore 5) 2 am_my_146 (by decide +kernel) rfl
theorem e146_83 {ls : List (Option Value)} {st : List Value} {h : am_H} {l0 l1 l2 l3 l4 : Option Value} {a : Int32} : am_ev 146 83 (l0 :: l1 :: l2 :: l3 :: l4 :: some (.int a) :: ls) (st) h = am_ev 146 85 (l0 :: l1 :: l2 :: l3 :: l4 :: some (.int a) :: ls) (.int a :: st) h := am_ev_step (q := (85, l0 :: l1 :: l2 :: l3 :: l4 :: some (.int a) :: ls, .int a :: st, h)) _ (.iload 5) 2 am_my_146 (by decide +kernel) rfl
theorem e146_85 {ls : List (Option Value)} {st : List Value} {h : am_H} : am_ev 146 85 (ls) (st) h = am_ev 146 86 (ls) (.int (-1) :: st) h := am_ev_step (q := (86, ls, .int (-1) :: st, h)) _ (.iconst (-1)) 1 am_my_146 (by decide +kernel) rfl
theorem e146_86 {ls : List (Option Value)} {st : List Value} {h : am_H} {a b : Int32} : am_ev 146 86 ls (.int b :: .int a :: st) h = if ¬ a = b then am_ev 146 94 ls st h else am_ev 146 89 ls st h := am_u_if2 (c := .ne) (off := 8) am_my_146 (by decide +kernel) (by decide)
theorem e146_89 {ls : List (Option Value)} {st : List Value} {h : am_H} : am_ev 146 89 (ls) (st) h = am_ev 146 91 (ls) (.int (-2) :: st) h := am_ev_step (q := (91, ls, .int (-2) :: st, h)) _ (.bipush (-2)) 2 am_my_146 (by decide +kernel) rfl
theorem e146_91 {ls : List (Option Value)} {st : List Value} {h : am_H} : am_ev 146 91 (ls) (st) h = am_ev 146 96 (ls) (st) h := am_ev_step (q := (96, ls, st, h)) _ (.goto (5)) 3 am_my_146 (by decide +kernel) rfl
theorem e146_94 {ls : List (Option Value)} {st : List Value} {h : am_H} {l0 l1 l2 l3 l4 : Option Value} {a : Int32} : am_ev 146 94 (l0 :: l1 :: l2 :: l3 :: l4 :: some (.int a) :: ls) (st) h = am_ev 146 96 (l0 :: l1 :: l2 :: l3 :: l4 :: some (.int a) :: ls) (.int a :: st) h := am_ev_step (q := (96, l0 :: l1 :: l2 :: l3 :: l4 :: some (.int a) :: ls, .int a :: st, h)) _ (.iload 5) 2 am_my_146 (by decide +kernel) rfl
theorem e146_96 {ls : List (Option Value)} {h : am_H} {v : Int32} : am_ev 146 96 ls [.int v] h = some (some (.int v), h) := am_u_rtI am_my_146 (by decide +kernel) rfl
theorem e152_0 {ls : List (Option Value)} {st : List Value} {h : am_H} : am_ev 152 0 (ls) (st) h = am_ev 152 1 (ls) (.int (-1) :: st) h := am_ev_step (q := (1, ls, .int (-1) :: st, h)) _ (.iconst (-1)) 1 am_my_152 (by decide +kernel) rfl
theorem e152_1 {ls : List (Option Value)} {st : List Value} {h : am_H} {l0 l1 l2 : Option Value} {z : Option Value} {a : Int32} : am_ev 152 1 (l0 :: l1 :: l2 :: z :: ls) (.int a :: st) h = am_ev 152 2 (l0 :: l1 :: l2 :: some (.int a) :: ls) (st) h := am_ev_step (q := (2, l0 :: l1 :: l2 :: some (.int a) :: ls, st, h)) _ (.istore_n 3) 1 am_my_152 (by decide +kernel) rfl
theorem e152_2 {ls : List (Option Value)} {st : List Value} {h : am_H} : am_ev 152 2 (ls) (st) h = am_ev 152 3 (ls) (.int (0) :: st) h := am_ev_step (q := (3, ls, .int (0) :: st, h)) _ (.iconst (0)) 1 am_my_152 (by decide +kernel) rfl
theorem e152_3 {ls : List (Option Value)} {st : List Value} {h : am_H} {l0 l1 l2 l3 : Option Value} {z : Option Value} {a : Int32} : am_ev 152 3 (l0 :: l1 :: l2 :: l3 :: z :: ls) (.int a :: st) h = am_ev 152 5 (l0 :: l1 :: l2 :: l3 :: some (.int a) :: ls) (st) h := am_ev_step (q := (5, l0 :: l1 :: l2 :: l3 :: some (.int a) :: ls, st, h)) _ (.istore 4) 2 am_my_152 (by decide +kernel) rfl
theorem e152_5 {ls : List (Option Value)} {st : List Value} {h : am_H} {l0 l1 l2 l3 : Option Value} {a : Int32} : am_ev 152 5 (l0 :: l1 :: l2 :: l3 :: some (.int a) :: ls) (st) h = am_ev 152 7 (l0 :: l1 :: l2 :: l3 :: some (.int a) :: ls) (.int a :: st) h := am_ev_step (q := (7, l0 :: l1 :: l2 :: l3 :: some (.int a) :: ls, .int a :: st, h)) _ (.iload 4) 2 am_my_152 (by decide +kernel) rfl
theorem e152_7 {ls : List (Option Value)} {st : List Value} {h : am_H} : am_ev 152 7 (ls) (st) h = am_ev 152 9 (ls) (.int (36) :: st) h := am_ev_step (q := (9, ls, .int (36) :: st, h)) _ (.bipush (36)) 2 am_my_152 (by decide +kernel) rfl
theorem e152_9 {ls : List (Option Value)} {st : List Value} {h : am_H} {a b : Int32} : am_ev 152 9 ls (.int b :: .int a :: st) h = if b ≤ a then am_ev 152 69 ls st h else am_ev 152 12 ls st h := am_u_if2 (c := .ge) (off := 60) am_my_152 (by decide +kernel) (by decide)
theorem e152_12 {ls : List (Option Value)} {st : List Value} {h : am_H} {a : Int64} : am_ev 152 12 (some (.long a) :: some (.retAddr 0) :: ls) (st) h = am_ev 152 13 (some (.long a) :: some (.retAddr 0) :: ls) (.long a :: st) h := am_ev_step (q := (13, some (.long a) :: some (.retAddr 0) :: ls, .long a :: st, h)) _ (.lload_n 0) 1 am_my_152 (by decide +kernel) rfl
theorem e152_13 {ls : List (Option Value)} {st : List Value} {h : am_H} {l0 l1 l2 l3 : Option Value} {a : Int32} : am_ev 152 13 (l0 :: l1 :: l2 :: l3 :: some (.int a) :: ls) (st) h = am_ev 152 15 (l0 :: l1 :: l2 :: l3 :: some (.int a) :: ls) (.int a :: st) h := am_ev_step (q := (15, l0 :: l1 :: l2 :: l3 :: some (.int a) :: ls, .int a :: st, h)) _ (.iload 4) 2 am_my_152 (by decide +kernel) rfl
theorem e152_15 {ls : List (Option Value)} {st : List Value} {h : am_H} {a : Int64} {b : Int32} : am_ev 152 15 (ls) (.int b :: .long a :: st) h = am_ev 152 16 (ls) (.long (a >>> (b.toInt64 &&& 63)) :: st) h := am_ev_step (q := (16, ls, .long (a >>> (b.toInt64 &&& 63)) :: st, h)) _ (.lshr) 1 am_my_152 (by decide +kernel) rfl
theorem e152_16 {ls : List (Option Value)} {st : List Value} {h : am_H} : am_ev 152 16 (ls) (st) h = am_ev 152 17 (ls) (.long 1 :: st) h := am_ev_step (q := (17, ls, .long 1 :: st, h)) _ (.lconst 1) 1 am_my_152 (by decide +kernel) rfl
theorem e152_17 {ls : List (Option Value)} {st : List Value} {h : am_H} {a b : Int64} : am_ev 152 17 (ls) (.long b :: .long a :: st) h = am_ev 152 18 (ls) (.long (a &&& b) :: st) h := am_ev_step (q := (18, ls, .long (a &&& b) :: st, h)) _ (.land) 1 am_my_152 (by decide +kernel) rfl
theorem e152_18 {ls : List (Option Value)} {st : List Value} {h : am_H} : am_ev 152 18 (ls) (st) h = am_ev 152 19 (ls) (.long 0 :: st) h := am_ev_step (q := (19, ls, .long 0 :: st, h)) _ (.lconst 0) 1 am_my_152 (by decide +kernel) rfl
theorem e152_19 {ls : List (Option Value)} {st : List Value} {h : am_H} {a b : Int64} : am_ev 152 19 (ls) (.long b :: .long a :: st) h = am_ev 152 20 (ls) (.int (lg_cmp a b) :: st) h := am_ev_step (q := (20, ls, .int (lg_cmp a b) :: st, h)) _ (.lcmp) 1 am_my_152 (by decide +kernel) rfl
theorem e152_20 {ls : List (Option Value)} {st : List Value} {h : am_H} {a : Int32} : am_ev 152 20 ls (.int a :: st) h = if ¬ a = 0 then am_ev 152 26 ls st h else am_ev 152 23 ls st h := am_u_if1 (c := .ne) (off := 6) am_my_152 (by decide +kernel) (by decide)
theorem e152_23 {ls : List (Option Value)} {st : List Value} {h : am_H} : am_ev 152 23 (ls) (st) h = am_ev 152 63 (ls) (st) h := am_ev_step (q := (63, ls, st, h)) _ (.goto (40)) 3 am_my_152 (by decide +kernel) rfl
theorem e152_26 {ls : List (Option Value)} {st : List Value} {h : am_H} {l0 l1 : Option Value} {a : Int32} : am_ev 152 26 (l0 :: l1 :: some (.int a) :: ls) (st) h = am_ev 152 27 (l0 :: l1 :: some (.int a) :: ls) (.int a :: st) h := am_ev_step (q := (27, l0 :: l1 :: some (.int a) :: ls, .int a :: st, h)) _ (.iload_n 2) 1 am_my_152 (by decide +kernel) rfl
theorem e152_27 {ls : List (Option Value)} {st : List Value} {h : am_H} {a : Int32} : am_ev 152 27 ls (.int a :: st) h = if a = 0 then am_ev 152 40 ls st h else am_ev 152 30 ls st h := am_u_if1 (c := .eq) (off := 13) am_my_152 (by decide +kernel) (by decide)
theorem e152_30 {ls : List (Option Value)} {st : List Value} {h : am_H} {l0 l1 l2 l3 : Option Value} {a : Int32} : am_ev 152 30 (l0 :: l1 :: l2 :: l3 :: some (.int a) :: ls) (st) h = am_ev 152 32 (l0 :: l1 :: l2 :: l3 :: some (.int a) :: ls) (.int a :: st) h := am_ev_step (q := (32, l0 :: l1 :: l2 :: l3 :: some (.int a) :: ls, .int a :: st, h)) _ (.iload 4) 2 am_my_152 (by decide +kernel) rfl
theorem e152_32 {ls : List (Option Value)} {st : List Value} {h : am_H} : am_ev 152 32 (ls) (st) h = am_ev 152 34 (ls) (.int (9) :: st) h := am_ev_step (q := (34, ls, .int (9) :: st, h)) _ (.bipush (9)) 2 am_my_152 (by decide +kernel) rfl
theorem e152_34 {ls : List (Option Value)} {st : List Value} {h : am_H} {a b : Int32} : am_ev 152 34 ls (.int b :: .int a :: st) h = if b = 0 then none else am_ev 152 35 ls (.int (a - a / b * b) :: st) h := am_u_iz (i := .irem) (f := fun a b => a - a / b * b) am_my_152 (by decide +kernel) (fun _ => rfl)
theorem e152_35 {ls : List (Option Value)} {st : List Value} {h : am_H} : am_ev 152 35 (ls) (st) h = am_ev 152 36 (ls) (.int (1) :: st) h := am_ev_step (q := (36, ls, .int (1) :: st, h)) _ (.iconst (1)) 1 am_my_152 (by decide +kernel) rfl
theorem e152_36 {ls : List (Option Value)} {st : List Value} {h : am_H} {a b : Int32} : am_ev 152 36 (ls) (.int b :: .int a :: st) h = am_ev 152 37 (ls) (.int (a + b) :: st) h := am_ev_step (q := (37, ls, .int (a + b) :: st, h)) _ (.iadd) 1 am_my_152 (by decide +kernel) rfl
theorem e152_37 {ls : List (Option Value)} {st : List Value} {h : am_H} : am_ev 152 37 (ls) (st) h = am_ev 152 45 (ls) (st) h := am_ev_step (q := (45, ls, st, h)) _ (.goto (8)) 3 am_my_152 (by decide +kernel) rfl
theorem e152_40 {ls : List (Option Value)} {st : List Value} {h : am_H} {l0 l1 l2 l3 : Option Value} {a : Int32} : am_ev 152 40 (l0 :: l1 :: l2 :: l3 :: some (.int a) :: ls) (st) h = am_ev 152 42 (l0 :: l1 :: l2 :: l3 :: some (.int a) :: ls) (.int a :: st) h := am_ev_step (q := (42, l0 :: l1 :: l2 :: l3 :: some (.int a) :: ls, .int a :: st, h)) _ (.iload 4) 2 am_my_152 (by decide +kernel) rfl
theorem e152_42 {ls : List (Option Value)} {st : List Value} {h : am_H} : am_ev 152 42 (ls) (st) h = am_ev 152 44 (ls) (.int (9) :: st) h := am_ev_step (q := (44, ls, .int (9) :: st, h)) _ (.bipush (9)) 2 am_my_152 (by decide +kernel) rfl
theorem e152_44 {ls : List (Option Value)} {st : List Value} {h : am_H} {a b : Int32} : am_ev 152 44 ls (.int b :: .int a :: st) h = if b = 0 then none else am_ev 152 45 ls (.int (a / b) :: st) h := am_u_iz (i := .idiv) (f := fun a b => a / b) am_my_152 (by decide +kernel) (fun _ => rfl)
theorem e152_45 {ls : List (Option Value)} {st : List Value} {h : am_H} {l0 l1 l2 l3 l4 : Option Value} {z : Option Value} {a : Int32} : am_ev 152 45 (l0 :: l1 :: l2 :: l3 :: l4 :: z :: ls) (.int a :: st) h = am_ev 152 47 (l0 :: l1 :: l2 :: l3 :: l4 :: some (.int a) :: ls) (st) h := am_ev_step (q := (47, l0 :: l1 :: l2 :: l3 :: l4 :: some (.int a) :: ls, st, h)) _ (.istore 5) 2 am_my_152 (by decide +kernel) rfl
theorem e152_47 {ls : List (Option Value)} {st : List Value} {h : am_H} {l0 l1 l2 : Option Value} {a : Int32} : am_ev 152 47 (l0 :: l1 :: l2 :: some (.int a) :: ls) (st) h = am_ev 152 48 (l0 :: l1 :: l2 :: some (.int a) :: ls) (.int a :: st) h := am_ev_step (q := (48, l0 :: l1 :: l2 :: some (.int a) :: ls, .int a :: st, h)) _ (.iload_n 3) 1 am_my_152 (by decide +kernel) rfl
theorem e152_48 {ls : List (Option Value)} {st : List Value} {h : am_H} : am_ev 152 48 (ls) (st) h = am_ev 152 49 (ls) (.int (-1) :: st) h := am_ev_step (q := (49, ls, .int (-1) :: st, h)) _ (.iconst (-1)) 1 am_my_152 (by decide +kernel) rfl
theorem e152_49 {ls : List (Option Value)} {st : List Value} {h : am_H} {a b : Int32} : am_ev 152 49 ls (.int b :: .int a :: st) h = if a = b then am_ev 152 60 ls st h else am_ev 152 52 ls st h := am_u_if2 (c := .eq) (off := 11) am_my_152 (by decide +kernel) (by decide)
theorem e152_52 {ls : List (Option Value)} {st : List Value} {h : am_H} {l0 l1 l2 : Option Value} {a : Int32} : am_ev 152 52 (l0 :: l1 :: l2 :: some (.int a) :: ls) (st) h = am_ev 152 53 (l0 :: l1 :: l2 :: some (.int a) :: ls) (.int a :: st) h := am_ev_step (q := (53, l0 :: l1 :: l2 :: some (.int a) :: ls, .int a :: st, h)) _ (.iload_n 3) 1 am_my_152 (by decide +kernel) rfl
theorem e152_53 {ls : List (Option Value)} {st : List Value} {h : am_H} {l0 l1 l2 l3 l4 : Option Value} {a : Int32} : am_ev 152 53 (l0 :: l1 :: l2 :: l3 :: l4 :: some (.int a) :: ls) (st) h = am_ev 152 55 (l0 :: l1 :: l2 :: l3 :: l4 :: some (.int a) :: ls) (.int a :: st) h := am_ev_step (q := (55, l0 :: l1 :: l2 :: l3 :: l4 :: some (.int a) :: ls, .int a :: st, h)) _ (.iload 5) 2 am_my_152 (by decide +kernel) rfl
theorem e152_55 {ls : List (Option Value)} {st : List Value} {h : am_H} {a b : Int32} : am_ev 152 55 ls (.int b :: .int a :: st) h = if a = b then am_ev 152 60 ls st h else am_ev 152 58 ls st h := am_u_if2 (c := .eq) (off := 5) am_my_152 (by decide +kernel) (by decide)
theorem e152_58 {ls : List (Option Value)} {st : List Value} {h : am_H} : am_ev 152 58 (ls) (st) h = am_ev 152 59 (ls) (.int (-1) :: st) h := am_ev_step (q := (59, ls, .int (-1) :: st, h)) _ (.iconst (-1)) 1 am_my_152 (by decide +kernel) rfl
theorem e152_59 {ls : List (Option Value)} {h : am_H} {v : Int32} : am_ev 152 59 ls [.int v] h = some (some (.int v), h) := am_u_rtI am_my_152 (by decide +kernel) rfl
theorem e152_60 {ls : List (Option Value)} {st : List Value} {h : am_H} {l0 l1 l2 l3 l4 : Option Value} {a : Int32} : am_ev 152 60 (l0 :: l1 :: l2 :: l3 :: l4 :: some (.int a) :: ls) (st) h = am_ev 152 62 (l0 :: l1 :: l2 :: l3 :: l4 :: some (.int a) :: ls) (.int a :: st) h := am_ev_step (q := (62, l0 :: l1 :: l2 :: l3 :: l4 :: some (.int a) :: ls, .int a :: st, h)) _ (.iload 5) 2 am_my_152 (by decide +kernel) rfl
theorem e152_62 {ls : List (Option Value)} {st : List Value} {h : am_H} {l0 l1 l2 : Option Value} {z : Option Value} {a : Int32} : am_ev 152 62 (l0 :: l1 :: l2 :: z :: ls) (.int a :: st) h = am_ev 152 63 (l0 :: l1 :: l2 :: some (.int a) :: ls) (st) h := am_ev_step (q := (63, l0 :: l1 :: l2 :: some (.int a) :: ls, st, h)) _ (.istore_n 3) 1 am_my_152 (by decide +kernel) rfl
theorem e152_63 {ls : List (Option Value)} {st : List Value} {h : am_H} {l0 l1 l2 l3 : Option Value} {a : Int32} : am_ev 152 63 (l0 :: l1 :: l2 :: l3 :: some (.int a) :: ls) (st) h = am_ev 152 66 (l0 :: l1 :: l2 :: l3 :: some (.int (a + (1))) :: ls) (st) h := am_ev_step (q := (66, l0 :: l1 :: l2 :: l3 :: some (.int (a + (1))) :: ls, st, h)) _ (.iinc 4 (1)) 3 am_my_152 (by decide +kernel) rfl
theorem e152_66 {ls : List (Option Value)} {st : List Value} {h : am_H} : am_ev 152 66 (ls) (st) h = am_ev 152 5 (ls) (st) h := am_ev_step (q := (5, ls, st, h)) _ (.goto (-61)) 3 am_my_152 (by decide +kernel) rfl
theorem e152_69 {ls : List (Option Value)} {st : List Value} {h : am_H} {l0 l1 l2 : Option Value} {a : Int32} : am_ev 152 69 (l0 :: l1 :: l2 :: some (.int a) :: ls) (st) h = am_ev 152 70 (l0 :: l1 :: l2 :: some (.int a) :: ls) (.int a :: st) h := am_ev_step (q := (70, l0 :: l1 :: l2 :: some (.int a) :: ls, .int a :: st, h)) _ (.iload_n 3) 1 am_my_152 (by decide +kernel) rfl
theorem e152_70 {ls : List (Option Value)} {h : am_H} {v : Int32} : am_ev 152 70 ls [.int v] h = some (some (.int v), h) := am_u_rtI am_my_152 (by decide +kernel) rfl
theorem e153_0 {ls : List (Option Value)} {st : List Value} {h : am_H} : am_ev 153 0 (ls) (st) h = am_ev 153 1 (ls) (.int (0) :: st) h := am_ev_step (q := (1, ls, .int (0) :: st, h)) _ (.iconst (0)) 1 am_my_153 (by decide +kernel) rfl
theorem e153_1 {ls : List (Option Value)} {st : List Value} {h : am_H} {l0 l1 l2 : Option Value} {z : Option Value} {a : Int32} : am_ev 153 1 (l0 :: l1 :: l2 :: z :: ls) (.int a :: st) h = am_ev 153 2 (l0 :: l1 :: l2 :: some (.int a) :: ls) (st) h := am_ev_step (q := (2, l0 :: l1 :: l2 :: some (.int a) :: ls, st, h)) _ (.istore_n 3) 1 am_my_153 (by decide +kernel) rfl
theorem e153_2 {ls : List (Option Value)} {st : List Value} {h : am_H} : am_ev 153 2 (ls) (st) h = am_ev 153 3 (ls) (.int (0) :: st) h := am_ev_step (q := (3, ls, .int (0) :: st, h)) _ (.iconst (0)) 1 am_my_153 (by decide +kernel) rfl
theorem e153_3 {ls : List (Option Value)} {st : List Value} {h : am_H} {l0 l1 l2 l3 : Option Value} {z : Option Value} {a : Int32} : am_ev 153 3 (l0 :: l1 :: l2 :: l3 :: z :: ls) (.int a :: st) h = am_ev 153 5 (l0 :: l1 :: l2 :: l3 :: some (.int a) :: ls) (st) h := am_ev_step (q := (5, l0 :: l1 :: l2 :: l3 :: some (.int a) :: ls, st, h)) _ (.istore 4) 2 am_my_153 (by decide +kernel) rfl
theorem e153_5 {ls : List (Option Value)} {st : List Value} {h : am_H} {l0 l1 l2 l3 : Option Value} {a : Int32} : am_ev 153 5 (l0 :: l1 :: l2 :: l3 :: some (.int a) :: ls) (st) h = am_ev 153 7 (l0 :: l1 :: l2 :: l3 :: some (.int a) :: ls) (.int a :: st) h := am_ev_step (q := (7, l0 :: l1 :: l2 :: l3 :: some (.int a) :: ls, .int a :: st, h)) _ (.iload 4) 2 am_my_153 (by decide +kernel) rfl
theorem e153_7 {ls : List (Option Value)} {st : List Value} {h : am_H} : am_ev 153 7 (ls) (st) h = am_ev 153 9 (ls) (.int (36) :: st) h := am_ev_step (q := (9, ls, .int (36) :: st, h)) _ (.bipush (36)) 2 am_my_153 (by decide +kernel) rfl
theorem e153_9 {ls : List (Option Value)} {st : List Value} {h : am_H} {a b : Int32} : am_ev 153 9 ls (.int b :: .int a :: st) h = if b ≤ a then am_ev 153 43 ls st h else am_ev 153 12 ls st h := am_u_if2 (c := .ge) (off := 34) am_my_153 (by decide +kernel) (by decide)
theorem e153_12 {ls : List (Option Value)} {st : List Value} {h : am_H} {a : Int64} : am_ev 153 12 (some (.long a) :: some (.retAddr 0) :: ls) (st) h = am_ev 153 13 (some (.long a) :: some (.retAddr 0) :: ls) (.long a :: st) h := am_ev_step (q := (13, some (.long a) :: some (.retAddr 0) :: ls, .long a :: st, h)) _ (.lload_n 0) 1 am_my_153 (by decide +kernel) rfl
theorem e153_13 {ls : List (Option Value)} {st : List Value} {h : am_H} {l0 l1 l2 l3 : Option Value} {a : Int32} : am_ev 153 13 (l0 :: l1 :: l2 :: l3 :: some (.int a) :: ls) (st) h = am_ev 153 15 (l0 :: l1 :: l2 :: l3 :: some (.int a) :: ls) (.int a :: st) h := am_ev_step (q := (15, l0 :: l1 :: l2 :: l3 :: some (.int a) :: ls, .int a :: st, h)) _ (.iload 4) 2 am_my_153 (by decide +kernel) rfl
theorem e153_15 {ls : List (Option Value)} {st : List Value} {h : am_H} {a : Int64} {b : Int32} : am_ev 153 15 (ls) (.int b :: .long a :: st) h = am_ev 153 16 (ls) (.long (a >>> (b.toInt64 &&& 63)) :: st) h := am_ev_step (q := (16, ls, .long (a >>> (b.toInt64 &&& 63)) :: st, h)) _ (.lshr) 1 am_my_153 (by decide +kernel) rfl
theorem e153_16 {ls : List (Option Value)} {st : List Value} {h : am_H} : am_ev 153 16 (ls) (st) h = am_ev 153 17 (ls) (.long 1 :: st) h := am_ev_step (q := (17, ls, .long 1 :: st, h)) _ (.lconst 1) 1 am_my_153 (by decide +kernel) rfl
theorem e153_17 {ls : List (Option Value)} {st : List Value} {h : am_H} {a b : Int64} : am_ev 153 17 (ls) (.long b :: .long a :: st) h = am_ev 153 18 (ls) (.long (a &&& b) :: st) h := am_ev_step (q := (18, ls, .long (a &&& b) :: st, h)) _ (.land) 1 am_my_153 (by decide +kernel) rfl
theorem e153_18 {ls : List (Option Value)} {st : List Value} {h : am_H} : am_ev 153 18 (ls) (st) h = am_ev 153 19 (ls) (.long 0 :: st) h := am_ev_step (q := (19, ls, .long 0 :: st, h)) _ (.lconst 0) 1 am_my_153 (by decide +kernel) rfl
theorem e153_19 {ls : List (Option Value)} {st : List Value} {h : am_H} {a b : Int64} : am_ev 153 19 (ls) (.long b :: .long a :: st) h = am_ev 153 20 (ls) (.int (lg_cmp a b) :: st) h := am_ev_step (q := (20, ls, .int (lg_cmp a b) :: st, h)) _ (.lcmp) 1 am_my_153 (by decide +kernel) rfl
theorem e153_20 {ls : List (Option Value)} {st : List Value} {h : am_H} {a : Int32} : am_ev 153 20 ls (.int a :: st) h = if ¬ a = 0 then am_ev 153 26 ls st h else am_ev 153 23 ls st h := am_u_if1 (c := .ne) (off := 6) am_my_153 (by decide +kernel) (by decide)
theorem e153_23 {ls : List (Option Value)} {st : List Value} {h : am_H} : am_ev 153 23 (ls) (st) h = am_ev 153 37 (ls) (st) h := am_ev_step (q := (37, ls, st, h)) _ (.goto (14)) 3 am_my_153 (by decide +kernel) rfl
theorem e153_26 {ls : List (Option Value)} {st : List Value} {h : am_H} {l0 l1 l2 : Option Value} {a : Int32} : am_ev 153 26 (l0 :: l1 :: l2 :: some (.int a) :: ls) (st) h = am_ev 153 27 (l0 :: l1 :: l2 :: some (.int a) :: ls) (.int a :: st) h := am_ev_step (q := (27, l0 :: l1 :: l2 :: some (.int a) :: ls, .int a :: st, h)) _ (.iload_n 3) 1 am_my_153 (by decide +kernel) rfl
theorem e153_27 {ls : List (Option Value)} {st : List Value} {h : am_H} {l0 l1 : Option Value} {a : Int32} : am_ev 153 27 (l0 :: l1 :: some (.int a) :: ls) (st) h = am_ev 153 28 (l0 :: l1 :: some (.int a) :: ls) (.int a :: st) h := am_ev_step (q := (28, l0 :: l1 :: some (.int a) :: ls, .int a :: st, h)) _ (.iload_n 2) 1 am_my_153 (by decide +kernel) rfl
theorem e153_28 {ls : List (Option Value)} {st : List Value} {h : am_H} {a b : Int32} : am_ev 153 28 ls (.int b :: .int a :: st) h = if ¬ a = b then am_ev 153 34 ls st h else am_ev 153 31 ls st h := am_u_if2 (c := .ne) (off := 6) am_my_153 (by decide +kernel) (by decide)
theorem e153_31 {ls : List (Option Value)} {st : List Value} {h : am_H} {l0 l1 l2 l3 : Option Value} {a : Int32} : am_ev 153 31 (l0 :: l1 :: l2 :: l3 :: some (.int a) :: ls) (st) h = am_ev 153 33 (l0 :: l1 :: l2 :: l3 :: some (.int a) :: ls) (.int a :: st) h := am_ev_step (q := (33, l0 :: l1 :: l2 :: l3 :: some (.int a) :: ls, .int a :: st, h)) _ (.iload 4) 2 am_my_153 (by decide +kernel) rfl
theorem e153_33 {ls : List (Option Value)} {h : am_H} {v : Int32} : am_ev 153 33 ls [.int v] h = some (some (.int v), h) := am_u_rtI am_my_153 (by decide +kernel) rfl
theorem e153_34 {ls : List (Option Value)} {st : List Value} {h : am_H} {l0 l1 l2 : Option Value} {a : Int32} : am_ev 153 34 (l0 :: l1 :: l2 :: some (.int a) :: ls) (st) h = am_ev 153 37 (l0 :: l1 :: l2 :: some (.int (a + (1))) :: ls) (st) h := am_ev_step (q := (37, l0 :: l1 :: l2 :: some (.int (a + (1))) :: ls, st, h)) _ (.iinc 3 (1)) 3 am_my_153 (by decide +kernel) rfl
theorem e153_37 {ls : List (Option Value)} {st : List Value} {h : am_H} {l0 l1 l2 l3 : Option Value} {a : Int32} : am_ev 153 37 (l0 :: l1 :: l2 :: l3 :: some (.int a) :: ls) (st) h = am_ev 153 40 (l0 :: l1 :: l2 :: l3 :: some (.int (a + (1))) :: ls) (st) h := am_ev_step (q := (40, l0 :: l1 :: l2 :: l3 :: some (.int (a + (1))) :: ls, st, h)) _ (.iinc 4 (1)) 3 am_my_153 (by decide +kernel) rfl
theorem e153_40 {ls : List (Option Value)} {st : List Value} {h : am_H} : am_ev 153 40 (ls) (st) h = am_ev 153 5 (ls) (st) h := am_ev_step (q := (5, ls, st, h)) _ (.goto (-35)) 3 am_my_153 (by decide +kernel) rfl
theorem e153_43 {ls : List (Option Value)} {st : List Value} {h : am_H} : am_ev 153 43 (ls) (st) h = am_ev 153 44 (ls) (.int (-1) :: st) h := am_ev_step (q := (44, ls, .int (-1) :: st, h)) _ (.iconst (-1)) 1 am_my_153 (by decide +kernel) rfl
theorem e153_44 {ls : List (Option Value)} {h : am_H} {v : Int32} : am_ev 153 44 ls [.int v] h = some (some (.int v), h) := am_u_rtI am_my_153 (by decide +kernel) rfl
theorem e264_0 {ls : List (Option Value)} {st : List Value} {h : am_H} {a : Nat} : am_ev 264 0 (some (.ref a) :: ls) (st) h = am_ev 264 1 (some (.ref a) :: ls) (.ref a :: st) h := am_ev_step (q := (1, some (.ref a) :: ls, .ref a :: st, h)) _ (.aload_n 0) 1 am_my_264 (by decide +kernel) rfl
theorem e264_1 {ls : List (Option Value)} {st : List Value} {h : am_H} {o : Nat} (hk : am_kd h o = some (.inl 11)) : am_ev 264 1 ls (.ref o :: st) h = am_ev 264 4 ls (.int (h.1 o 51) :: st) h := am_u_gfI (idx := 483) (wn := 5183) am_my_264 (by decide +kernel) (by decide +kernel) (by decide +kernel) hk
theorem e264_4 {ls : List (Option Value)} {st : List Value} {h : am_H} {a : Int32} : am_ev 264 4 ls (.int a :: st) h = if ¬ a = 0 then am_ev 264 11 ls st h else am_ev 264 7 ls st h := am_u_if1 (c := .ne) (off := 7) am_my_264 (by decide +kernel) (by decide)
theorem e264_7 {ls : List (Option Value)} {st : List Value} {h : am_H} : am_ev 264 7 (ls) (st) h = am_ev 264 8 (ls) (.int (-1) :: st) h := am_ev_step (q := (8, ls, .int (-1) :: st, h)) _ (.iconst (-1)) 1 am_my_264 (by decide +kernel) rfl
theorem e264_8 {ls : List (Option Value)} {st : List Value} {h : am_H} : am_ev 264 8 (ls) (st) h = am_ev 264 38 (ls) (st) h := am_ev_step (q := (38, ls, st, h)) _ (.goto (30)) 3 am_my_264 (by decide +kernel) rfl
theorem e264_11 {ls : List (Option Value)} {st : List Value} {h : am_H} {l0 : Option Value} {a : Int32} : am_ev 264 11 (l0 :: some (.int a) :: ls) (st) h = am_ev 264 12 (l0 :: some (.int a) :: ls) (.int a :: st) h := am_ev_step (q := (12, l0 :: some (.int a) :: ls, .int a :: st, h)) _ (.iload_n 1) 1 am_my_264 (by decide +kernel) rfl
theorem e264_12 {ls : List (Option Value)} {st : List Value} {h : am_H} {a : Int32} : am_ev 264 12 ls (.int a :: st) h = if a = 0 then am_ev 264 29 ls st h else am_ev 264 15 ls st h := am_u_if1 (c := .eq) (off := 17) am_my_264 (by decide +kernel) (by decide)
theorem e264_15 {ls : List (Option Value)} {st : List Value} {h : am_H} {a : Nat} : am_ev 264 15 (some (.ref a) :: ls) (st) h = am_ev 264 16 (some (.ref a) :: ls) (.ref a :: st) h := am_ev_step (q := (16, some (.ref a) :: ls, .ref a :: st, h)) _ (.aload_n 0) 1 am_my_264 (by decide +kernel) rfl
theorem e264_16 {ls : List (Option Value)} {st : List Value} {h : am_H} {o : Nat} (hk : am_kd h o = some (.inl 11)) : am_ev 264 16 ls (.ref o :: st) h = am_ev 264 19 ls (va_rf (h.2.2.1 o 50) :: st) h := am_u_gfR (idx := 75) (wn := 5182) (a := 0) am_my_264 (by decide +kernel) (by decide +kernel) (by decide +kernel) hk
theorem e264_19 {ls : List (Option Value)} {st : List Value} {h : am_H} : am_ev 264 19 (ls) (st) h = am_ev 264 20 (ls) (.int (0) :: st) h := am_ev_step (q := (20, ls, .int (0) :: st, h)) _ (.iconst (0)) 1 am_my_264 (by decide +kernel) rfl
theorem e264_20 {ls : List (Option Value)} {st : List Value} {h : am_H} {i : Int32} {a : Nat} (ht : am_tc h a = some 0) : am_ev 264 20 ls (.int i :: .ref a :: st) h = if am_ix i (am_len h a) = true then am_ev 264 21 ls (.int (h.1 a i.toNatClampNeg) :: st) h else none := am_u_rI am_my_264 (by decide +kernel) ht
theorem e264_21 {ls : List (Option Value)} {st : List Value} {h : am_H} : am_ev 264 21 (ls) (st) h = am_ev 264 23 (ls) (.int (9) :: st) h := am_ev_step (q := (23, ls, .int (9) :: st, h)) _ (.bipush (9)) 2 am_my_264 (by decide +kernel) rfl
theorem e264_23 {ls : List (Option Value)} {st : List Value} {h : am_H} {a b : Int32} : am_ev 264 23 ls (.int b :: .int a :: st) h = if b = 0 then none else am_ev 264 24 ls (.int (a - a / b * b) :: st) h := am_u_iz (i := .irem) (f := fun a b => a - a / b * b) am_my_264 (by decide +kernel) (fun _ => rfl)
theorem e264_24 {ls : List (Option Value)} {st : List Value} {h : am_H} : am_ev 264 24 (ls) (st) h = am_ev 264 25 (ls) (.int (1) :: st) h := am_ev_step (q := (25, ls, .int (1) :: st, h)) _ (.iconst (1)) 1 am_my_264 (by decide +kernel) rfl
theorem e264_25 {ls : List (Option Value)} {st : List Value} {h : am_H} {a b : Int32} : am_ev 264 25 (ls) (.int b :: .int a :: st) h = am_ev 264 26 (ls) (.int (a + b) :: st) h := am_ev_step (q := (26, ls, .int (a + b) :: st, h)) _ (.iadd) 1 am_my_264 (by decide +kernel) rfl
theorem e264_26 {ls : List (Option Value)} {st : List Value} {h : am_H} : am_ev 264 26 (ls) (st) h = am_ev 264 38 (ls) (st) h := am_ev_step (q := (38, ls, st, h)) _ (.goto (12)) 3 am_my_264 (by decide +kernel) rfl
theorem e264_29 {ls : List (Option Value)} {st : List Value} {h : am_H} {a : Nat} : am_ev 264 29 (some (.ref a) :: ls) (st) h = am_ev 264 30 (some (.ref a) :: ls) (.ref a :: st) h := am_ev_step (q := (30, some (.ref a) :: ls, .ref a :: st, h)) _ (.aload_n 0) 1 am_my_264 (by decide +kernel) rfl
theorem e264_30 {ls : List (Option Value)} {st : List Value} {h : am_H} {o : Nat} (hk : am_kd h o = some (.inl 11)) : am_ev 264 30 ls (.ref o :: st) h = am_ev 264 33 ls (va_rf (h.2.2.1 o 50) :: st) h := am_u_gfR (idx := 75) (wn := 5182) (a := 0) am_my_264 (by decide +kernel) (by decide +kernel) (by decide +kernel) hk
theorem e264_33 {ls : List (Option Value)} {st : List Value} {h : am_H} : am_ev 264 33 (ls) (st) h = am_ev 264 34 (ls) (.int (0) :: st) h := am_ev_step (q := (34, ls, .int (0) :: st, h)) _ (.iconst (0)) 1 am_my_264 (by decide +kernel) rfl
theorem e264_34 {ls : List (Option Value)} {st : List Value} {h : am_H} {i : Int32} {a : Nat} (ht : am_tc h a = some 0) : am_ev 264 34 ls (.int i :: .ref a :: st) h = if am_ix i (am_len h a) = true then am_ev 264 35 ls (.int (h.1 a i.toNatClampNeg) :: st) h else none := am_u_rI am_my_264 (by decide +kernel) ht
theorem e264_35 {ls : List (Option Value)} {st : List Value} {h : am_H} : am_ev 264 35 (ls) (st) h = am_ev 264 37 (ls) (.int (9) :: st) h := am_ev_step (q := (37, ls, .int (9) :: st, h)) _ (.bipush (9)) 2 am_my_264 (by decide +kernel) rfl
theorem e264_37 {ls : List (Option Value)} {st : List Value} {h : am_H} {a b : Int32} : am_ev 264 37 ls (.int b :: .int a :: st) h = if b = 0 then none else am_ev 264 38 ls (.int (a / b) :: st) h := am_u_iz (i := .idiv) (f := fun a b => a / b) am_my_264 (by decide +kernel) (fun _ => rfl)
theorem e264_38 {ls : List (Option Value)} {st : List Value} {h : am_H} {l0 l1 : Option Value} {z : Option Value} {a : Int32} : am_ev 264 38 (l0 :: l1 :: z :: ls) (.int a :: st) h = am_ev 264 39 (l0 :: l1 :: some (.int a) :: ls) (st) h := am_ev_step (q := (39, l0 :: l1 :: some (.int a) :: ls, st, h)) _ (.istore_n 2) 1 am_my_264 (by decide +kernel) rfl
theorem e264_39 {ls : List (Option Value)} {st : List Value} {h : am_H} : am_ev 264 39 (ls) (st) h = am_ev 264 40 (ls) (.int (1) :: st) h := am_ev_step (q := (40, ls, .int (1) :: st, h)) _ (.iconst (1)) 1 am_my_264 (by decide +kernel) rfl
theorem e264_40 {ls : List (Option Value)} {st : List Value} {h : am_H} {l0 l1 l2 : Option Value} {z : Option Value} {a : Int32} : am_ev 264 40 (l0 :: l1 :: l2 :: z :: ls) (.int a :: st) h = am_ev 264 41 (l0 :: l1 :: l2 :: some (.int a) :: ls) (st) h := am_ev_step (q := (41, l0 :: l1 :: l2 :: some (.int a) :: ls, st, h)) _ (.istore_n 3) 1 am_my_264 (by decide +kernel) rfl
theorem e264_41 {ls : List (Option Value)} {st : List Value} {h : am_H} {l0 l1 l2 : Option Value} {a : Int32} : am_ev 264 41 (l0 :: l1 :: l2 :: some (.int a) :: ls) (st) h = am_ev 264 42 (l0 :: l1 :: l2 :: some (.int a) :: ls) (.int a :: st) h := am_ev_step (q := (42, l0 :: l1 :: l2 :: some (.int a) :: ls, .int a :: st, h)) _ (.iload_n 3) 1 am_my_264 (by decide +kernel) rfl
theorem e264_42 {ls : List (Option Value)} {st : List Value} {h : am_H} {a : Nat} : am_ev 264 42 (some (.ref a) :: ls) (st) h = am_ev 264 43 (some (.ref a) :: ls) (.ref a :: st) h := am_ev_step (q := (43, some (.ref a) :: ls, .ref a :: st, h)) _ (.aload_n 0) 1 am_my_264 (by decide +kernel) rfl
theorem e264_43 {ls : List (Option Value)} {st : List Value} {h : am_H} {o : Nat} (hk : am_kd h o = some (.inl 11)) : am_ev 264 43 ls (.ref o :: st) h = am_ev 264 46 ls (.int (h.1 o 51) :: st) h := am_u_gfI (idx := 483) (wn := 5183) am_my_264 (by decide +kernel) (by decide +kernel) (by decide +kernel) hk
theorem e264_46 {ls : List (Option Value)} {st : List Value} {h : am_H} {a b : Int32} : am_ev 264 46 ls (.int b :: .int a :: st) h = if b ≤ a then am_ev 264 92 ls st h else am_ev 264 49 ls st h := am_u_if2 (c := .ge) (off := 46) am_my_264 (by decide +kernel) (by decide)
theorem e264_49 {ls : List (Option Value)} {st : List Value} {h : am_H} {l0 : Option Value} {a : Int32} : am_ev 264 49 (l0 :: some (.int a) :: ls) (st) h = am_ev 264 50 (l0 :: some (.int a) :: ls) (.int a :: st) h := am_ev_step (q := (50, l0 :: some (.int a) :: ls, .int a :: st, h)) _ (.iload_n 1) 1 am_my_264 (by decide +kernel) rfl
theorem e264_50 {ls : List (Option Value)} {st : List Value} {h : am_H} {a : Int32} : am_ev 264 50 ls (.int a :: st) h = if a = 0 then am_ev 264 67 ls st h else am_ev 264 53 ls st h := am_u_if1 (c := .eq) (off := 17) am_my_264 (by decide +kernel) (by decide)
theorem e264_53 {ls : List (Option Value)} {st : List Value} {h : am_H} {a : Nat} : am_ev 264 53 (some (.ref a) :: ls) (st) h = am_ev 264 54 (some (.ref a) :: ls) (.ref a :: st) h := am_ev_step (q := (54, some (.ref a) :: ls, .ref a :: st, h)) _ (.aload_n 0) 1 am_my_264 (by decide +kernel) rfl
theorem e264_54 {ls : List (Option Value)} {st : List Value} {h : am_H} {o : Nat} (hk : am_kd h o = some (.inl 11)) : am_ev 264 54 ls (.ref o :: st) h = am_ev 264 57 ls (va_rf (h.2.2.1 o 50) :: st) h := am_u_gfR (idx := 75) (wn := 5182) (a := 0) am_my_264 (by decide +kernel) (by decide +kernel) (by decide +kernel) hk
theorem e264_57 {ls : List (Option Value)} {st : List Value} {h : am_H} {l0 l1 l2 : Option Value} {a : Int32} : am_ev 264 57 (l0 :: l1 :: l2 :: some (.int a) :: ls) (st) h = am_ev 264 58 (l0 :: l1 :: l2 :: some (.int a) :: ls) (.int a :: st) h := am_ev_step (q := (58, l0 :: l1 :: l2 :: some (.int a) :: ls, .int a :: st, h)) _ (.iload_n 3) 1 am_my_264 (by decide +kernel) rfl
theorem e264_58 {ls : List (Option Value)} {st : List Value} {h : am_H} {i : Int32} {a : Nat} (ht : am_tc h a = some 0) : am_ev 264 58 ls (.int i :: .ref a :: st) h = if am_ix i (am_len h a) = true then am_ev 264 59 ls (.int (h.1 a i.toNatClampNeg) :: st) h else none := am_u_rI am_my_264 (by decide +kernel) ht
theorem e264_59 {ls : List (Option Value)} {st : List Value} {h : am_H} : am_ev 264 59 (ls) (st) h = am_ev 264 61 (ls) (.int (9) :: st) h := am_ev_step (q := (61, ls, .int (9) :: st, h)) _ (.bipush (9)) 2 am_my_264 (by decide +kernel) rfl
theorem e264_61 {ls : List (Option Value)} {st : List Value} {h : am_H} {a b : Int32} : am_ev 264 61 ls (.int b :: .int a :: st) h = if b = 0 then none else am_ev 264 62 ls (.int (a - a / b * b) :: st) h := am_u_iz (i := .irem) (f := fun a b => a - a / b * b) am_my_264 (by decide +kernel) (fun _ => rfl)
theorem e264_62 {ls : List (Option Value)} {st : List Value} {h : am_H} : am_ev 264 62 (ls) (st) h = am_ev 264 63 (ls) (.int (1) :: st) h := am_ev_step (q := (63, ls, .int (1) :: st, h)) _ (.iconst (1)) 1 am_my_264 (by decide +kernel) rfl
theorem e264_63 {ls : List (Option Value)} {st : List Value} {h : am_H} {a b : Int32} : am_ev 264 63 (ls) (.int b :: .int a :: st) h = am_ev 264 64 (ls) (.int (a + b) :: st) h := am_ev_step (q := (64, ls, .int (a + b) :: st, h)) _ (.iadd) 1 am_my_264 (by decide +kernel) rfl
theorem e264_64 {ls : List (Option Value)} {st : List Value} {h : am_H} : am_ev 264 64 (ls) (st) h = am_ev 264 76 (ls) (st) h := am_ev_step (q := (76, ls, st, h)) _ (.goto (12)) 3 am_my_264 (by decide +kernel) rfl
theorem e264_67 {ls : List (Option Value)} {st : List Value} {h : am_H} {a : Nat} : am_ev 264 67 (some (.ref a) :: ls) (st) h = am_ev 264 68 (some (.ref a) :: ls) (.ref a :: st) h := am_ev_step (q := (68, some (.ref a) :: ls, .ref a :: st, h)) _ (.aload_n 0) 1 am_my_264 (by decide +kernel) rfl
theorem e264_68 {ls : List (Option Value)} {st : List Value} {h : am_H} {o : Nat} (hk : am_kd h o = some (.inl 11)) : am_ev 264 68 ls (.ref o :: st) h = am_ev 264 71 ls (va_rf (h.2.2.1 o 50) :: st) h := am_u_gfR (idx := 75) (wn := 5182) (a := 0) am_my_264 (by decide +kernel) (by decide +kernel) (by decide +kernel) hk
theorem e264_71 {ls : List (Option Value)} {st : List Value} {h : am_H} {l0 l1 l2 : Option Value} {a : Int32} : am_ev 264 71 (l0 :: l1 :: l2 :: some (.int a) :: ls) (st) h = am_ev 264 72 (l0 :: l1 :: l2 :: some (.int a) :: ls) (.int a :: st) h := am_ev_step (q := (72, l0 :: l1 :: l2 :: some (.int a) :: ls, .int a :: st, h)) _ (.iload_n 3) 1 am_my_264 (by decide +kernel) rfl
theorem e264_72 {ls : List (Option Value)} {st : List Value} {h : am_H} {i : Int32} {a : Nat} (ht : am_tc h a = some 0) : am_ev 264 72 ls (.int i :: .ref a :: st) h = if am_ix i (am_len h a) = true then am_ev 264 73 ls (.int (h.1 a i.toNatClampNeg) :: st) h else none := am_u_rI am_my_264 (by decide +kernel) ht
theorem e264_73 {ls : List (Option Value)} {st : List Value} {h : am_H} : am_ev 264 73 (ls) (st) h = am_ev 264 75 (ls) (.int (9) :: st) h := am_ev_step (q := (75, ls, .int (9) :: st, h)) _ (.bipush (9)) 2 am_my_264 (by decide +kernel) rfl
theorem e264_75 {ls : List (Option Value)} {st : List Value} {h : am_H} {a b : Int32} : am_ev 264 75 ls (.int b :: .int a :: st) h = if b = 0 then none else am_ev 264 76 ls (.int (a / b) :: st) h := am_u_iz (i := .idiv) (f := fun a b => a / b) am_my_264 (by decide +kernel) (fun _ => rfl)
theorem e264_76 {ls : List (Option Value)} {st : List Value} {h : am_H} {l0 l1 : Option Value} {a : Int32} : am_ev 264 76 (l0 :: l1 :: some (.int a) :: ls) (st) h = am_ev 264 77 (l0 :: l1 :: some (.int a) :: ls) (.int a :: st) h := am_ev_step (q := (77, l0 :: l1 :: some (.int a) :: ls, .int a :: st, h)) _ (.iload_n 2) 1 am_my_264 (by decide +kernel) rfl
theorem e264_77 {ls : List (Option Value)} {st : List Value} {h : am_H} {a b : Int32} : am_ev 264 77 ls (.int b :: .int a :: st) h = if ¬ a = b then am_ev 264 84 ls st h else am_ev 264 80 ls st h := am_u_if2 (c := .ne) (off := 7) am_my_264 (by decide +kernel) (by decide)
theorem e264_80 {ls : List (Option Value)} {st : List Value} {h : am_H} {l0 l1 : Option Value} {a : Int32} : am_ev 264 80 (l0 :: l1 :: some (.int a) :: ls) (st) h = am_ev 264 81 (l0 :: l1 :: some (.int a) :: ls) (.int a :: st) h := am_ev_step (q := (81, l0 :: l1 :: some (.int a) :: ls, .int a :: st, h)) _ (.iload_n 2) 1 am_my_264 (by decide +kernel) rfl
theorem e264_81 {ls : List (Option Value)} {st : List Value} {h : am_H} : am_ev 264 81 (ls) (st) h = am_ev 264 85 (ls) (st) h := am_ev_step (q := (85, ls, st, h)) _ (.goto (4)) 3 am_my_264 (by decide +kernel) rfl
theorem e264_84 {ls : List (Option Value)} {st : List Value} {h : am_H} : am_ev 264 84 (ls) (st) h = am_ev 264 85 (ls) (.int (-1) :: st) h := am_ev_step (q := (85, ls, .int (-1) :: st, h)) _ (.iconst (-1)) 1 am_my_264 (by decide +kernel) rfl
theorem e264_85 {ls : List (Option Value)} {st : List Value} {h : am_H} {l0 l1 : Option Value} {z : Option Value} {a : Int32} : am_ev 264 85 (l0 :: l1 :: z :: ls) (.int a :: st) h = am_ev 264 86 (l0 :: l1 :: some (.int a) :: ls) (st) h := am_ev_step (q := (86, l0 :: l1 :: some (.int a) :: ls, st, h)) _ (.istore_n 2) 1 am_my_264 (by decide +kernel) rfl
theorem e264_86 {ls : List (Option Value)} {st : List Value} {h : am_H} {l0 l1 l2 : Option Value} {a : Int32} : am_ev 264 86 (l0 :: l1 :: l2 :: some (.int a) :: ls) (st) h = am_ev 264 89 (l0 :: l1 :: l2 :: some (.int (a + (1))) :: ls) (st) h := am_ev_step (q := (89, l0 :: l1 :: l2 :: some (.int (a + (1))) :: ls, st, h)) _ (.iinc 3 (1)) 3 am_my_264 (by decide +kernel) rfl
theorem e264_89 {ls : List (Option Value)} {st : List Value} {h : am_H} : am_ev 264 89 (ls) (st) h = am_ev 264 41 (ls) (st) h := am_ev_step (q := (41, ls, st, h)) _ (.goto (-48)) 3 am_my_264 (by decide +kernel) rfl
theorem e264_92 {ls : List (Option Value)} {st : List Value} {h : am_H} {l0 l1 : Option Value} {a : Int32} : am_ev 264 92 (l0 :: l1 :: some (.int a) :: ls) (st) h = am_ev 264 93 (l0 :: l1 :: some (.int a) :: ls) (.int a :: st) h := am_ev_step (q := (93, l0 :: l1 :: some (.int a) :: ls, .int a :: st, h)) _ (.iload_n 2) 1 am_my_264 (by decide +kernel) rfl
theorem e264_93 {ls : List (Option Value)} {h : am_H} {v : Int32} : am_ev 264 93 ls [.int v] h = some (some (.int v), h) := am_u_rtI am_my_264 (by decide +kernel) rfl
theorem e260_0 {ls : List (Option Value)} {st : List Value} {h : am_H} {a : Nat} : am_ev 260 0 (some (.ref a) :: ls) (st) h = am_ev 260 1 (some (.ref a) :: ls) (.ref a :: st) h := am_ev_step (q := (1, some (.ref a) :: ls, .ref a :: st, h)) _ (.aload_n 0) 1 am_my_260 (by decide +kernel) rfl
theorem e260_1 {ls : List (Option Value)} {st : List Value} {h : am_H} : am_ev 260 1 (ls) (st) h = am_ev 260 2 (ls) (.int (0) :: st) h := am_ev_step (q := (2, ls, .int (0) :: st, h)) _ (.iconst (0)) 1 am_my_260 (by decide +kernel) rfl
theorem e260_2 {ls : List (Option Value)} {st : List Value} {h : am_H} {o : Nat} {v : Int32} (hk : am_kd h o = some (.inl 11)) : am_ev 260 2 ls (.int v :: .ref o :: st) h = am_ev 260 5 ls st (am_sI h o 0 v) := am_u_pfI (idx := 87) (wn := 5132) am_my_260 (by decide +kernel) (by decide +kernel) (by decide +kernel) (by decide +kernel) hk
theorem e260_5 {ls : List (Option Value)} {st : List Value} {h : am_H} {a : Nat} : am_ev 260 5 (some (.ref a) :: ls) (st) h = am_ev 260 6 (some (.ref a) :: ls) (.ref a :: st) h := am_ev_step (q := (6, some (.ref a) :: ls, .ref a :: st, h)) _ (.aload_n 0) 1 am_my_260 (by decide +kernel) rfl
theorem e260_6 {ls : List (Option Value)} {st : List Value} {h : am_H} {l0 : Option Value} {a : Int32} : am_ev 260 6 (l0 :: some (.int a) :: ls) (st) h = am_ev 260 7 (l0 :: some (.int a) :: ls) (.int a :: st) h := am_ev_step (q := (7, l0 :: some (.int a) :: ls, .int a :: st, h)) _ (.iload_n 1) 1 am_my_260 (by decide +kernel) rfl
theorem e260_7 {ls : List (Option Value)} {st : List Value} {h : am_H} {p0 : Int32} {o : Nat} (hw : am_w8 st ≤ 8) (hk : am_kd h o = some (.inl 11)) : am_ev 260 7 ls (.int p0 :: .ref o :: st) h = am_bd (am_den 257 [.ref o, .int p0] h) (fun v h1 => am_ev 260 10 ls (v.toList ++ st) h1) := am_u_cV (idx := 465) (wn := 7213) (as := [.int p0]) am_my_260 (by decide +kernel) (Or.inl (by decide +kernel)) am_my_257 (by decide +kernel) rfl ⟨Nat.le_of_ble_eq_true rfl, rfl⟩ (by decide +kernel) hw hk
theorem e260_10 {ls : List (Option Value)} {st : List Value} {h : am_H} {a : Int32} : am_ev 260 10 ls (.int a :: st) h = if ¬ a = 0 then am_ev 260 16 ls st h else am_ev 260 13 ls st h := am_u_if1 (c := .ne) (off := 6) am_my_260 (by decide +kernel) (by decide)
theorem e260_13 {ls : List (Option Value)} {st : List Value} {h : am_H} : am_ev 260 13 (ls) (st) h = am_ev 260 15 (ls) (.int (-2) :: st) h := am_ev_step (q := (15, ls, .int (-2) :: st, h)) _ (.bipush (-2)) 2 am_my_260 (by decide +kernel) rfl
theorem e260_15 {ls : List (Option Value)} {h : am_H} {v : Int32} : am_ev 260 15 ls [.int v] h = some (some (.int v), h) := am_u_rtI am_my_260 (by decide +kernel) rfl
theorem e260_16 {ls : List (Option Value)} {st : List Value} {h : am_H} {a : Nat} : am_ev 260 16 (some (.ref a) :: ls) (st) h = am_ev 260 17 (some (.ref a) :: ls) (.ref a :: st) h := am_ev_step (q := (17, some (.ref a) :: ls, .ref a :: st, h)) _ (.aload_n 0) 1 am_my_260 (by decide +kernel) rfl
theorem e260_17 {ls : List (Option Value)} {st : List Value} {h : am_H}  {o : Nat} (hw : am_w8 st ≤ 8) (hk : am_kd h o = some (.inl 11)) : am_ev 260 17 ls (.ref o :: st) h = am_bd (am_den 261 [.ref o] h) (fun v h1 => am_ev 260 20 ls (v.toList ++ st) h1) := am_u_cV (idx := 489) (wn := 7229) (as := []) am_my_260 (by decide +kernel) (Or.inl (by decide +kernel)) am_my_261 (by decide +kernel) rfl ⟨Nat.le_of_ble_eq_true rfl, rfl⟩ (by decide +kernel) hw hk
theorem e260_20 {ls : List (Option Value)} {st : List Value} {h : am_H} {l0 l1 : Option Value} {a : Int32} : am_ev 260 20 (l0 :: l1 :: some (.int a) :: ls) (st) h = am_ev 260 21 (l0 :: l1 :: some (.int a) :: ls) (.int a :: st) h := am_ev_step (q := (21, l0 :: l1 :: some (.int a) :: ls, .int a :: st, h)) _ (.iload_n 2) 1 am_my_260 (by decide +kernel) rfl
theorem e260_21 {ls : List (Option Value)} {st : List Value} {h : am_H} : am_ev 260 21 (ls) (st) h = am_ev 260 23 (ls) (.int (10) :: st) h := am_ev_step (q := (23, ls, .int (10) :: st, h)) _ (.bipush (10)) 2 am_my_260 (by decide +kernel) rfl
theorem e260_23 {ls : List (Option Value)} {st : List Value} {h : am_H} {a b : Int32} : am_ev 260 23 ls (.int b :: .int a :: st) h = if a < b then am_ev 260 52 ls st h else am_ev 260 26 ls st h := am_u_if2 (c := .lt) (off := 29) am_my_260 (by decide +kernel) (by decide)
theorem e260_26 {ls : List (Option Value)} {st : List Value} {h : am_H} {l0 l1 : Option Value} {a : Int32} : am_ev 260 26 (l0 :: l1 :: some (.int a) :: ls) (st) h = am_ev 260 27 (l0 :: l1 :: some (.int a) :: ls) (.int a :: st) h := am_ev_step (q := (27, l0 :: l1 :: some (.int a) :: ls, .int a :: st, h)) _ (.iload_n 2) 1 am_my_260 (by decide +kernel) rfl
theorem e260_27 {ls : List (Option Value)} {st : List Value} {h : am_H} : am_ev 260 27 (ls) (st) h = am_ev 260 29 (ls) (.int (10) :: st) h := am_ev_step (q := (29, ls, .int (10) :: st, h)) _ (.bipush (10)) 2 am_my_260 (by decide +kernel) rfl
theorem e260_29 {ls : List (Option Value)} {st : List Value} {h : am_H} {a b : Int32} : am_ev 260 29 (ls) (.int b :: .int a :: st) h = am_ev 260 30 (ls) (.int (a - b) :: st) h := am_ev_step (q := (30, ls, .int (a - b) :: st, h)) _ (.isub) 1 am_my_260 (by decide +kernel) rfl
theorem e260_30 {ls : List (Option Value)} {st : List Value} {h : am_H} {a : Nat} : am_ev 260 30 (some (.ref a) :: ls) (st) h = am_ev 260 31 (some (.ref a) :: ls) (.ref a :: st) h := am_ev_step (q := (31, some (.ref a) :: ls, .ref a :: st, h)) _ (.aload_n 0) 1 am_my_260 (by decide +kernel) rfl
theorem e260_31 {ls : List (Option Value)} {st : List Value} {h : am_H} {o : Nat} (hk : am_kd h o = some (.inl 11)) : am_ev 260 31 ls (.ref o :: st) h = am_ev 260 34 ls (.int (h.1 o 51) :: st) h := am_u_gfI (idx := 483) (wn := 5183) am_my_260 (by decide +kernel) (by decide +kernel) (by decide +kernel) hk
theorem e260_34 {ls : List (Option Value)} {st : List Value} {h : am_H} {a b : Int32} : am_ev 260 34 ls (.int b :: .int a :: st) h = if b ≤ a then am_ev 260 49 ls st h else am_ev 260 37 ls st h := am_u_if2 (c := .ge) (off := 15) am_my_260 (by decide +kernel) (by decide)
theorem e260_37 {ls : List (Option Value)} {st : List Value} {h : am_H} {a : Nat} : am_ev 260 37 (some (.ref a) :: ls) (st) h = am_ev 260 38 (some (.ref a) :: ls) (.ref a :: st) h := am_ev_step (q := (38, some (.ref a) :: ls, .ref a :: st, h)) _ (.aload_n 0) 1 am_my_260 (by decide +kernel) rfl
theorem e260_38 {ls : List (Option Value)} {st : List Value} {h : am_H} {o : Nat} (hk : am_kd h o = some (.inl 11)) : am_ev 260 38 ls (.ref o :: st) h = am_ev 260 41 ls (va_rf (h.2.2.1 o 50) :: st) h := am_u_gfR (idx := 75) (wn := 5182) (a := 0) am_my_260 (by decide +kernel) (by decide +kernel) (by decide +kernel) hk
theorem e260_41 {ls : List (Option Value)} {st : List Value} {h : am_H} {l0 l1 : Option Value} {a : Int32} : am_ev 260 41 (l0 :: l1 :: some (.int a) :: ls) (st) h = am_ev 260 42 (l0 :: l1 :: some (.int a) :: ls) (.int a :: st) h := am_ev_step (q := (42, l0 :: l1 :: some (.int a) :: ls, .int a :: st, h)) _ (.iload_n 2) 1 am_my_260 (by decide +kernel) rfl
theorem e260_42 {ls : List (Option Value)} {st : List Value} {h : am_H} : am_ev 260 42 (ls) (st) h = am_ev 260 44 (ls) (.int (10) :: st) h := am_ev_step (q := (44, ls, .int (10) :: st, h)) _ (.bipush (10)) 2 am_my_260 (by decide +kernel) rfl
theorem e260_44 {ls : List (Option Value)} {st : List Value} {h : am_H} {a b : Int32} : am_ev 260 44 (ls) (.int b :: .int a :: st) h = am_ev 260 45 (ls) (.int (a - b) :: st) h := am_ev_step (q := (45, ls, .int (a - b) :: st, h)) _ (.isub) 1 am_my_260 (by decide +kernel) rfl
theorem e260_45 {ls : List (Option Value)} {st : List Value} {h : am_H} {i : Int32} {a : Nat} (ht : am_tc h a = some 0) : am_ev 260 45 ls (.int i :: .ref a :: st) h = if am_ix i (am_len h a) = true then am_ev 260 46 ls (.int (h.1 a i.toNatClampNeg) :: st) h else none := am_u_rI am_my_260 (by decide +kernel) ht
theorem e260_46 {ls : List (Option Value)} {st : List Value} {h : am_H} : am_ev 260 46 (ls) (st) h = am_ev 260 51 (ls) (st) h := am_ev_step (q := (51, ls, st, h)) _ (.goto (5)) 3 am_my_260 (by decide +kernel) rfl
theorem e260_49 {ls : List (Option Value)} {st : List Value} {h : am_H} : am_ev 260 49 (ls) (st) h = am_ev 260 51 (ls) (.int (-2) :: st) h := am_ev_step (q := (51, ls, .int (-2) :: st, h)) _ (.bipush (-2)) 2 am_my_260 (by decide +kernel) rfl
theorem e260_51 {ls : List (Option Value)} {h : am_H} {v : Int32} : am_ev 260 51 ls [.int v] h = some (some (.int v), h) := am_u_rtI am_my_260 (by decide +kernel) rfl
theorem e260_52 {ls : List (Option Value)} {st : List Value} {h : am_H} {l0 l1 : Option Value} {a : Int32} : am_ev 260 52 (l0 :: l1 :: some (.int a) :: ls) (st) h = am_ev 260 53 (l0 :: l1 :: some (.int a) :: ls) (.int a :: st) h := am_ev_step (q := (53, l0 :: l1 :: some (.int a) :: ls, .int a :: st, h)) _ (.iload_n 2) 1 am_my_260 (by decide +kernel) rfl
theorem e260_53 {ls : List (Option Value)} {st : List Value} {h : am_H} {a : Int32} : am_ev 260 53 ls (.int a :: st) h = if ¬ a = 0 then am_ev 260 63 ls st h else am_ev 260 56 ls st h := am_u_if1 (c := .ne) (off := 10) am_my_260 (by decide +kernel) (by decide)
theorem e260_56 {ls : List (Option Value)} {st : List Value} {h : am_H} {a : Nat} : am_ev 260 56 (some (.ref a) :: ls) (st) h = am_ev 260 57 (some (.ref a) :: ls) (.ref a :: st) h := am_ev_step (q := (57, some (.ref a) :: ls, .ref a :: st, h)) _ (.aload_n 0) 1 am_my_260 (by decide +kernel) rfl
theorem e260_57 {ls : List (Option Value)} {st : List Value} {h : am_H} {o : Nat} (hk : am_kd h o = some (.inl 11)) : am_ev 260 57 ls (.ref o :: st) h = am_ev 260 60 ls (.int (h.1 o 51) :: st) h := am_u_gfI (idx := 483) (wn := 5183) am_my_260 (by decide +kernel) (by decide +kernel) (by decide +kernel) hk
theorem e260_60 {ls : List (Option Value)} {st : List Value} {h : am_H} : am_ev 260 60 (ls) (st) h = am_ev 260 91 (ls) (st) h := am_ev_step (q := (91, ls, st, h)) _ (.goto (31)) 3 am_my_260 (by decide +kernel) rfl
theorem e260_63 {ls : List (Option Value)} {st : List Value} {h : am_H} {l0 l1 : Option Value} {a : Int32} : am_ev 260 63 (l0 :: l1 :: some (.int a) :: ls) (st) h = am_ev 260 64 (l0 :: l1 :: some (.int a) :: ls) (.int a :: st) h := am_ev_step (q := (64, l0 :: l1 :: some (.int a) :: ls, .int a :: st, h)) _ (.iload_n 2) 1 am_my_260 (by decide +kernel) rfl
theorem e260_64 {ls : List (Option Value)} {st : List Value} {h : am_H} : am_ev 260 64 (ls) (st) h = am_ev 260 65 (ls) (.int (1) :: st) h := am_ev_step (q := (65, ls, .int (1) :: st, h)) _ (.iconst (1)) 1 am_my_260 (by decide +kernel) rfl
theorem e260_65 {ls : List (Option Value)} {st : List Value} {h : am_H} : am_ev 260 65 (ls) (st) h = am_ev 260 66 (ls) (.int (2) :: st) h := am_ev_step (q := (66, ls, .int (2) :: st, h)) _ (.iconst (2)) 1 am_my_260 (by decide +kernel) rfl
theorem e260_66 {ls : List (Option Value)} {st : List Value} {h : am_H} {p0 : Int32} {p1 : Int32} {p2 : Int32} (hw : am_w8 st ≤ 8) : am_ev 260 66 ls (.int p2 :: .int p1 :: .int p0 :: st) h = am_bd (am_den 168 [.int p0, .int p1, .int p2] h) (fun v h1 => am_ev 260 69 ls (v.toList ++ st) h1) := am_u_cS (idx := 99) (wn := 6085) (as := [.int p0, .int p1, .int p2]) am_my_260 (by decide +kernel) (by decide +kernel) am_my_168 (by decide +kernel) rfl ⟨Nat.le_of_ble_eq_true rfl, rfl⟩ hw
theorem e260_69 {ls : List (Option Value)} {st : List Value} {h : am_H} {a : Int32} : am_ev 260 69 ls (.int a :: st) h = if a = 0 then am_ev 260 89 ls st h else am_ev 260 72 ls st h := am_u_if1 (c := .eq) (off := 20) am_my_260 (by decide +kernel) (by decide)
theorem e260_72 {ls : List (Option Value)} {st : List Value} {h : am_H} {a : Nat} : am_ev 260 72 (some (.ref a) :: ls) (st) h = am_ev 260 73 (some (.ref a) :: ls) (.ref a :: st) h := am_ev_step (q := (73, some (.ref a) :: ls, .ref a :: st, h)) _ (.aload_n 0) 1 am_my_260 (by decide +kernel) rfl
theorem e260_73 {ls : List (Option Value)} {st : List Value} {h : am_H} {l0 l1 : Option Value} {a : Int32} : am_ev 260 73 (l0 :: l1 :: some (.int a) :: ls) (st) h = am_ev 260 74 (l0 :: l1 :: some (.int a) :: ls) (.int a :: st) h := am_ev_step (q := (74, l0 :: l1 :: some (.int a) :: ls, .int a :: st, h)) _ (.iload_n 2) 1 am_my_260 (by decide +kernel) rfl
theorem e260_74 {ls : List (Option Value)} {st : List Value} {h : am_H} : am_ev 260 74 (ls) (st) h = am_ev 260 75 (ls) (.int (2) :: st) h := am_ev_step (q := (75, ls, .int (2) :: st, h)) _ (.iconst (2)) 1 am_my_260 (by decide +kernel) rfl
theorem e260_75 {ls : List (Option Value)} {st : List Value} {h : am_H} {a b : Int32} : am_ev 260 75 ls (.int b :: .int a :: st) h = if ¬ a = b then am_ev 260 82 ls st h else am_ev 260 78 ls st h := am_u_if2 (c := .ne) (off := 7) am_my_260 (by decide +kernel) (by decide)
theorem e260_78 {ls : List (Option Value)} {st : List Value} {h : am_H} : am_ev 260 78 (ls) (st) h = am_ev 260 79 (ls) (.int (1) :: st) h := am_ev_step (q := (79, ls, .int (1) :: st, h)) _ (.iconst (1)) 1 am_my_260 (by decide +kernel) rfl
theorem e260_79 {ls : List (Option Value)} {st : List Value} {h : am_H} : am_ev 260 79 (ls) (st) h = am_ev 260 83 (ls) (st) h := am_ev_step (q := (83, ls, st, h)) _ (.goto (4)) 3 am_my_260 (by decide +kernel) rfl
theorem e260_82 {ls : List (Option Value)} {st : List Value} {h : am_H} : am_ev 260 82 (ls) (st) h = am_ev 260 83 (ls) (.int (0) :: st) h := am_ev_step (q := (83, ls, .int (0) :: st, h)) _ (.iconst (0)) 1 am_my_260 (by decide +kernel) rfl
theorem e260_83 {ls : List (Option Value)} {st : List Value} {h : am_H} {p0 : Int32} {o : Nat} (hw : am_w8 st ≤ 8) (hk : am_kd h o = some (.inl 11)) : am_ev 260 83 ls (.int p0 :: .ref o :: st) h = am_bd (am_den 264 [.ref o, .int p0] h) (fun v h1 => am_ev 260 86 ls (v.toList ++ st) h1) := am_u_cV (idx := 492) (wn := 8001) (as := [.int p0]) am_my_260 (by decide +kernel) (Or.inl (by decide +kernel)) am_my_264 (by decide +kernel) rfl ⟨Nat.le_of_ble_eq_true rfl, rfl⟩ (by decide +kernel) hw hk
theorem e260_86 {ls : List (Option Value)} {st : List Value} {h : am_H} : am_ev 260 86 (ls) (st) h = am_ev 260 91 (ls) (st) h := am_ev_step (q := (91, ls, st, h)) _ (.goto (5)) 3 am_my_260 (by decide +kernel) rfl
theorem e260_89 {ls : List (Option Value)} {st : List Value} {h : am_H} : am_ev 260 89 (ls) (st) h = am_ev 260 91 (ls) (.int (-2) :: st) h := am_ev_step (q := (91, ls, .int (-2) :: st, h)) _ (.bipush (-2)) 2 am_my_260 (by decide +kernel) rfl
theorem e260_91 {ls : List (Option Value)} {h : am_H} {v : Int32} : am_ev 260 91 ls [.int v] h = some (some (.int v), h) := am_u_rtI am_my_260 (by decide +kernel) rfl
theorem q_amtS : ∀ c, c < 36 → (((nI c).toInt64 &&& 63).toBitVec.smod 64).toNat = c := by decide +kernel
theorem q_wsb (w : Int64) (c : Nat) (hc : c < 36) : (lg_cmp ((w >>> ((nI c).toInt64 &&& 63)) &&& 1) 0 = 0) ↔ q_bit w c = false := by
  have e : (w >>> ((nI c).toInt64 &&& 63)).toBitVec = w.toBitVec.sshiftRight c := by
    show w.toBitVec.sshiftRight (((nI c).toInt64 &&& 63).toBitVec.smod 64).toNat = _
    rw [q_amtS c hc]
  rw [lg_eq0, ← Int64.toBitVec_inj, Int64.toBitVec_and, e, show (1 : Int64).toBitVec = 1#64 from rfl, show (0 : Int64).toBitVec = 0#64 from rfl, BitVec.and_one_eq_setWidth_ofBool_getLsbD, BitVec.getLsbD_sshiftRight]
  have e2 : (!decide (64 ≤ 0) && if c + 0 < 64 then w.toBitVec.getLsbD (c + 0) else w.toBitVec.msb) = w.toBitVec.getLsbD c := by
    rw [if_pos (by omega)]
    simp
  rw [e2]
  show _ ↔ w.toBitVec.getLsbD c = false
  cases w.toBitVec.getLsbD c <;> decide
theorem q_bitN (m c : Nat) (hc : c < 64) : q_bit (lN m) c = m.testBit c := by
  show (BitVec.ofNat 64 m).getLsbD c = m.testBit c
  rw [BitVec.getLsbD_ofNat]
  simp [hc]
theorem q_mbit (P : Nat → Bool) (c : Nat) (hc : c < 36) : (lg_cmp ((lN (q_msk P 36) >>> ((nI c).toInt64 &&& 63)) &&& 1) 0 = 0) ↔ P c = false := by
  rw [q_wsb _ c hc, q_bitN _ c (by omega), q_msk_tb]
  simp [hc]
theorem q_ls_split (P : Nat → Bool) (i r : Nat) : q_ls P (i + r) = q_ls P i ++ (List.range' i r).filter P := by
  unfold q_ls
  rw [← List.filter_append]
  congr 1
  have e : List.range' 0 i ++ List.range' (0 + i) r = List.range' 0 (i + r) := List.range'_append_1
  rw [List.range_eq_range', List.range_eq_range', ← e, Nat.zero_add]
/-- the k-th of a row, or none -/
def q_kt (L : List Nat) (k : Int32) : Int32 := if 0 ≤ k ∧ k < nI L.length then nI (L.getD k.toNatClampNeg 0) else -1
theorem q_bo_l (P : Nat → Bool) (k : Int32) (h : am_H) : ∀ (r i : Nat), i + r = 36 → ¬ (0 ≤ k ∧ k < nI (q_ls P i).length) → am_ev 153 5 [some (.long (lN (q_msk P 36))), some (.retAddr 0), some (.int k), some (.int (nI (q_ls P i).length)), some (.int (nI i))] [] h = some (some (.int (q_kt (q_ls P 36) k)), h) := by
  intro r
  induction r with
  | zero =>
    intro i hi nk
    obtain rfl : i = 36 := by omega
    have h1 : (36 : Int32) ≤ nI 36 := by decide
    have e : q_kt (q_ls P 36) k = -1 := if_neg nk
    rw [e, e153_5]
    simp only [e153_0, e153_1, e153_2, e153_3, e153_7, e153_9, e153_12, e153_13, e153_15, e153_16, e153_17, e153_18, e153_19, e153_20, e153_23, e153_26, e153_27, e153_28, e153_31, e153_33, e153_34, e153_37, e153_40, e153_43, e153_44, am_bd_some, Option.toList_some, Option.toList_none, List.cons_append, List.nil_append, am_w8_0, am_w8_1, am_w8_2, am_w8_3, am_w8_4, eq_self, or_true, true_or, am_kd_sI, am_kd_sL, am_kd_sR, am_tc_sI, am_tc_sL, am_tc_sR, am_len_sI, am_len_sL, am_len_sR, am_rfs, if_true, if_false, am_rdL_sI, am_rR_sL, am_rt_cq, am_kd_cq, am_tc_cq, am_len_cq, am_rd_sL, am_rd_sR, am_rdL_sR, h1]
  | succ r ih =>
    intro i hi nk
    have h1 : ¬ (36 : Int32) ≤ nI i := fun w => nI_ge (b := 36) (a := i) (by omega) (by decide) w
    have mb := q_mbit P i (by omega)
    have ll := q_ls_le P i
    rw [e153_5]
    cases hp : P i with
    | false =>
      have mb' := eq_true (mb.mpr hp)
      have e : q_ls P (i + 1) = q_ls P i := by rw [q_ls_s, hp]; simp
      have s2 := ih (i + 1) (by omega) (by rw [e]; exact nk)
      rw [e] at s2
      simp only [e153_0, e153_1, e153_2, e153_3, e153_7, e153_9, e153_12, e153_13, e153_15, e153_16, e153_17, e153_18, e153_19, e153_20, e153_23, e153_26, e153_27, e153_28, e153_31, e153_33, e153_34, e153_37, e153_40, e153_43, e153_44, am_bd_some, Option.toList_some, Option.toList_none, List.cons_append, List.nil_append, am_w8_0, am_w8_1, am_w8_2, am_w8_3, am_w8_4, eq_self, or_true, true_or, am_kd_sI, am_kd_sL, am_kd_sR, am_tc_sI, am_tc_sL, am_tc_sR, am_len_sI, am_len_sL, am_len_sR, am_rfs, if_true, if_false, am_rdL_sI, am_rR_sL, am_rt_cq, am_kd_cq, am_tc_cq, am_len_cq, am_rd_sL, am_rd_sR, am_rdL_sR, h1, mb', not_true, nI_1]
      exact s2
    | true =>
      have mb' := eq_false (fun w => by have := mb.mp w; rw [hp] at this; cases this)
      have e : q_ls P (i + 1) = q_ls P i ++ [i] := by rw [q_ls_s, hp]; simp
      have el : (q_ls P (i + 1)).length = (q_ls P i).length + 1 := by rw [e, List.length_append]; rfl
      by_cases ck : nI (q_ls P i).length = k
      · have sp := q_ls_split P (i + 1) r
        rw [show i + 1 + r = 36 by omega] at sp
        have hl : (q_ls P i).length < (q_ls P 36).length := by
          rw [sp, List.length_append, el]
          omega
        have l36 := q_ls_le P 36
        have e2 : q_kt (q_ls P 36) k = nI i := by
          unfold q_kt
          rw [← ck, if_pos ⟨nI_pos' (by omega), nI_lt hl (by omega)⟩, nI_clamp (by omega), sp, e, List.getD_eq_getElem?_getD, List.append_assoc, List.getElem?_append_right (Nat.le_refl _), Nat.sub_self]
          rfl
        rw [e2]
        have ck' := eq_true ck
        simp only [e153_0, e153_1, e153_2, e153_3, e153_7, e153_9, e153_12, e153_13, e153_15, e153_16, e153_17, e153_18, e153_19, e153_20, e153_23, e153_26, e153_27, e153_28, e153_31, e153_33, e153_34, e153_37, e153_40, e153_43, e153_44, am_bd_some, Option.toList_some, Option.toList_none, List.cons_append, List.nil_append, am_w8_0, am_w8_1, am_w8_2, am_w8_3, am_w8_4, eq_self, or_true, true_or, am_kd_sI, am_kd_sL, am_kd_sR, am_tc_sI, am_tc_sL, am_tc_sR, am_len_sI, am_len_sL, am_len_sR, am_rfs, if_true, if_false, am_rdL_sI, am_rR_sL, am_rt_cq, am_kd_cq, am_tc_cq, am_len_cq, am_rd_sL, am_rd_sR, am_rdL_sR, h1, mb', not_false_eq_true, ck', not_true]
      · have nk2 : ¬ (0 ≤ k ∧ k < nI (q_ls P (i + 1)).length) := fun w => by
          obtain ⟨j, hj, rfl⟩ := nI_of (Int32.not_lt.mpr w.1)
          have h2 := (nI_ltI hj (by omega)).mp w.2
          by_cases cj : j = (q_ls P i).length
          · exact ck (by rw [cj])
          · exact nk ⟨w.1, nI_lt (by omega) (by omega)⟩
        have s2 := ih (i + 1) (by omega) nk2
        rw [el] at s2
        simp only [e153_0, e153_1, e153_2, e153_3, e153_7, e153_9, e153_12, e153_13, e153_15, e153_16, e153_17, e153_18, e153_19, e153_20, e153_23, e153_26, e153_27, e153_28, e153_31, e153_33, e153_34, e153_37, e153_40, e153_43, e153_44, am_bd_some, Option.toList_some, Option.toList_none, List.cons_append, List.nil_append, am_w8_0, am_w8_1, am_w8_2, am_w8_3, am_w8_4, eq_self, or_true, true_or, am_kd_sI, am_kd_sL, am_kd_sR, am_tc_sI, am_tc_sL, am_tc_sR, am_len_sI, am_len_sL, am_len_sR, am_rfs, if_true, if_false, am_rdL_sI, am_rR_sL, am_rt_cq, am_kd_cq, am_tc_cq, am_len_cq, am_rd_sL, am_rd_sR, am_rdL_sR, h1, mb', not_false_eq_true, ck, nI_1]
        exact s2
theorem den_bitOf (P : Nat → Bool) (k : Int32) (h : am_H) : am_den 153 [.long (lN (q_msk P 36)), .int k] h = some (some (.int (q_kt (q_ls P 36) k)), h) := by
  have e0 : (q_ls P 0).length = 0 := rfl
  have lp := q_bo_l P k h 36 0 (by omega) (fun w => by
    rw [e0] at w
    exact absurd w.2 (Int32.not_lt.mpr w.1))
  rw [e0, nI_0] at lp
  show am_ev 153 0 [some (.long (lN (q_msk P 36))), some (.retAddr 0), some (.int k), none, none] [] h = _
  simp only [e153_0, e153_1, e153_2, e153_3, e153_7, e153_9, e153_12, e153_13, e153_15, e153_16, e153_17, e153_18, e153_19, e153_20, e153_23, e153_26, e153_27, e153_28, e153_31, e153_33, e153_34, e153_37, e153_40, e153_43, e153_44, am_bd_some, Option.toList_some, Option.toList_none, List.cons_append, List.nil_append, am_w8_0, am_w8_1, am_w8_2, am_w8_3, am_w8_4, eq_self, or_true, true_or, am_kd_sI, am_kd_sL, am_kd_sR, am_tc_sI, am_tc_sL, am_tc_sR, am_len_sI, am_len_sL, am_len_sR, am_rfs, if_true, if_false, am_rdL_sI, am_rR_sL, am_rt_cq, am_kd_cq, am_tc_cq, am_len_cq, am_rd_sL, am_rd_sR, am_rdL_sR]
  exact lp
/-- what is sure -/
def q_own (eye : Int32) (c : Nat) : Nat := if eye = 0 then c / 9 else c % 9 + 1
def q_suF (eye : Int32) (one : Int32) (c : Nat) : Int32 := if nI (q_own eye c) = one then one else -1
theorem q_suF_m1 (eye : Int32) : ∀ L : List Nat, (∀ c, c ∈ L → c < 36) → L.foldl (q_suF eye) (-1) = -1 := by
  intro L
  induction L with
  | nil => intro _; rfl
  | cons c L ih =>
    intro hL
    have hc := hL c List.mem_cons_self
    have : q_suF eye (-1) c = -1 := if_neg (q_m1_n _ (by unfold q_own; split <;> omega))
    rw [List.foldl_cons, this]
    exact ih (fun d hd => hL d (List.mem_cons_of_mem _ hd))
def q_sure (eye : Int32) (L : List Nat) : Int32 := match L with
  | [] => -1
  | c :: t => t.foldl (q_suF eye) (nI (q_own eye c))
theorem q_su_l (P : Nat → Bool) (eye : Int32) (h : am_H) : ∀ (r i : Nat) (one : Option Nat) (z5 : Option Value), i + r = 36 → (∀ v, one = some v → v < 100) → am_ev 152 5 [some (.long (lN (q_msk P 36))), some (.retAddr 0), some (.int eye), some (.int (q_ov one)), some (.int (nI i)), z5] [] h = some (some (.int (match one with
    | none => q_sure eye ((List.range' i r).filter P)
    | some v => ((List.range' i r).filter P).foldl (q_suF eye) (nI v))), h) := by
  have n9 : ¬ (9 : Int32) = 0 := by decide
  intro r
  induction r with
  | zero =>
    intro i one z5 hi ho
    obtain rfl : i = 36 := by omega
    have h1 : (36 : Int32) ≤ nI 36 := by decide
    rw [e152_5]
    simp only [e152_0, e152_1, e152_2, e152_3, e152_7, e152_9, e152_12, e152_13, e152_15, e152_16, e152_17, e152_18, e152_19, e152_20, e152_23, e152_26, e152_27, e152_30, e152_32, e152_34, e152_35, e152_36, e152_37, e152_40, e152_42, e152_44, e152_45, e152_47, e152_48, e152_49, e152_52, e152_53, e152_55, e152_58, e152_59, e152_60, e152_62, e152_63, e152_66, e152_69, e152_70, am_bd_some, Option.toList_some, Option.toList_none, List.cons_append, List.nil_append, am_w8_0, am_w8_1, am_w8_2, am_w8_3, am_w8_4, eq_self, or_true, true_or, am_kd_sI, am_kd_sL, am_kd_sR, am_tc_sI, am_tc_sL, am_tc_sR, am_len_sI, am_len_sL, am_len_sR, am_rfs, if_true, if_false, am_rdL_sI, am_rR_sL, am_rt_cq, am_kd_cq, am_tc_cq, am_len_cq, am_rd_sL, am_rd_sR, am_rdL_sR, h1, List.range'_zero, List.filter_nil]
    cases one <;> rfl
  | succ r ih =>
    intro i one z5 hi ho
    have h1 : ¬ (36 : Int32) ≤ nI i := fun w => nI_ge (b := 36) (a := i) (by omega) (by decide) w
    have mb := q_mbit P i (by omega)
    obtain ⟨d1, d2⟩ := q_d9 (c := i) (by omega)
    have ol : q_own eye i < 100 := by unfold q_own; split <;> omega
    have oI : ∀ (L : Option Value), am_ev 152 26 [some (.long (lN (q_msk P 36))), some (.retAddr 0), some (.int eye), some (.int (q_ov one)), some (.int (nI i)), L] [] h = am_ev 152 47 [some (.long (lN (q_msk P 36))), some (.retAddr 0), some (.int eye), some (.int (q_ov one)), some (.int (nI i)), some (.int (nI (q_own eye i)))] [] h := fun L => by
      by_cases ce : eye = 0
      · have q : q_own eye i = i / 9 := if_pos ce
        have ce' := eq_true ce
        rw [q]
        simp only [e152_0, e152_1, e152_2, e152_3, e152_5, e152_7, e152_9, e152_12, e152_13, e152_15, e152_16, e152_17, e152_18, e152_19, e152_20, e152_23, e152_26, e152_27, e152_30, e152_32, e152_34, e152_35, e152_36, e152_37, e152_40, e152_42, e152_44, e152_45, e152_48, e152_49, e152_52, e152_53, e152_55, e152_58, e152_59, e152_60, e152_62, e152_63, e152_66, e152_69, e152_70, am_bd_some, Option.toList_some, Option.toList_none, List.cons_append, List.nil_append, am_w8_0, am_w8_1, am_w8_2, am_w8_3, am_w8_4, eq_self, or_true, true_or, am_kd_sI, am_kd_sL, am_kd_sR, am_tc_sI, am_tc_sL, am_tc_sR, am_len_sI, am_len_sL, am_len_sR, am_rfs, if_true, if_false, am_rdL_sI, am_rR_sL, am_rt_cq, am_kd_cq, am_tc_cq, am_len_cq, am_rd_sL, am_rd_sR, am_rdL_sR, ce', n9, d1]
      · have q : q_own eye i = i % 9 + 1 := if_neg ce
        rw [q]
        simp only [e152_0, e152_1, e152_2, e152_3, e152_5, e152_7, e152_9, e152_12, e152_13, e152_15, e152_16, e152_17, e152_18, e152_19, e152_20, e152_23, e152_26, e152_27, e152_30, e152_32, e152_34, e152_35, e152_36, e152_37, e152_40, e152_42, e152_44, e152_45, e152_48, e152_49, e152_52, e152_53, e152_55, e152_58, e152_59, e152_60, e152_62, e152_63, e152_66, e152_69, e152_70, am_bd_some, Option.toList_some, Option.toList_none, List.cons_append, List.nil_append, am_w8_0, am_w8_1, am_w8_2, am_w8_3, am_w8_4, eq_self, or_true, true_or, am_kd_sI, am_kd_sL, am_kd_sR, am_tc_sI, am_tc_sL, am_tc_sR, am_len_sI, am_len_sL, am_len_sR, am_rfs, if_true, if_false, am_rdL_sI, am_rR_sL, am_rt_cq, am_kd_cq, am_tc_cq, am_len_cq, am_rd_sL, am_rd_sR, am_rdL_sR, ce, n9, d1, d2, nI_1]
    rw [e152_5, List.range'_succ]
    cases hp : P i with
    | false =>
      have mb' := eq_true (mb.mpr hp)
      rw [List.filter_cons_of_neg (by rw [hp]; decide)]
      simp only [e152_0, e152_1, e152_2, e152_3, e152_7, e152_9, e152_12, e152_13, e152_15, e152_16, e152_17, e152_18, e152_19, e152_20, e152_23, e152_27, e152_30, e152_32, e152_34, e152_35, e152_36, e152_37, e152_40, e152_42, e152_44, e152_45, e152_47, e152_48, e152_49, e152_52, e152_53, e152_55, e152_58, e152_59, e152_60, e152_62, e152_63, e152_66, e152_69, e152_70, am_bd_some, Option.toList_some, Option.toList_none, List.cons_append, List.nil_append, am_w8_0, am_w8_1, am_w8_2, am_w8_3, am_w8_4, eq_self, or_true, true_or, am_kd_sI, am_kd_sL, am_kd_sR, am_tc_sI, am_tc_sL, am_tc_sR, am_len_sI, am_len_sL, am_len_sR, am_rfs, if_true, if_false, am_rdL_sI, am_rR_sL, am_rt_cq, am_kd_cq, am_tc_cq, am_len_cq, am_rd_sL, am_rd_sR, am_rdL_sR, h1, mb', not_true, nI_1]
      exact ih (i + 1) one z5 (by omega) ho
    | true =>
      have mb' := eq_false (fun w => by have := mb.mp w; rw [hp] at this; cases this)
      rw [List.filter_cons_of_pos (by rw [hp])]
      simp only [e152_0, e152_1, e152_2, e152_3, e152_7, e152_9, e152_12, e152_13, e152_15, e152_16, e152_17, e152_18, e152_19, e152_20, e152_23, e152_27, e152_30, e152_32, e152_34, e152_35, e152_36, e152_37, e152_40, e152_42, e152_44, e152_45, e152_47, e152_48, e152_49, e152_52, e152_53, e152_55, e152_58, e152_59, e152_60, e152_62, e152_63, e152_66, e152_69, e152_70, am_bd_some, Option.toList_some, Option.toList_none, List.cons_append, List.nil_append, am_w8_0, am_w8_1, am_w8_2, am_w8_3, am_w8_4, eq_self, or_true, true_or, am_kd_sI, am_kd_sL, am_kd_sR, am_tc_sI, am_tc_sL, am_tc_sR, am_len_sI, am_len_sL, am_len_sR, am_rfs, if_true, if_false, am_rdL_sI, am_rR_sL, am_rt_cq, am_kd_cq, am_tc_cq, am_len_cq, am_rd_sL, am_rd_sR, am_rdL_sR, h1, mb', not_false_eq_true]
      rw [oI]
      have nx := ih (i + 1) (some (q_own eye i)) (some (.int (nI (q_own eye i)))) (by omega) (fun v w => by cases w; exact ol)
      cases one with
      | none =>
        have y : q_ov none = -1 := rfl
        simp only [e152_0, e152_1, e152_2, e152_3, e152_7, e152_9, e152_12, e152_13, e152_15, e152_16, e152_17, e152_18, e152_19, e152_20, e152_23, e152_27, e152_30, e152_32, e152_34, e152_35, e152_36, e152_37, e152_40, e152_42, e152_44, e152_45, e152_47, e152_48, e152_49, e152_52, e152_53, e152_55, e152_58, e152_59, e152_60, e152_62, e152_63, e152_66, e152_69, e152_70, am_bd_some, Option.toList_some, Option.toList_none, List.cons_append, List.nil_append, am_w8_0, am_w8_1, am_w8_2, am_w8_3, am_w8_4, eq_self, or_true, true_or, am_kd_sI, am_kd_sL, am_kd_sR, am_tc_sI, am_tc_sL, am_tc_sR, am_len_sI, am_len_sL, am_len_sR, am_rfs, if_true, if_false, am_rdL_sI, am_rR_sL, am_rt_cq, am_kd_cq, am_tc_cq, am_len_cq, am_rd_sL, am_rd_sR, am_rdL_sR, y, nI_1]
        exact nx
      | some v =>
        have hv := ho v rfl
        have y : q_ov (some v) = nI v := rfl
        have y1 : ¬ nI v = -1 := q_m1_n v (by omega)
        have mem : ∀ c, c ∈ (List.range' (i + 1) r).filter P → c < 36 := fun c hc => by
          have := List.mem_range'_1.mp (List.mem_filter.mp hc).1
          omega
        by_cases ce : nI v = nI (q_own eye i)
        · have ev : v = q_own eye i := (nI_eq (by omega) (by omega)).mp ce
          have q : q_suF eye (nI v) i = nI (q_own eye i) := by
            unfold q_suF
            rw [if_pos ce.symm, ce]
          have ce' := eq_true ce
          show _ = some (some (Value.int ((i :: (List.range' (i + 1) r).filter P).foldl (q_suF eye) (nI v))), h)
          rw [List.foldl_cons, q]
          simp only [e152_0, e152_1, e152_2, e152_3, e152_7, e152_9, e152_12, e152_13, e152_15, e152_16, e152_17, e152_18, e152_19, e152_20, e152_23, e152_27, e152_30, e152_32, e152_34, e152_35, e152_36, e152_37, e152_40, e152_42, e152_44, e152_45, e152_47, e152_48, e152_49, e152_52, e152_53, e152_55, e152_58, e152_59, e152_60, e152_62, e152_63, e152_66, e152_69, e152_70, am_bd_some, Option.toList_some, Option.toList_none, List.cons_append, List.nil_append, am_w8_0, am_w8_1, am_w8_2, am_w8_3, am_w8_4, eq_self, or_true, true_or, am_kd_sI, am_kd_sL, am_kd_sR, am_tc_sI, am_tc_sL, am_tc_sR, am_len_sI, am_len_sL, am_len_sR, am_rfs, if_true, if_false, am_rdL_sI, am_rR_sL, am_rt_cq, am_kd_cq, am_tc_cq, am_len_cq, am_rd_sL, am_rd_sR, am_rdL_sR, y, y1, ce', nI_1]
          exact nx
        · have q : q_suF eye (nI v) i = -1 := if_neg (fun w => ce w.symm)
          show _ = some (some (Value.int ((i :: (List.range' (i + 1) r).filter P).foldl (q_suF eye) (nI v))), h)
          rw [List.foldl_cons, q, q_suF_m1 eye _ mem]
          simp only [e152_0, e152_1, e152_2, e152_3, e152_7, e152_9, e152_12, e152_13, e152_15, e152_16, e152_17, e152_18, e152_19, e152_20, e152_23, e152_27, e152_30, e152_32, e152_34, e152_35, e152_36, e152_37, e152_40, e152_42, e152_44, e152_45, e152_47, e152_48, e152_49, e152_52, e152_53, e152_55, e152_58, e152_59, e152_60, e152_62, e152_63, e152_66, e152_69, e152_70, am_bd_some, Option.toList_some, Option.toList_none, List.cons_append, List.nil_append, am_w8_0, am_w8_1, am_w8_2, am_w8_3, am_w8_4, eq_self, or_true, true_or, am_kd_sI, am_kd_sL, am_kd_sR, am_tc_sI, am_tc_sL, am_tc_sR, am_len_sI, am_len_sL, am_len_sR, am_rfs, if_true, if_false, am_rdL_sI, am_rR_sL, am_rt_cq, am_kd_cq, am_tc_cq, am_len_cq, am_rd_sL, am_rd_sR, am_rdL_sR, y, y1, ce]
theorem den_sure (P : Nat → Bool) (eye : Int32) (h : am_H) : am_den 152 [.long (lN (q_msk P 36)), .int eye] h = some (some (.int (q_sure eye (q_ls P 36))), h) := by
  have lp := q_su_l P eye h 36 0 none none (by omega) (fun v w => by cases w)
  have y : q_ov none = -1 := rfl
  rw [y, nI_0] at lp
  have e : (List.range' 0 36).filter P = q_ls P 36 := by
    unfold q_ls
    rw [List.range_eq_range']
  rw [e] at lp
  show am_ev 152 0 [some (.long (lN (q_msk P 36))), some (.retAddr 0), some (.int eye), none, none, none] [] h = _
  simp only [e152_0, e152_1, e152_2, e152_3, e152_7, e152_9, e152_12, e152_13, e152_15, e152_16, e152_17, e152_18, e152_19, e152_20, e152_23, e152_26, e152_27, e152_30, e152_32, e152_34, e152_35, e152_36, e152_37, e152_40, e152_42, e152_44, e152_45, e152_47, e152_48, e152_49, e152_52, e152_53, e152_55, e152_58, e152_59, e152_60, e152_62, e152_63, e152_66, e152_69, e152_70, am_bd_some, Option.toList_some, Option.toList_none, List.cons_append, List.nil_append, am_w8_0, am_w8_1, am_w8_2, am_w8_3, am_w8_4, eq_self, or_true, true_or, am_kd_sI, am_kd_sL, am_kd_sR, am_tc_sI, am_tc_sL, am_tc_sR, am_len_sI, am_len_sL, am_len_sR, am_rfs, if_true, if_false, am_rdL_sI, am_rR_sL, am_rt_cq, am_kd_cq, am_tc_cq, am_len_cq, am_rd_sL, am_rd_sR, am_rdL_sR]
  exact lp
/-- how many -/
theorem q_pop_ls (P : Nat → Bool) : ∀ n, (q_ls P n).length = q_sm (fun c => (P c).toNat) 0 n := by
  intro n
  induction n with
  | zero => rfl
  | succ n ih =>
    rw [q_ls_s, List.length_append, ih, q_sm, Nat.zero_add]
    cases P n <;> rfl
theorem q_pop_36 (P : Nat → Bool) : q_pop (q_msk P 36) = (q_ls P 36).length := by
  rw [q_pop_ls]
  unfold q_pop
  have e : ∀ c, c < 36 → ((q_msk P 36).testBit c).toNat = (P c).toNat := fun c hc => by rw [q_msk_tb]; simp [hc]
  have e2 : ∀ n, n ≤ 36 → q_sm (fun c => ((q_msk P 36).testBit c).toNat) 0 n = q_sm (fun c => (P c).toNat) 0 n := by
    intro n
    induction n with
    | zero => intro _; rfl
    | succ n ih =>
      intro hn
      rw [q_sm, q_sm, ih (by omega), Nat.zero_add, e n (by omega)]
  have z : ∀ c, 36 ≤ c → ((q_msk P 36).testBit c).toNat = 0 := fun c hc => by rw [q_msk_tb, decide_eq_false (by omega)]; rfl
  have s4 : q_sm (fun c => ((q_msk P 36).testBit c).toNat) 0 40 = q_sm (fun c => ((q_msk P 36).testBit c).toNat) 0 36 + ((q_msk P 36).testBit (0 + 36)).toNat + ((q_msk P 36).testBit (0 + 37)).toNat + ((q_msk P 36).testBit (0 + 38)).toNat + ((q_msk P 36).testBit (0 + 39)).toNat := rfl
  rw [s4, e2 36 (Nat.le_refl _), z _ (by omega), z _ (by omega), z _ (by omega), z _ (by omega)]
  rfl
/-! the reference -/
theorem q_mown (h : am_H) (L : List Nat) (fd : q_fnd h L) (ok : am_okH h) (hL : ∀ c, c ∈ L → c < 36) (h36 : L.length ≤ 36) (j : Nat) (hj : j < L.length) : L.getD j 0 < 36 ∧ h.1 233 j = nI (L.getD j 0) := by
  refine ⟨hL _ ?_, fd.2 j hj⟩
  rw [List.getD_eq_getElem?_getD, List.getElem?_eq_getElem hj]
  exact List.getElem_mem hj
theorem q_drop_c {L : List Nat} {j : Nat} (hj : j < L.length) : L.drop j = L.getD j 0 :: L.drop (j + 1) := by
  rw [List.drop_eq_getElem_cons hj, List.getD_eq_getElem?_getD, List.getElem?_eq_getElem hj]
  rfl
theorem q_sor_l (h : am_H) (ok : am_okH h) (L : List Nat) (fd : q_fnd h L) (hL : ∀ c, c ∈ L → c < 36) (h36 : L.length ≤ 36) (eye : Int32) : ∀ (r j : Nat) (one : Int32), j + r = L.length → am_ev 264 41 [some (.ref 211), some (.int eye), some (.int one), some (.int (nI j))] [] h = some (some (.int ((L.drop j).foldl (q_suF eye) one)), h) := by
  have n9 : ¬ (9 : Int32) = 0 := by decide
  intro r
  induction r with
  | zero =>
    intro j one hj
    have h1 : nI L.length ≤ nI j := nI_le (by omega) (by omega)
    have e : L.drop j = [] := List.drop_eq_nil_of_le (by omega)
    rw [e, e264_41]
    simp only [e264_0, e264_1, e264_4, e264_7, e264_8, e264_11, e264_12, e264_15, e264_16, e264_19, e264_20, e264_21, e264_23, e264_24, e264_25, e264_26, e264_29, e264_30, e264_33, e264_34, e264_35, e264_37, e264_38, e264_39, e264_40, e264_42, e264_43, e264_46, e264_49, e264_50, e264_53, e264_54, e264_57, e264_58, e264_59, e264_61, e264_62, e264_63, e264_64, e264_67, e264_68, e264_71, e264_72, e264_73, e264_75, e264_76, e264_77, e264_80, e264_81, e264_84, e264_85, e264_86, e264_89, e264_92, e264_93, am_bd_some, Option.toList_some, Option.toList_none, List.cons_append, List.nil_append, am_w8_0, am_w8_1, am_w8_2, am_w8_3, am_w8_4, eq_self, or_true, true_or, am_kd_sI, am_kd_sL, am_kd_sR, am_tc_sI, am_tc_sL, am_tc_sR, am_len_sI, am_len_sL, am_len_sR, am_rfs, if_true, if_false, am_rdL_sI, am_rR_sL, am_rt_cq, am_kd_cq, am_tc_cq, am_len_cq, am_rd_sL, am_rd_sR, am_rdL_sR, okK_211 ok, fd.1, h1, List.foldl_nil]
  | succ r ih =>
    intro j one hj
    have h1 : ¬ nI L.length ≤ nI j := nI_ge (by omega) (by omega)
    obtain ⟨c36, rd⟩ := q_mown h L fd ok hL h36 j (by omega)
    have x : am_ix (nI j) 36 = true := am_ix_nI (by omega) (by decide)
    have z : (nI j).toNatClampNeg = j := nI_clamp (by omega)
    rw [q_drop_c (by omega), List.foldl_cons, e264_41]
    generalize L.getD j 0 = c at *
    obtain ⟨d1, d2⟩ := q_d9 (c := c) (by omega)
    have nx := ih (j + 1) (q_suF eye one c) (by omega)
    by_cases ce : eye = 0
    · have q : q_own eye c = c / 9 := if_pos ce
      unfold q_suF at nx ⊢
      rw [q] at nx ⊢
      have ce' := eq_true ce
      by_cases co : nI (c / 9) = one
      · rw [if_pos co] at nx ⊢
        have co' := eq_true co
        simp only [e264_0, e264_1, e264_4, e264_7, e264_8, e264_11, e264_12, e264_15, e264_16, e264_19, e264_20, e264_21, e264_23, e264_24, e264_25, e264_26, e264_29, e264_30, e264_33, e264_34, e264_35, e264_37, e264_38, e264_39, e264_40, e264_42, e264_43, e264_46, e264_49, e264_50, e264_53, e264_54, e264_57, e264_58, e264_59, e264_61, e264_62, e264_63, e264_64, e264_67, e264_68, e264_71, e264_72, e264_73, e264_75, e264_76, e264_77, e264_80, e264_81, e264_84, e264_85, e264_86, e264_89, e264_92, e264_93, am_bd_some, Option.toList_some, Option.toList_none, List.cons_append, List.nil_append, am_w8_0, am_w8_1, am_w8_2, am_w8_3, am_w8_4, eq_self, or_true, true_or, am_kd_sI, am_kd_sL, am_kd_sR, am_tc_sI, am_tc_sL, am_tc_sR, am_len_sI, am_len_sL, am_len_sR, am_rfs, if_true, if_false, am_rdL_sI, am_rR_sL, am_rt_cq, am_kd_cq, am_tc_cq, am_len_cq, am_rd_sL, am_rd_sR, am_rdL_sR, okK_211 ok, okR_211_50 ok, okT_233 ok, okL_233 ok, fd.1, h1, ce', x, z, rd, n9, d1, co', not_true, nI_1]
        exact nx
      · rw [if_neg co] at nx ⊢
        simp only [e264_0, e264_1, e264_4, e264_7, e264_8, e264_11, e264_12, e264_15, e264_16, e264_19, e264_20, e264_21, e264_23, e264_24, e264_25, e264_26, e264_29, e264_30, e264_33, e264_34, e264_35, e264_37, e264_38, e264_39, e264_40, e264_42, e264_43, e264_46, e264_49, e264_50, e264_53, e264_54, e264_57, e264_58, e264_59, e264_61, e264_62, e264_63, e264_64, e264_67, e264_68, e264_71, e264_72, e264_73, e264_75, e264_76, e264_77, e264_80, e264_81, e264_84, e264_85, e264_86, e264_89, e264_92, e264_93, am_bd_some, Option.toList_some, Option.toList_none, List.cons_append, List.nil_append, am_w8_0, am_w8_1, am_w8_2, am_w8_3, am_w8_4, eq_self, or_true, true_or, am_kd_sI, am_kd_sL, am_kd_sR, am_tc_sI, am_tc_sL, am_tc_sR, am_len_sI, am_len_sL, am_len_sR, am_rfs, if_true, if_false, am_rdL_sI, am_rR_sL, am_rt_cq, am_kd_cq, am_tc_cq, am_len_cq, am_rd_sL, am_rd_sR, am_rdL_sR, okK_211 ok, okR_211_50 ok, okT_233 ok, okL_233 ok, fd.1, h1, ce', x, z, rd, n9, d1, co, not_false_eq_true, nI_1]
        exact nx
    · have q : q_own eye c = c % 9 + 1 := if_neg ce
      unfold q_suF at nx ⊢
      rw [q] at nx ⊢
      by_cases co : nI (c % 9 + 1) = one
      · rw [if_pos co] at nx ⊢
        have co' := eq_true co
        simp only [e264_0, e264_1, e264_4, e264_7, e264_8, e264_11, e264_12, e264_15, e264_16, e264_19, e264_20, e264_21, e264_23, e264_24, e264_25, e264_26, e264_29, e264_30, e264_33, e264_34, e264_35, e264_37, e264_38, e264_39, e264_40, e264_42, e264_43, e264_46, e264_49, e264_50, e264_53, e264_54, e264_57, e264_58, e264_59, e264_61, e264_62, e264_63, e264_64, e264_67, e264_68, e264_71, e264_72, e264_73, e264_75, e264_76, e264_77, e264_80, e264_81, e264_84, e264_85, e264_86, e264_89, e264_92, e264_93, am_bd_some, Option.toList_some, Option.toList_none, List.cons_append, List.nil_append, am_w8_0, am_w8_1, am_w8_2, am_w8_3, am_w8_4, eq_self, or_true, true_or, am_kd_sI, am_kd_sL, am_kd_sR, am_tc_sI, am_tc_sL, am_tc_sR, am_len_sI, am_len_sL, am_len_sR, am_rfs, if_true, if_false, am_rdL_sI, am_rR_sL, am_rt_cq, am_kd_cq, am_tc_cq, am_len_cq, am_rd_sL, am_rd_sR, am_rdL_sR, okK_211 ok, okR_211_50 ok, okT_233 ok, okL_233 ok, fd.1, h1, ce, x, z, rd, n9, d1, d2, co', not_true, nI_1]
        exact nx
      · rw [if_neg co] at nx ⊢
        simp only [e264_0, e264_1, e264_4, e264_7, e264_8, e264_11, e264_12, e264_15, e264_16, e264_19, e264_20, e264_21, e264_23, e264_24, e264_25, e264_26, e264_29, e264_30, e264_33, e264_34, e264_35, e264_37, e264_38, e264_39, e264_40, e264_42, e264_43, e264_46, e264_49, e264_50, e264_53, e264_54, e264_57, e264_58, e264_59, e264_61, e264_62, e264_63, e264_64, e264_67, e264_68, e264_71, e264_72, e264_73, e264_75, e264_76, e264_77, e264_80, e264_81, e264_84, e264_85, e264_86, e264_89, e264_92, e264_93, am_bd_some, Option.toList_some, Option.toList_none, List.cons_append, List.nil_append, am_w8_0, am_w8_1, am_w8_2, am_w8_3, am_w8_4, eq_self, or_true, true_or, am_kd_sI, am_kd_sL, am_kd_sR, am_tc_sI, am_tc_sL, am_tc_sR, am_len_sI, am_len_sL, am_len_sR, am_rfs, if_true, if_false, am_rdL_sI, am_rR_sL, am_rt_cq, am_kd_cq, am_tc_cq, am_len_cq, am_rd_sL, am_rd_sR, am_rdL_sR, okK_211 ok, okR_211_50 ok, okT_233 ok, okL_233 ok, fd.1, h1, ce, x, z, rd, n9, d1, d2, co, not_false_eq_true, nI_1]
        exact nx
theorem den_sureOf (h : am_H) (ok : am_okH h) (L : List Nat) (fd : q_fnd h L) (hL : ∀ c, c ∈ L → c < 36) (h36 : L.length ≤ 36) (eye : Int32) : am_den 264 [.ref 211, .int eye] h = some (some (.int (q_sure eye L)), h) := by
  have n9 : ¬ (9 : Int32) = 0 := by decide
  show am_ev 264 0 [some (.ref 211), some (.int eye), none, none] [] h = _
  cases L with
  | nil =>
    have e51 : h.1 211 51 = 0 := fd.1
    have h1 : (0 : Int32) ≤ 1 := by decide
    simp only [e264_0, e264_1, e264_4, e264_7, e264_8, e264_11, e264_12, e264_15, e264_16, e264_19, e264_20, e264_21, e264_23, e264_24, e264_25, e264_26, e264_29, e264_30, e264_33, e264_34, e264_35, e264_37, e264_38, e264_39, e264_40, e264_41, e264_42, e264_43, e264_46, e264_49, e264_50, e264_53, e264_54, e264_57, e264_58, e264_59, e264_61, e264_62, e264_63, e264_64, e264_67, e264_68, e264_71, e264_72, e264_73, e264_75, e264_76, e264_77, e264_80, e264_81, e264_84, e264_85, e264_86, e264_89, e264_92, e264_93, am_bd_some, Option.toList_some, Option.toList_none, List.cons_append, List.nil_append, am_w8_0, am_w8_1, am_w8_2, am_w8_3, am_w8_4, eq_self, or_true, true_or, am_kd_sI, am_kd_sL, am_kd_sR, am_tc_sI, am_tc_sL, am_tc_sR, am_len_sI, am_len_sL, am_len_sR, am_rfs, if_true, if_false, am_rdL_sI, am_rR_sL, am_rt_cq, am_kd_cq, am_tc_cq, am_len_cq, am_rd_sL, am_rd_sR, am_rdL_sR, okK_211 ok, e51, not_true, h1, q_sure]
  | cons c t =>
    have ln : (c :: t).length = t.length + 1 := rfl
    have e51 : h.1 211 51 = nI (t.length + 1) := fd.1
    have y : ¬ nI (t.length + 1) = 0 := nI_ne0 (by omega) (by omega)
    have c36 := hL c List.mem_cons_self
    have rd : h.1 233 0 = nI c := fd.2 0 (by rw [ln]; omega)
    have x : am_ix 0 36 = true := by decide
    have z : (0 : Int32).toNatClampNeg = 0 := rfl
    obtain ⟨d1, d2⟩ := q_d9 (c := c) (by omega)
    have lp := q_sor_l h ok (c :: t) fd hL h36 eye t.length 1 (nI (q_own eye c)) (by rw [ln]; omega)
    have ed : (c :: t).drop 1 = t := rfl
    rw [ed, show nI 1 = 1 from rfl] at lp
    show _ = some (some (Value.int (t.foldl (q_suF eye) (nI (q_own eye c)))), h)
    by_cases ce : eye = 0
    · have q : q_own eye c = c / 9 := if_pos ce
      have ce' := eq_true ce
      rw [q] at lp ⊢
      simp only [e264_0, e264_1, e264_4, e264_7, e264_8, e264_11, e264_12, e264_15, e264_16, e264_19, e264_20, e264_21, e264_23, e264_24, e264_25, e264_26, e264_29, e264_30, e264_33, e264_34, e264_35, e264_37, e264_38, e264_39, e264_40, e264_42, e264_43, e264_46, e264_49, e264_50, e264_53, e264_54, e264_57, e264_58, e264_59, e264_61, e264_62, e264_63, e264_64, e264_67, e264_68, e264_71, e264_72, e264_73, e264_75, e264_76, e264_77, e264_80, e264_81, e264_84, e264_85, e264_86, e264_89, e264_92, e264_93, am_bd_some, Option.toList_some, Option.toList_none, List.cons_append, List.nil_append, am_w8_0, am_w8_1, am_w8_2, am_w8_3, am_w8_4, eq_self, or_true, true_or, am_kd_sI, am_kd_sL, am_kd_sR, am_tc_sI, am_tc_sL, am_tc_sR, am_len_sI, am_len_sL, am_len_sR, am_rfs, if_true, if_false, am_rdL_sI, am_rR_sL, am_rt_cq, am_kd_cq, am_tc_cq, am_len_cq, am_rd_sL, am_rd_sR, am_rdL_sR, okK_211 ok, okR_211_50 ok, okT_233 ok, okL_233 ok, e51, y, not_false_eq_true, ce', x, z, rd, n9, d1]
      exact lp
    · have q : q_own eye c = c % 9 + 1 := if_neg ce
      rw [q] at lp ⊢
      simp only [e264_0, e264_1, e264_4, e264_7, e264_8, e264_11, e264_12, e264_15, e264_16, e264_19, e264_20, e264_21, e264_23, e264_24, e264_25, e264_26, e264_29, e264_30, e264_33, e264_34, e264_35, e264_37, e264_38, e264_39, e264_40, e264_42, e264_43, e264_46, e264_49, e264_50, e264_53, e264_54, e264_57, e264_58, e264_59, e264_61, e264_62, e264_63, e264_64, e264_67, e264_68, e264_71, e264_72, e264_73, e264_75, e264_76, e264_77, e264_80, e264_81, e264_84, e264_85, e264_86, e264_89, e264_92, e264_93, am_bd_some, Option.toList_some, Option.toList_none, List.cons_append, List.nil_append, am_w8_0, am_w8_1, am_w8_2, am_w8_3, am_w8_4, eq_self, or_true, true_or, am_kd_sI, am_kd_sL, am_kd_sR, am_tc_sI, am_tc_sL, am_tc_sR, am_len_sI, am_len_sL, am_len_sR, am_rfs, if_true, if_false, am_rdL_sI, am_rR_sL, am_rt_cq, am_kd_cq, am_tc_cq, am_len_cq, am_rd_sL, am_rd_sR, am_rdL_sR, okK_211 ok, okR_211_50 ok, okT_233 ok, okL_233 ok, e51, y, not_false_eq_true, ce, x, z, rd, n9, d1, d2, nI_1]
      exact lp
def L_fi (l : q_Lg) (w : Int32) : Int32 := if w = 0 then nI (q_ls (L_fit l) 36).length else if w = 1 then q_sure 0 (q_ls (L_fit l) 36) else if w = 2 then q_sure 1 (q_ls (L_fit l) 36) else if 10 ≤ w then (if q_kt (q_ls (L_fit l) 36) (w - 10) = -1 then -2 else q_kt (q_ls (L_fit l) 36) (w - 10)) else -2
def q_fiA (A : q_All) (a w : Int32) : Int32 := if 0 ≤ a ∧ a < nI (A.2.1 3) then L_fi (A.2.2.2.2.2 a.toNatClampNeg) w else -2
theorem den_cfits {A : q_All} {h : am_H} (H : q_Rel A h) (a w : Int32) : ∃ h' : am_H, q_wk h h' ∧ am_den 146 [.ref 0, .int a, .int w] h = some (some (.int (q_fiA A a w)), h') := by
  have ok := H.1
  obtain ⟨c1, c2, c3⟩ := H.cnt 3 (by decide)
  have dh := den_has h ok 3 (by decide) (A.2.1 3) c1 c2 a
  rw [show nI 3 = 3 from rfl] at dh
  have y : ¬ (1 : Int32) = 0 := by decide
  show ∃ h' : am_H, q_wk h h' ∧ am_ev 146 0 [some (.ref 0), some (.int a), some (.int w), none, none, none] [] h = _
  unfold q_fiA
  by_cases ca : 0 ≤ a ∧ a < nI (A.2.1 3)
  · rw [if_pos ca] at dh ⊢
    obtain ⟨i, hi, rfl⟩ := q_in2 c1 ca
    obtain ⟨d1, d2, -⟩ := H.lg i hi
    obtain ⟨f, r⟩ := q_lo_now ok i (by omega)
    have z : (nI i).toNatClampNeg = i := nI_clamp (by omega)
    have x : am_ix (nI i) 2 = true := am_ix_nI (by omega) (by decide)
    obtain ⟨h1, f1, s1⟩ := den_fitting (19 + 16 * i) (by omega) _ d1 h ok f d2
    have ml := q_msk_lt (L_fit (A.2.2.2.2.2 i)) 36
    have bc := den_lbc (q_msk (L_fit (A.2.2.2.2.2 i)) 36) (by omega) h1
    rw [q_pop_36] at bc
    have su := fun e => den_sure (L_fit (A.2.2.2.2.2 i)) e h1
    have bo := fun k => den_bitOf (L_fit (A.2.2.2.2.2 i)) k h1
    have s0 : am_ev 146 0 [some (.ref 0), some (.int (nI i)), some (.int w), none, none, none] [] h = am_ev 146 29 [some (.ref 0), some (.int (nI i)), some (.int w), some (.long (lN (q_msk (L_fit (A.2.2.2.2.2 i)) 36))), some (.retAddr 0), none] [] h1 := by
      simp only [e146_0, e146_1, e146_4, e146_5, e146_6, e146_9, e146_12, e146_14, e146_15, e146_16, e146_17, e146_20, e146_23, e146_24f, e146_24d, e146_24b, e146_24l, e146_24t, e146_25, e146_28, e146_30, e146_33, e146_34, e146_37, e146_38, e146_39, e146_40, e146_43, e146_44, e146_45, e146_48, e146_49, e146_50, e146_51, e146_54, e146_55, e146_58, e146_59, e146_62, e146_63, e146_64, e146_66, e146_69, e146_70, e146_71, e146_73, e146_74, e146_77, e146_80, e146_81, e146_83, e146_85, e146_86, e146_89, e146_91, e146_94, e146_96, am_bd_some, Option.toList_some, Option.toList_none, List.cons_append, List.nil_append, am_w8_0, am_w8_1, am_w8_2, am_w8_3, am_w8_4, eq_self, or_true, true_or, am_kd_sI, am_kd_sL, am_kd_sR, am_tc_sI, am_tc_sL, am_tc_sR, am_len_sI, am_len_sL, am_len_sR, am_rfs, if_true, if_false, am_rdL_sI, am_rR_sL, am_rt_cq, am_kd_cq, am_tc_cq, am_len_cq, am_rd_sL, am_rd_sR, am_rdL_sR, okK_0 ok, okR_0_0 ok, okK_1 ok, okR_1_8 ok, okT_7 ok, okL_7 ok, dh, y, not_false_eq_true, x, z, r, s1]
    refine ⟨h1, f1.wk ok, ?_⟩
    rw [s0, z]
    unfold L_fi
    by_cases w0 : w = 0
    · rw [if_pos w0, w0]
      simp only [e146_0, e146_1, e146_4, e146_5, e146_6, e146_9, e146_12, e146_14, e146_15, e146_16, e146_17, e146_20, e146_23, e146_24f, e146_24d, e146_24b, e146_24l, e146_24t, e146_25, e146_28, e146_29, e146_30, e146_33, e146_34, e146_37, e146_38, e146_39, e146_40, e146_43, e146_44, e146_45, e146_48, e146_49, e146_50, e146_51, e146_54, e146_55, e146_58, e146_59, e146_62, e146_63, e146_64, e146_66, e146_69, e146_70, e146_71, e146_73, e146_74, e146_77, e146_80, e146_81, e146_83, e146_85, e146_86, e146_89, e146_91, e146_94, e146_96, am_bd_some, Option.toList_some, Option.toList_none, List.cons_append, List.nil_append, am_w8_0, am_w8_1, am_w8_2, am_w8_3, am_w8_4, eq_self, or_true, true_or, am_kd_sI, am_kd_sL, am_kd_sR, am_tc_sI, am_tc_sL, am_tc_sR, am_len_sI, am_len_sL, am_len_sR, am_rfs, if_true, if_false, am_rdL_sI, am_rR_sL, am_rt_cq, am_kd_cq, am_tc_cq, am_len_cq, am_rd_sL, am_rd_sR, am_rdL_sR, not_true, bc]
    · rw [if_neg w0]
      by_cases w1 : w = 1
      · have y12 : (1 : Int32) = 2 ↔ False := by decide
        have y10 : (1 : Int32) = 0 ↔ False := by decide
        rw [if_pos w1, w1]
        simp only [e146_0, e146_1, e146_4, e146_5, e146_6, e146_9, e146_12, e146_14, e146_15, e146_16, e146_17, e146_20, e146_23, e146_24f, e146_24d, e146_24b, e146_24l, e146_24t, e146_25, e146_28, e146_29, e146_30, e146_33, e146_34, e146_37, e146_38, e146_39, e146_40, e146_43, e146_44, e146_45, e146_48, e146_49, e146_50, e146_51, e146_54, e146_55, e146_58, e146_59, e146_62, e146_63, e146_64, e146_66, e146_69, e146_70, e146_71, e146_73, e146_74, e146_77, e146_80, e146_81, e146_83, e146_85, e146_86, e146_89, e146_91, e146_94, e146_96, am_bd_some, Option.toList_some, Option.toList_none, List.cons_append, List.nil_append, am_w8_0, am_w8_1, am_w8_2, am_w8_3, am_w8_4, eq_self, or_true, true_or, am_kd_sI, am_kd_sL, am_kd_sR, am_tc_sI, am_tc_sL, am_tc_sR, am_len_sI, am_len_sL, am_len_sR, am_rfs, if_true, if_false, am_rdL_sI, am_rR_sL, am_rt_cq, am_kd_cq, am_tc_cq, am_len_cq, am_rd_sL, am_rd_sR, am_rdL_sR, y10, y12, not_false_eq_true, su]
      · rw [if_neg w1]
        by_cases w2 : w = 2
        · have y20 : (2 : Int32) = 0 ↔ False := by decide
          have y21 : (2 : Int32) = 1 ↔ False := by decide
          rw [if_pos w2, w2]
          simp only [e146_0, e146_1, e146_4, e146_5, e146_6, e146_9, e146_12, e146_14, e146_15, e146_16, e146_17, e146_20, e146_23, e146_24f, e146_24d, e146_24b, e146_24l, e146_24t, e146_25, e146_28, e146_29, e146_30, e146_33, e146_34, e146_37, e146_38, e146_39, e146_40, e146_43, e146_44, e146_45, e146_48, e146_49, e146_50, e146_51, e146_54, e146_55, e146_58, e146_59, e146_62, e146_63, e146_64, e146_66, e146_69, e146_70, e146_71, e146_73, e146_74, e146_77, e146_80, e146_81, e146_83, e146_85, e146_86, e146_89, e146_91, e146_94, e146_96, am_bd_some, Option.toList_some, Option.toList_none, List.cons_append, List.nil_append, am_w8_0, am_w8_1, am_w8_2, am_w8_3, am_w8_4, eq_self, or_true, true_or, am_kd_sI, am_kd_sL, am_kd_sR, am_tc_sI, am_tc_sL, am_tc_sR, am_len_sI, am_len_sL, am_len_sR, am_rfs, if_true, if_false, am_rdL_sI, am_rR_sL, am_rt_cq, am_kd_cq, am_tc_cq, am_len_cq, am_rd_sL, am_rd_sR, am_rdL_sR, y20, y21, not_false_eq_true, not_true, su]
        · rw [if_neg w2]
          by_cases w3 : w < 10
          · have w3' : ¬ (10 : Int32) ≤ w := Int32.not_le.mpr w3
            rw [if_neg w3']
            simp only [e146_0, e146_1, e146_4, e146_5, e146_6, e146_9, e146_12, e146_14, e146_15, e146_16, e146_17, e146_20, e146_23, e146_24f, e146_24d, e146_24b, e146_24l, e146_24t, e146_25, e146_28, e146_29, e146_30, e146_33, e146_34, e146_37, e146_38, e146_39, e146_40, e146_43, e146_44, e146_45, e146_48, e146_49, e146_50, e146_51, e146_54, e146_55, e146_58, e146_59, e146_62, e146_63, e146_64, e146_66, e146_69, e146_70, e146_71, e146_73, e146_74, e146_77, e146_80, e146_81, e146_83, e146_85, e146_86, e146_89, e146_91, e146_94, e146_96, am_bd_some, Option.toList_some, Option.toList_none, List.cons_append, List.nil_append, am_w8_0, am_w8_1, am_w8_2, am_w8_3, am_w8_4, eq_self, or_true, true_or, am_kd_sI, am_kd_sL, am_kd_sR, am_tc_sI, am_tc_sL, am_tc_sR, am_len_sI, am_len_sL, am_len_sR, am_rfs, if_true, if_false, am_rdL_sI, am_rR_sL, am_rt_cq, am_kd_cq, am_tc_cq, am_len_cq, am_rd_sL, am_rd_sR, am_rdL_sR, w0, w1, w2, not_false_eq_true, w3, not_true]
          · have w3' : (10 : Int32) ≤ w := Int32.not_lt.mp w3
            rw [if_pos w3']
            by_cases ck : q_kt (q_ls (L_fit (A.2.2.2.2.2 i)) 36) (w - 10) = -1
            · rw [if_pos ck]
              simp only [e146_0, e146_1, e146_4, e146_5, e146_6, e146_9, e146_12, e146_14, e146_15, e146_16, e146_17, e146_20, e146_23, e146_24f, e146_24d, e146_24b, e146_24l, e146_24t, e146_25, e146_28, e146_29, e146_30, e146_33, e146_34, e146_37, e146_38, e146_39, e146_40, e146_43, e146_44, e146_45, e146_48, e146_49, e146_50, e146_51, e146_54, e146_55, e146_58, e146_59, e146_62, e146_63, e146_64, e146_66, e146_69, e146_70, e146_71, e146_73, e146_74, e146_77, e146_80, e146_81, e146_83, e146_85, e146_86, e146_89, e146_91, e146_94, e146_96, am_bd_some, Option.toList_some, Option.toList_none, List.cons_append, List.nil_append, am_w8_0, am_w8_1, am_w8_2, am_w8_3, am_w8_4, eq_self, or_true, true_or, am_kd_sI, am_kd_sL, am_kd_sR, am_tc_sI, am_tc_sL, am_tc_sR, am_len_sI, am_len_sL, am_len_sR, am_rfs, if_true, if_false, am_rdL_sI, am_rR_sL, am_rt_cq, am_kd_cq, am_tc_cq, am_len_cq, am_rd_sL, am_rd_sR, am_rdL_sR, w0, w1, w2, not_false_eq_true, w3, bo, ck, not_true]
            · rw [if_neg ck]
              simp only [e146_0, e146_1, e146_4, e146_5, e146_6, e146_9, e146_12, e146_14, e146_15, e146_16, e146_17, e146_20, e146_23, e146_24f, e146_24d, e146_24b, e146_24l, e146_24t, e146_25, e146_28, e146_29, e146_30, e146_33, e146_34, e146_37, e146_38, e146_39, e146_40, e146_43, e146_44, e146_45, e146_48, e146_49, e146_50, e146_51, e146_54, e146_55, e146_58, e146_59, e146_62, e146_63, e146_64, e146_66, e146_69, e146_70, e146_71, e146_73, e146_74, e146_77, e146_80, e146_81, e146_83, e146_85, e146_86, e146_89, e146_91, e146_94, e146_96, am_bd_some, Option.toList_some, Option.toList_none, List.cons_append, List.nil_append, am_w8_0, am_w8_1, am_w8_2, am_w8_3, am_w8_4, eq_self, or_true, true_or, am_kd_sI, am_kd_sL, am_kd_sR, am_tc_sI, am_tc_sL, am_tc_sR, am_len_sI, am_len_sL, am_len_sR, am_rfs, if_true, if_false, am_rdL_sI, am_rR_sL, am_rt_cq, am_kd_cq, am_tc_cq, am_len_cq, am_rd_sL, am_rd_sR, am_rdL_sR, w0, w1, w2, not_false_eq_true, w3, bo, ck]
  · rw [if_neg ca] at dh ⊢
    refine ⟨h, q_wk.rf ok, ?_⟩
    simp only [e146_0, e146_1, e146_4, e146_5, e146_6, e146_9, e146_12, e146_14, e146_15, e146_16, e146_17, e146_20, e146_23, e146_24f, e146_24d, e146_24b, e146_24l, e146_24t, e146_25, e146_28, e146_30, e146_33, e146_34, e146_37, e146_38, e146_39, e146_40, e146_43, e146_44, e146_45, e146_48, e146_49, e146_50, e146_51, e146_54, e146_55, e146_58, e146_59, e146_62, e146_63, e146_64, e146_66, e146_69, e146_70, e146_71, e146_73, e146_74, e146_77, e146_80, e146_81, e146_83, e146_85, e146_86, e146_89, e146_91, e146_94, e146_96, am_bd_some, Option.toList_some, Option.toList_none, List.cons_append, List.nil_append, am_w8_0, am_w8_1, am_w8_2, am_w8_3, am_w8_4, eq_self, or_true, true_or, am_kd_sI, am_kd_sL, am_kd_sR, am_tc_sI, am_tc_sL, am_tc_sR, am_len_sI, am_len_sL, am_len_sR, am_rfs, if_true, if_false, am_rdL_sI, am_rR_sL, am_rt_cq, am_kd_cq, am_tc_cq, am_len_cq, am_rd_sL, am_rd_sR, am_rdL_sR, okK_0 ok, okR_0_0 ok, okK_1 ok, dh, not_true]
theorem q_lgM_of {A : q_All} {h : am_H} (H : q_Rel A h) (i : Nat) (hi : i < A.2.1 3) : ∃ h' : am_H, q_wk h h' ∧ q_lgM h' ∧ q_mL h' i (A.2.2.2.2.2 i) ∧ am_den 257 [.ref 211, .int (nI i)] h = some (some (.int 1), h') := by
  have ok := H.1
  obtain ⟨c1, c2, c3⟩ := H.cnt 3 (by decide)
  obtain ⟨b1, -⟩ := den_hasLog H (nI i)
  obtain ⟨h1, f1, ok1, e49, e, ew, s1⟩ := b1 ⟨nI_pos' (by omega), nI_lt hi (by omega)⟩
  obtain ⟨lk, -, lm⟩ := H.lg i hi
  exact ⟨h1, f1.wk ok, ⟨ok1, e, ew⟩, ⟨by omega, e49, lm.cg lk.1 (fun k _ => f1.2 _ _ (by decide) (by omega))⟩, s1⟩
theorem q_lgM_no {A : q_All} {h : am_H} (H : q_Rel A h) (v : Int32) (n : ¬ (0 ≤ v ∧ v < nI (A.2.1 3))) : ∃ h' : am_H, q_wk h h' ∧ am_den 257 [.ref 211, .int v] h = some (some (.int 0), h') := by
  obtain ⟨-, b0⟩ := den_hasLog H v
  refine ⟨am_sI h 211 49 v, ⟨H.1, rfl, fun a k w => ⟨?_, rfl⟩⟩, b0 n⟩
  rw [am_rd_sI, if_neg (by unfold q_told at w; omega)]
theorem q_kt_m1 (L : List Nat) (hL : ∀ c, c ∈ L → c < 36) (h36 : L.length ≤ 36) (k : Int32) : q_kt L k = -1 ↔ ¬ (0 ≤ k ∧ k < nI L.length) := by
  unfold q_kt
  by_cases c : 0 ≤ k ∧ k < nI L.length
  · rw [if_pos c]
    obtain ⟨j, hj, rfl⟩ := nI_of (Int32.not_lt.mpr c.1)
    have h2 := (nI_ltI hj (by omega)).mp c.2
    rw [nI_clamp hj]
    have : L.getD j 0 < 36 := by
      rw [List.getD_eq_getElem?_getD, List.getElem?_eq_getElem h2]
      exact hL _ (List.getElem_mem h2)
    exact ⟨fun w => absurd w (q_m1_n _ (by omega)), fun w => absurd c w⟩
  · rw [if_neg c]
    exact ⟨fun _ => c, fun _ => rfl⟩
theorem q_ls36 (P : Nat → Bool) : ∀ c, c ∈ q_ls P 36 → c < 36 := fun _ hc => (q_ls_mem hc).1
theorem den_mfits {A : q_All} {h : am_H} (H : q_Rel A h) (a w : Int32) : ∃ h' : am_H, q_wk h h' ∧ am_den 260 [.ref 211, .int a, .int w] h = some (some (.int (q_fiA A a w)), h') := by
  have ok := H.1
  have h0 := H.2.1
  obtain ⟨c1, c2, c3⟩ := H.cnt 3 (by decide)
  have y : ¬ (1 : Int32) = 0 := by decide
  show ∃ h' : am_H, q_wk h h' ∧ am_ev 260 0 [some (.ref 211), some (.int a), some (.int w)] [] h = _
  unfold q_fiA
  by_cases ca : 0 ≤ a ∧ a < nI (A.2.1 3)
  · rw [if_pos ca]
    obtain ⟨i, hi, rfl⟩ := q_in2 c1 ca
    obtain ⟨lk, -, -⟩ := H.lg i hi
    have z : (nI i).toNatClampNeg = i := nI_clamp (by omega)
    obtain ⟨h1, w1, lg, mL, s1⟩ := q_lgM_of H i hi
    have ok1 := lg.1
    obtain ⟨h2, f2, fd, s2⟩ := den_findFits i _ lk h1 lg mL
    have ok2 := (f2.lg lg).1
    have hL := q_ls36 (L_fit (A.2.2.2.2.2 i))
    have l36 := q_ls_le (L_fit (A.2.2.2.2.2 i)) 36
    have so := fun e => den_sureOf h2 ok2 _ fd hL l36 e
    have km := q_kt_m1 _ hL l36 (w - 10)
    have s0 : am_ev 260 0 [some (.ref 211), some (.int (nI i)), some (.int w)] [] h = am_ev 260 20 [some (.ref 211), some (.int (nI i)), some (.int w)] [] h2 := by
      simp only [e260_0, e260_1, e260_2, e260_5, e260_6, e260_7, e260_10, e260_13, e260_15, e260_16, e260_17, e260_21, e260_23, e260_26, e260_27, e260_29, e260_30, e260_31, e260_34, e260_37, e260_38, e260_41, e260_42, e260_44, e260_45, e260_46, e260_49, e260_51, e260_52, e260_53, e260_56, e260_57, e260_60, e260_63, e260_64, e260_65, e260_66, e260_69, e260_72, e260_73, e260_74, e260_75, e260_78, e260_79, e260_82, e260_83, e260_86, e260_89, e260_91, am_bd_some, Option.toList_some, Option.toList_none, List.cons_append, List.nil_append, am_w8_0, am_w8_1, am_w8_2, am_w8_3, am_w8_4, eq_self, or_true, true_or, am_kd_sI, am_kd_sL, am_kd_sR, am_tc_sI, am_tc_sL, am_tc_sR, am_len_sI, am_len_sL, am_len_sR, am_rfs, if_true, if_false, am_rdL_sI, am_rR_sL, am_rt_cq, am_kd_cq, am_tc_cq, am_len_cq, am_rd_sL, am_rd_sR, am_rdL_sR, okK_211 ok, am_sI_id h0, s1, y, not_false_eq_true, okK_211 ok1, s2]
    refine ⟨h2, w1.tr (f2.wk ok1), ?_⟩
    rw [s0, z]
    unfold L_fi
    by_cases w3 : w < 10
    · by_cases w0 : w = 0
      · rw [if_pos w0]
        have y3 : (0 : Int32) < 10 := by decide
        rw [w0]
        simp only [e260_0, e260_1, e260_2, e260_5, e260_6, e260_7, e260_10, e260_13, e260_15, e260_16, e260_17, e260_20, e260_21, e260_23, e260_26, e260_27, e260_29, e260_30, e260_31, e260_34, e260_37, e260_38, e260_41, e260_42, e260_44, e260_45, e260_46, e260_49, e260_51, e260_52, e260_53, e260_56, e260_57, e260_60, e260_63, e260_64, e260_65, e260_66, e260_69, e260_72, e260_73, e260_74, e260_75, e260_78, e260_79, e260_82, e260_83, e260_86, e260_89, e260_91, am_bd_some, Option.toList_some, Option.toList_none, List.cons_append, List.nil_append, am_w8_0, am_w8_1, am_w8_2, am_w8_3, am_w8_4, eq_self, or_true, true_or, am_kd_sI, am_kd_sL, am_kd_sR, am_tc_sI, am_tc_sL, am_tc_sR, am_len_sI, am_len_sL, am_len_sR, am_rfs, if_true, if_false, am_rdL_sI, am_rR_sL, am_rt_cq, am_kd_cq, am_tc_cq, am_len_cq, am_rd_sL, am_rd_sR, am_rdL_sR, y3, not_true, okK_211 ok2, fd.1]
      · rw [if_neg w0]
        by_cases w1 : w = 1
        · have y3 : (1 : Int32) < 10 := by decide
          have y10 : (1 : Int32) = 0 ↔ False := by decide
          have y12 : (1 : Int32) = 2 ↔ False := by decide
          have yr : ((1 : Int32) ≤ 1 ∧ (1 : Int32) ≤ 2) = True := by decide
          rw [if_pos w1, w1]
          simp only [e260_0, e260_1, e260_2, e260_5, e260_6, e260_7, e260_10, e260_13, e260_15, e260_16, e260_17, e260_20, e260_21, e260_23, e260_26, e260_27, e260_29, e260_30, e260_31, e260_34, e260_37, e260_38, e260_41, e260_42, e260_44, e260_45, e260_46, e260_49, e260_51, e260_52, e260_53, e260_56, e260_57, e260_60, e260_63, e260_64, e260_65, e260_66, e260_69, e260_72, e260_73, e260_74, e260_75, e260_78, e260_79, e260_82, e260_83, e260_86, e260_89, e260_91, am_bd_some, Option.toList_some, Option.toList_none, List.cons_append, List.nil_append, am_w8_0, am_w8_1, am_w8_2, am_w8_3, am_w8_4, eq_self, or_true, true_or, am_kd_sI, am_kd_sL, am_kd_sR, am_tc_sI, am_tc_sL, am_tc_sR, am_len_sI, am_len_sL, am_len_sR, am_rfs, if_true, if_false, am_rdL_sI, am_rR_sL, am_rt_cq, am_kd_cq, am_tc_cq, am_len_cq, am_rd_sL, am_rd_sR, am_rdL_sR, y3, y10, y12, not_false_eq_true, den_in, yr, okK_211 ok2, so]
        · rw [if_neg w1]
          by_cases w2 : w = 2
          · have y3 : (2 : Int32) < 10 := by decide
            have y10 : (1 : Int32) = 0 ↔ False := by decide
            have y20 : (2 : Int32) = 0 ↔ False := by decide
            have yr : ((1 : Int32) ≤ 2 ∧ (2 : Int32) ≤ 2) = True := by decide
            rw [if_pos w2, w2]
            simp only [e260_0, e260_1, e260_2, e260_5, e260_6, e260_7, e260_10, e260_13, e260_15, e260_16, e260_17, e260_20, e260_21, e260_23, e260_26, e260_27, e260_29, e260_30, e260_31, e260_34, e260_37, e260_38, e260_41, e260_42, e260_44, e260_45, e260_46, e260_49, e260_51, e260_52, e260_53, e260_56, e260_57, e260_60, e260_63, e260_64, e260_65, e260_66, e260_69, e260_72, e260_73, e260_74, e260_75, e260_78, e260_79, e260_82, e260_83, e260_86, e260_89, e260_91, am_bd_some, Option.toList_some, Option.toList_none, List.cons_append, List.nil_append, am_w8_0, am_w8_1, am_w8_2, am_w8_3, am_w8_4, eq_self, or_true, true_or, am_kd_sI, am_kd_sL, am_kd_sR, am_tc_sI, am_tc_sL, am_tc_sR, am_len_sI, am_len_sL, am_len_sR, am_rfs, if_true, if_false, am_rdL_sI, am_rR_sL, am_rt_cq, am_kd_cq, am_tc_cq, am_len_cq, am_rd_sL, am_rd_sR, am_rdL_sR, y3, y10, y20, not_false_eq_true, not_true, den_in, yr, okK_211 ok2, so]
          · have w3' : ¬ (10 : Int32) ≤ w := Int32.not_le.mpr w3
            rw [if_neg w2, if_neg w3']
            have nr : ¬ ((1 : Int32) ≤ w ∧ w ≤ 2) := fun v => by
              have a1 := Int32.le_iff_toInt_le.mp v.1
              have a2 := Int32.le_iff_toInt_le.mp v.2
              have b1 : (1 : Int32).toInt = 1 := by decide
              have b2 : (2 : Int32).toInt = 2 := by decide
              have : w.toInt = 1 ∨ w.toInt = 2 := by omega
              rcases this with q | q
              · exact w1 (Int32.toInt_inj.mp (by rw [q, b1]))
              · exact w2 (Int32.toInt_inj.mp (by rw [q, b2]))
            simp only [e260_0, e260_1, e260_2, e260_5, e260_6, e260_7, e260_10, e260_13, e260_15, e260_16, e260_17, e260_20, e260_21, e260_23, e260_26, e260_27, e260_29, e260_30, e260_31, e260_34, e260_37, e260_38, e260_41, e260_42, e260_44, e260_45, e260_46, e260_49, e260_51, e260_52, e260_53, e260_56, e260_57, e260_60, e260_63, e260_64, e260_65, e260_66, e260_69, e260_72, e260_73, e260_74, e260_75, e260_78, e260_79, e260_82, e260_83, e260_86, e260_89, e260_91, am_bd_some, Option.toList_some, Option.toList_none, List.cons_append, List.nil_append, am_w8_0, am_w8_1, am_w8_2, am_w8_3, am_w8_4, eq_self, or_true, true_or, am_kd_sI, am_kd_sL, am_kd_sR, am_tc_sI, am_tc_sL, am_tc_sR, am_len_sI, am_len_sL, am_len_sR, am_rfs, if_true, if_false, am_rdL_sI, am_rR_sL, am_rt_cq, am_kd_cq, am_tc_cq, am_len_cq, am_rd_sL, am_rd_sR, am_rdL_sR, w3, w0, not_false_eq_true, den_in, nr]
    · have w3' : (10 : Int32) ≤ w := Int32.not_lt.mp w3
      have n0 : ¬ w = 0 := fun q => by rw [q] at w3; exact w3 (by decide)
      have n1 : ¬ w = 1 := fun q => by rw [q] at w3; exact w3 (by decide)
      have n2 : ¬ w = 2 := fun q => by rw [q] at w3; exact w3 (by decide)
      rw [if_neg n0, if_neg n1, if_neg n2, if_pos w3']
      have a1 := Int32.le_iff_toInt_le.mp w3'
      have b10 : (10 : Int32).toInt = 10 := by decide
      obtain ⟨j, hj, rfl⟩ := nI_of (x := w) (fun q => by
        have := Int32.lt_iff_toInt_lt.mp q
        have b0 : (0 : Int32).toInt = 0 := by decide
        omega)
      have j10 : 10 ≤ j := by rw [nI_toInt hj, b10] at a1; omega
      have es : nI j - 10 = nI (j - 10) := pk_sub (b := 10) j10
      rw [es] at km ⊢
      have zj : (nI (j - 10)).toNatClampNeg = j - 10 := nI_clamp (by omega)
      by_cases ck : nI (j - 10) < nI (q_ls (L_fit (A.2.2.2.2.2 i)) 36).length
      · have c2 : 0 ≤ nI (j - 10) ∧ nI (j - 10) < nI (q_ls (L_fit (A.2.2.2.2.2 i)) 36).length := ⟨nI_pos' (by omega), ck⟩
        have hk := (nI_ltI (by omega) (by omega)).mp ck
        have ck' : ¬ nI (q_ls (L_fit (A.2.2.2.2.2 i)) 36).length ≤ nI (j - 10) := Int32.not_le.mpr ck
        have x : am_ix (nI (j - 10)) 36 = true := am_ix_nI (by omega) (by decide)
        have rd := fd.2 (j - 10) hk
        have ek : q_kt (q_ls (L_fit (A.2.2.2.2.2 i)) 36) (nI (j - 10)) = nI ((q_ls (L_fit (A.2.2.2.2.2 i)) 36).getD (j - 10) 0) := by
          unfold q_kt
          rw [if_pos c2, zj]
        rw [if_neg (fun q => km.mp q c2), ek]
        simp only [e260_0, e260_1, e260_2, e260_5, e260_6, e260_7, e260_10, e260_13, e260_15, e260_16, e260_17, e260_20, e260_21, e260_23, e260_26, e260_27, e260_29, e260_30, e260_31, e260_34, e260_37, e260_38, e260_41, e260_42, e260_44, e260_45, e260_46, e260_49, e260_51, e260_52, e260_53, e260_56, e260_57, e260_60, e260_63, e260_64, e260_65, e260_66, e260_69, e260_72, e260_73, e260_74, e260_75, e260_78, e260_79, e260_82, e260_83, e260_86, e260_89, e260_91, am_bd_some, Option.toList_some, Option.toList_none, List.cons_append, List.nil_append, am_w8_0, am_w8_1, am_w8_2, am_w8_3, am_w8_4, eq_self, or_true, true_or, am_kd_sI, am_kd_sL, am_kd_sR, am_tc_sI, am_tc_sL, am_tc_sR, am_len_sI, am_len_sL, am_len_sR, am_rfs, if_true, if_false, am_rdL_sI, am_rR_sL, am_rt_cq, am_kd_cq, am_tc_cq, am_len_cq, am_rd_sL, am_rd_sR, am_rdL_sR, w3, es, okK_211 ok2, okR_211_50 ok2, okT_233 ok2, okL_233 ok2, fd.1, ck', x, zj, rd]
      · have ck' : nI (q_ls (L_fit (A.2.2.2.2.2 i)) 36).length ≤ nI (j - 10) := Int32.not_lt.mp ck
        rw [if_pos (km.mpr (fun q => ck q.2))]
        simp only [e260_0, e260_1, e260_2, e260_5, e260_6, e260_7, e260_10, e260_13, e260_15, e260_16, e260_17, e260_20, e260_21, e260_23, e260_26, e260_27, e260_29, e260_30, e260_31, e260_34, e260_37, e260_38, e260_41, e260_42, e260_44, e260_45, e260_46, e260_49, e260_51, e260_52, e260_53, e260_56, e260_57, e260_60, e260_63, e260_64, e260_65, e260_66, e260_69, e260_72, e260_73, e260_74, e260_75, e260_78, e260_79, e260_82, e260_83, e260_86, e260_89, e260_91, am_bd_some, Option.toList_some, Option.toList_none, List.cons_append, List.nil_append, am_w8_0, am_w8_1, am_w8_2, am_w8_3, am_w8_4, eq_self, or_true, true_or, am_kd_sI, am_kd_sL, am_kd_sR, am_tc_sI, am_tc_sL, am_tc_sR, am_len_sI, am_len_sL, am_len_sR, am_rfs, if_true, if_false, am_rdL_sI, am_rR_sL, am_rt_cq, am_kd_cq, am_tc_cq, am_len_cq, am_rd_sL, am_rd_sR, am_rdL_sR, w3, es, okK_211 ok2, fd.1, ck']
  · rw [if_neg ca]
    obtain ⟨h1, w1, s1⟩ := q_lgM_no H a ca
    refine ⟨h1, w1, ?_⟩
    simp only [e260_0, e260_1, e260_2, e260_5, e260_6, e260_7, e260_10, e260_13, e260_15, e260_16, e260_17, e260_20, e260_21, e260_23, e260_26, e260_27, e260_29, e260_30, e260_31, e260_34, e260_37, e260_38, e260_41, e260_42, e260_44, e260_45, e260_46, e260_49, e260_51, e260_52, e260_53, e260_56, e260_57, e260_60, e260_63, e260_64, e260_65, e260_66, e260_69, e260_72, e260_73, e260_74, e260_75, e260_78, e260_79, e260_82, e260_83, e260_86, e260_89, e260_91, am_bd_some, Option.toList_some, Option.toList_none, List.cons_append, List.nil_append, am_w8_0, am_w8_1, am_w8_2, am_w8_3, am_w8_4, eq_self, or_true, true_or, am_kd_sI, am_kd_sL, am_kd_sR, am_tc_sI, am_tc_sL, am_tc_sR, am_len_sI, am_len_sL, am_len_sR, am_rfs, if_true, if_false, am_rdL_sI, am_rR_sL, am_rt_cq, am_kd_cq, am_tc_cq, am_len_cq, am_rd_sL, am_rd_sR, am_rdL_sR, okK_211 ok, am_sI_id h0, s1, not_true]
theorem ly_17 : ly_p17 := fun a w => pr_wk (fun A => q_fiA A a w) (fun A h H => den_cfits H a w) (fun A h H => den_mfits H a w)
