/-! part 9P: the class reads a line -/
theorem e26_0 {ls : List (Option Value)} {st : List Value} {h : am_H} {a : Nat} : am_ev 26 0 (some (.ref a) :: ls) (st) h = am_ev 26 1 (some (.ref a) :: ls) (.ref a :: st) h := am_ev_step (q := (1, some (.ref a) :: ls, .ref a :: st, h)) _ (.aload_n 0) 1 am_my_26 (by decide +kernel) rfl
theorem e26_0n {ls : List (Option Value)} {st : List Value} {h : am_H} : am_ev 26 0 (some .null :: ls) (st) h = am_ev 26 1 (some .null :: ls) (.null :: st) h := am_ev_step (q := (1, some .null :: ls, .null :: st, h)) _ (.aload_n 0) 1 am_my_26 (by decide +kernel) rfl
theorem e26_1 {ls : List (Option Value)} {st : List Value} {h : am_H} {l0 : Option Value} {a : Int32} : am_ev 26 1 (l0 :: some (.int a) :: ls) (st) h = am_ev 26 2 (l0 :: some (.int a) :: ls) (.int a :: st) h := am_ev_step (q := (2, l0 :: some (.int a) :: ls, .int a :: st, h)) _ (.iload_n 1) 1 am_my_26 (by decide +kernel) rfl
theorem e26_2 {ls : List (Option Value)} {st : List Value} {h : am_H} {p0 : Int32} {o : Nat} (hw : am_w8 st ≤ 8) (hk : am_kd h o = some (.inl 7)) : am_ev 26 2 ls (.int p0 :: .ref o :: st) h = am_bd (am_den 27 [.ref o, .int p0] h) (fun v h1 => am_ev 26 5 ls (v.toList ++ st) h1) := am_u_cV (idx := 97) (wn := 3002) (as := [.int p0]) am_my_26 (by decide +kernel) (Or.inl (by decide +kernel)) am_my_27 (by decide +kernel) rfl ⟨Nat.le_of_ble_eq_true rfl, rfl⟩ (by decide +kernel) hw hk
theorem e26_5 {ls : List (Option Value)} {st : List Value} {h : am_H} {l0 l1 : Option Value} {z : Option Value} {a : Nat} : am_ev 26 5 (l0 :: l1 :: z :: ls) (.ref a :: st) h = am_ev 26 6 (l0 :: l1 :: some (.ref a) :: ls) (st) h := am_ev_step (q := (6, l0 :: l1 :: some (.ref a) :: ls, st, h)) _ (.astore_n 2) 1 am_my_26 (by decide +kernel) rfl
theorem e26_5n {ls : List (Option Value)} {st : List Value} {h : am_H} {l0 l1 : Option Value} {z : Option Value} : am_ev 26 5 (l0 :: l1 :: z :: ls) (.null :: st) h = am_ev 26 6 (l0 :: l1 :: some .null :: ls) (st) h := am_ev_step (q := (6, l0 :: l1 :: some .null :: ls, st, h)) _ (.astore_n 2) 1 am_my_26 (by decide +kernel) rfl
theorem e26_6 {ls : List (Option Value)} {st : List Value} {h : am_H} {l0 l1 : Option Value} {a : Nat} : am_ev 26 6 (l0 :: l1 :: some (.ref a) :: ls) (st) h = am_ev 26 7 (l0 :: l1 :: some (.ref a) :: ls) (.ref a :: st) h := am_ev_step (q := (7, l0 :: l1 :: some (.ref a) :: ls, .ref a :: st, h)) _ (.aload_n 2) 1 am_my_26 (by decide +kernel) rfl
theorem e26_6n {ls : List (Option Value)} {st : List Value} {h : am_H} {l0 l1 : Option Value} : am_ev 26 6 (l0 :: l1 :: some .null :: ls) (st) h = am_ev 26 7 (l0 :: l1 :: some .null :: ls) (.null :: st) h := am_ev_step (q := (7, l0 :: l1 :: some .null :: ls, .null :: st, h)) _ (.aload_n 2) 1 am_my_26 (by decide +kernel) rfl
theorem e26_7 {ls : List (Option Value)} {st : List Value} {h : am_H} {a : Nat} : am_ev 26 7 (ls) (.ref a :: st) h = am_ev 26 15 (ls) (st) h := am_ev_step (q := (15, ls, st, h)) _ (.ifnonnull (8)) 3 am_my_26 (by decide +kernel) rfl
theorem e26_7n {ls : List (Option Value)} {st : List Value} {h : am_H} : am_ev 26 7 (ls) (.null :: st) h = am_ev 26 10 (ls) (st) h := am_ev_step (q := (10, ls, st, h)) _ (.ifnonnull (8)) 3 am_my_26 (by decide +kernel) rfl
theorem e26_10 {ls : List (Option Value)} {st : List Value} {h : am_H} {a : Nat} : am_ev 26 10 (some (.ref a) :: ls) (st) h = am_ev 26 11 (some (.ref a) :: ls) (.ref a :: st) h := am_ev_step (q := (11, some (.ref a) :: ls, .ref a :: st, h)) _ (.aload_n 0) 1 am_my_26 (by decide +kernel) rfl
theorem e26_10n {ls : List (Option Value)} {st : List Value} {h : am_H} : am_ev 26 10 (some .null :: ls) (st) h = am_ev 26 11 (some .null :: ls) (.null :: st) h := am_ev_step (q := (11, some .null :: ls, .null :: st, h)) _ (.aload_n 0) 1 am_my_26 (by decide +kernel) rfl
theorem e26_11 {ls : List (Option Value)} {st : List Value} {h : am_H}  {o : Nat} (hw : am_w8 st ≤ 8) (hk : am_kd h o = some (.inl 7)) : am_ev 26 11 ls (.ref o :: st) h = am_bd (am_den 40 [.ref o] h) (fun v h1 => am_ev 26 14 ls (v.toList ++ st) h1) := am_u_cV (idx := 101) (wn := 3060) (as := []) am_my_26 (by decide +kernel) (Or.inl (by decide +kernel)) am_my_40 (by decide +kernel) rfl ⟨Nat.le_of_ble_eq_true rfl, rfl⟩ (by decide +kernel) hw hk
theorem e26_14 {ls : List (Option Value)} {h : am_H} : am_ev 26 14 ls [] h = some (none, h) := am_u_rtV am_my_26 (by decide +kernel) rfl
theorem e26_15 {ls : List (Option Value)} {st : List Value} {h : am_H} {a : Nat} : am_ev 26 15 (some (.ref a) :: ls) (st) h = am_ev 26 16 (some (.ref a) :: ls) (.ref a :: st) h := am_ev_step (q := (16, some (.ref a) :: ls, .ref a :: st, h)) _ (.aload_n 0) 1 am_my_26 (by decide +kernel) rfl
theorem e26_15n {ls : List (Option Value)} {st : List Value} {h : am_H} : am_ev 26 15 (some .null :: ls) (st) h = am_ev 26 16 (some .null :: ls) (.null :: st) h := am_ev_step (q := (16, some .null :: ls, .null :: st, h)) _ (.aload_n 0) 1 am_my_26 (by decide +kernel) rfl
theorem e26_16 {ls : List (Option Value)} {st : List Value} {h : am_H} {l0 l1 : Option Value} {a : Nat} : am_ev 26 16 (l0 :: l1 :: some (.ref a) :: ls) (st) h = am_ev 26 17 (l0 :: l1 :: some (.ref a) :: ls) (.ref a :: st) h := am_ev_step (q := (17, l0 :: l1 :: some (.ref a) :: ls, .ref a :: st, h)) _ (.aload_n 2) 1 am_my_26 (by decide +kernel) rfl
theorem e26_16n {ls : List (Option Value)} {st : List Value} {h : am_H} {l0 l1 : Option Value} : am_ev 26 16 (l0 :: l1 :: some .null :: ls) (st) h = am_ev 26 17 (l0 :: l1 :: some .null :: ls) (.null :: st) h := am_ev_step (q := (17, l0 :: l1 :: some .null :: ls, .null :: st, h)) _ (.aload_n 2) 1 am_my_26 (by decide +kernel) rfl
theorem e26_17 {ls : List (Option Value)} {st : List Value} {h : am_H} {p0 : Nat} {o : Nat} (hw : am_w8 st ≤ 8) (hk : am_kd h o = some (.inl 7)) : am_ev 26 17 ls (.ref p0 :: .ref o :: st) h = am_bd (am_den 41 [.ref o, .ref p0] h) (fun v h1 => am_ev 26 20 ls (v.toList ++ st) h1) := am_u_cV (idx := 104) (wn := 3064) (as := [.ref p0]) am_my_26 (by decide +kernel) (Or.inl (by decide +kernel)) am_my_41 (by decide +kernel) rfl ⟨Nat.le_of_ble_eq_true rfl, rfl⟩ (by decide +kernel) hw hk
theorem e26_20 {ls : List (Option Value)} {st : List Value} {h : am_H} {a : Int32} : am_ev 26 20 ls (.int a :: st) h = if a = 0 then am_ev 26 32 ls st h else am_ev 26 23 ls st h := am_u_if1 (c := .eq) (off := 12) am_my_26 (by decide +kernel) (by decide)
theorem e26_23 {ls : List (Option Value)} {st : List Value} {h : am_H} {a : Nat} : am_ev 26 23 (some (.ref a) :: ls) (st) h = am_ev 26 24 (some (.ref a) :: ls) (.ref a :: st) h := am_ev_step (q := (24, some (.ref a) :: ls, .ref a :: st, h)) _ (.aload_n 0) 1 am_my_26 (by decide +kernel) rfl
theorem e26_23n {ls : List (Option Value)} {st : List Value} {h : am_H} : am_ev 26 23 (some .null :: ls) (st) h = am_ev 26 24 (some .null :: ls) (.null :: st) h := am_ev_step (q := (24, some .null :: ls, .null :: st, h)) _ (.aload_n 0) 1 am_my_26 (by decide +kernel) rfl
theorem e26_24 {ls : List (Option Value)} {st : List Value} {h : am_H} : am_ev 26 24 (ls) (st) h = am_ev 26 25 (ls) (.int (3) :: st) h := am_ev_step (q := (25, ls, .int (3) :: st, h)) _ (.iconst (3)) 1 am_my_26 (by decide +kernel) rfl
theorem e26_25 {ls : List (Option Value)} {st : List Value} {h : am_H} {a : Nat} : am_ev 26 25 (some (.ref a) :: ls) (st) h = am_ev 26 26 (some (.ref a) :: ls) (.ref a :: st) h := am_ev_step (q := (26, some (.ref a) :: ls, .ref a :: st, h)) _ (.aload_n 0) 1 am_my_26 (by decide +kernel) rfl
theorem e26_25n {ls : List (Option Value)} {st : List Value} {h : am_H} : am_ev 26 25 (some .null :: ls) (st) h = am_ev 26 26 (some .null :: ls) (.null :: st) h := am_ev_step (q := (26, some .null :: ls, .null :: st, h)) _ (.aload_n 0) 1 am_my_26 (by decide +kernel) rfl
theorem e26_26 {ls : List (Option Value)} {st : List Value} {h : am_H} {o : Nat} (hk : am_kd h o = some (.inl 7)) : am_ev 26 26 ls (.ref o :: st) h = am_ev 26 29 ls (.int (h.1 o 11) :: st) h := am_u_gfI (idx := 108) (wn := 2009) am_my_26 (by decide +kernel) (by decide +kernel) (by decide +kernel) hk
theorem e26_29 {ls : List (Option Value)} {st : List Value} {h : am_H} {p0 : Int32} {p1 : Int32} {o : Nat} (hw : am_w8 st ≤ 8) (hk : am_kd h o = some (.inl 7)) : am_ev 26 29 ls (.int p1 :: .int p0 :: .ref o :: st) h = am_bd (am_den 43 [.ref o, .int p0, .int p1] h) (fun v h1 => am_ev 26 32 ls (v.toList ++ st) h1) := am_u_cV (idx := 83) (wn := 3076) (as := [.int p0, .int p1]) am_my_26 (by decide +kernel) (Or.inl (by decide +kernel)) am_my_43 (by decide +kernel) rfl ⟨Nat.le_of_ble_eq_true rfl, rfl⟩ (by decide +kernel) hw hk
theorem e26_32 {ls : List (Option Value)} {st : List Value} {h : am_H} : am_ev 26 32 (ls) (st) h = am_ev 26 33 (ls) (.int (0) :: st) h := am_ev_step (q := (33, ls, .int (0) :: st, h)) _ (.iconst (0)) 1 am_my_26 (by decide +kernel) rfl
theorem e26_33 {ls : List (Option Value)} {st : List Value} {h : am_H} {l0 l1 l2 : Option Value} {z : Option Value} {a : Int32} : am_ev 26 33 (l0 :: l1 :: l2 :: z :: ls) (.int a :: st) h = am_ev 26 34 (l0 :: l1 :: l2 :: some (.int a) :: ls) (st) h := am_ev_step (q := (34, l0 :: l1 :: l2 :: some (.int a) :: ls, st, h)) _ (.istore_n 3) 1 am_my_26 (by decide +kernel) rfl
theorem e26_34 {ls : List (Option Value)} {st : List Value} {h : am_H} {l0 l1 l2 : Option Value} {a : Int32} : am_ev 26 34 (l0 :: l1 :: l2 :: some (.int a) :: ls) (st) h = am_ev 26 35 (l0 :: l1 :: l2 :: some (.int a) :: ls) (.int a :: st) h := am_ev_step (q := (35, l0 :: l1 :: l2 :: some (.int a) :: ls, .int a :: st, h)) _ (.iload_n 3) 1 am_my_26 (by decide +kernel) rfl
theorem e26_35 {ls : List (Option Value)} {st : List Value} {h : am_H} {l0 l1 : Option Value} {a : Nat} : am_ev 26 35 (l0 :: l1 :: some (.ref a) :: ls) (st) h = am_ev 26 36 (l0 :: l1 :: some (.ref a) :: ls) (.ref a :: st) h := am_ev_step (q := (36, l0 :: l1 :: some (.ref a) :: ls, .ref a :: st, h)) _ (.aload_n 2) 1 am_my_26 (by decide +kernel) rfl
theorem e26_35n {ls : List (Option Value)} {st : List Value} {h : am_H} {l0 l1 : Option Value} : am_ev 26 35 (l0 :: l1 :: some .null :: ls) (st) h = am_ev 26 36 (l0 :: l1 :: some .null :: ls) (.null :: st) h := am_ev_step (q := (36, l0 :: l1 :: some .null :: ls, .null :: st, h)) _ (.aload_n 2) 1 am_my_26 (by decide +kernel) rfl
theorem e26_36 {ls : List (Option Value)} {st : List Value} {h : am_H} {o : Nat} : am_ev 26 36 ls (.ref o :: st) h = am_ob (kOv o 16) (fun v => am_ev 26 39 ls (v :: st) h) := am_u_gfK (idx := 111) (wn := 8139) am_my_26 (by decide +kernel) (by decide +kernel) (by decide +kernel)
theorem e26_39 {ls : List (Option Value)} {st : List Value} {h : am_H}  {o : Nat} (hw : am_w8 st ≤ 8) (ho : o ∈ am_kS) : am_ev 26 39 ls (.ref o :: st) h = am_bd (am_den 29 [.ref o] h) (fun v h1 => am_ev 26 42 ls (v.toList ++ st) h1) := am_u_cK (idx := 117) (wn := 3012) (as := []) am_my_26 (by decide +kernel) (by decide +kernel) am_my_29 (by decide +kernel) rfl ⟨Nat.le_of_ble_eq_true rfl, rfl⟩ (by decide +kernel) hw ho
theorem e26_42 {ls : List (Option Value)} {st : List Value} {h : am_H} {a b : Int32} : am_ev 26 42 ls (.int b :: .int a :: st) h = if b ≤ a then am_ev 26 111 ls st h else am_ev 26 45 ls st h := am_u_if2 (c := .ge) (off := 69) am_my_26 (by decide +kernel) (by decide)
theorem e26_45 {ls : List (Option Value)} {st : List Value} {h : am_H} {l0 l1 l2 : Option Value} {a : Int32} : am_ev 26 45 (l0 :: l1 :: l2 :: some (.int a) :: ls) (st) h = am_ev 26 46 (l0 :: l1 :: l2 :: some (.int a) :: ls) (.int a :: st) h := am_ev_step (q := (46, l0 :: l1 :: l2 :: some (.int a) :: ls, .int a :: st, h)) _ (.iload_n 3) 1 am_my_26 (by decide +kernel) rfl
theorem e26_46 {ls : List (Option Value)} {st : List Value} {h : am_H} {a : Nat} : am_ev 26 46 (some (.ref a) :: ls) (st) h = am_ev 26 47 (some (.ref a) :: ls) (.ref a :: st) h := am_ev_step (q := (47, some (.ref a) :: ls, .ref a :: st, h)) _ (.aload_n 0) 1 am_my_26 (by decide +kernel) rfl
theorem e26_46n {ls : List (Option Value)} {st : List Value} {h : am_H} : am_ev 26 46 (some .null :: ls) (st) h = am_ev 26 47 (some .null :: ls) (.null :: st) h := am_ev_step (q := (47, some .null :: ls, .null :: st, h)) _ (.aload_n 0) 1 am_my_26 (by decide +kernel) rfl
theorem e26_47 {ls : List (Option Value)} {st : List Value} {h : am_H} {o : Nat} (hk : am_kd h o = some (.inl 7)) : am_ev 26 47 ls (.ref o :: st) h = am_ev 26 50 ls (va_rf (h.2.2.1 o 6) :: st) h := am_u_gfR (idx := 39) (wn := 2004) (a := 0) am_my_26 (by decide +kernel) (by decide +kernel) (by decide +kernel) hk
theorem e26_50k {ls : List (Option Value)} {st : List Value} {h : am_H} {a : Nat} (ht : am_tc h a = none) (hc : ¬ a = am_CB) : am_ev 26 50 ls (.ref a :: st) h = am_ob (kAl a) (fun n => am_ev 26 51 ls (.int (Int32.ofNat n) :: st) h) := am_u_alK am_my_26 (by decide +kernel) ht hc
theorem e26_50 {ls : List (Option Value)} {st : List Value} {h : am_H} {a : Nat} {tc : Nat} (ht : am_tc h a = some tc) (h8 : tc ≤ 8) : am_ev 26 50 ls (.ref a :: st) h = am_ev 26 51 ls (.int (Int32.ofNat (am_len h a)) :: st) h := am_u_al am_my_26 (by decide +kernel) ht h8
theorem e26_51 {ls : List (Option Value)} {st : List Value} {h : am_H} {a b : Int32} : am_ev 26 51 ls (.int b :: .int a :: st) h = if b ≤ a then am_ev 26 111 ls st h else am_ev 26 54 ls st h := am_u_if2 (c := .ge) (off := 60) am_my_26 (by decide +kernel) (by decide)
theorem e26_54 {ls : List (Option Value)} {st : List Value} {h : am_H} {a : Nat} : am_ev 26 54 (some (.ref a) :: ls) (st) h = am_ev 26 55 (some (.ref a) :: ls) (.ref a :: st) h := am_ev_step (q := (55, some (.ref a) :: ls, .ref a :: st, h)) _ (.aload_n 0) 1 am_my_26 (by decide +kernel) rfl
theorem e26_54n {ls : List (Option Value)} {st : List Value} {h : am_H} : am_ev 26 54 (some .null :: ls) (st) h = am_ev 26 55 (some .null :: ls) (.null :: st) h := am_ev_step (q := (55, some .null :: ls, .null :: st, h)) _ (.aload_n 0) 1 am_my_26 (by decide +kernel) rfl
theorem e26_55 {ls : List (Option Value)} {st : List Value} {h : am_H}  {o : Nat} (hw : am_w8 st ≤ 8) (hk : am_kd h o = some (.inl 7)) : am_ev 26 55 ls (.ref o :: st) h = am_bd (am_den 21 [.ref o] h) (fun v h1 => am_ev 26 58 ls (v.toList ++ st) h1) := am_u_cV (idx := 69) (wn := 2220) (as := []) am_my_26 (by decide +kernel) (Or.inl (by decide +kernel)) am_my_21 (by decide +kernel) rfl ⟨Nat.le_of_ble_eq_true rfl, rfl⟩ (by decide +kernel) hw hk
theorem e26_58 {ls : List (Option Value)} {st : List Value} {h : am_H} {a : Nat} : am_ev 26 58 (some (.ref a) :: ls) (st) h = am_ev 26 59 (some (.ref a) :: ls) (.ref a :: st) h := am_ev_step (q := (59, some (.ref a) :: ls, .ref a :: st, h)) _ (.aload_n 0) 1 am_my_26 (by decide +kernel) rfl
theorem e26_58n {ls : List (Option Value)} {st : List Value} {h : am_H} : am_ev 26 58 (some .null :: ls) (st) h = am_ev 26 59 (some .null :: ls) (.null :: st) h := am_ev_step (q := (59, some .null :: ls, .null :: st, h)) _ (.aload_n 0) 1 am_my_26 (by decide +kernel) rfl
theorem e26_59 {ls : List (Option Value)} {st : List Value} {h : am_H} {o : Nat} (hk : am_kd h o = some (.inl 7)) : am_ev 26 59 ls (.ref o :: st) h = am_ev 26 62 ls (.int (h.1 o 10) :: st) h := am_u_gfI (idx := 72) (wn := 2008) am_my_26 (by decide +kernel) (by decide +kernel) (by decide +kernel) hk
theorem e26_62 {ls : List (Option Value)} {st : List Value} {h : am_H} : am_ev 26 62 (ls) (st) h = am_ev 26 63 (ls) (.int (2) :: st) h := am_ev_step (q := (63, ls, .int (2) :: st, h)) _ (.iconst (2)) 1 am_my_26 (by decide +kernel) rfl
theorem e26_63 {ls : List (Option Value)} {st : List Value} {h : am_H} {a b : Int32} : am_ev 26 63 ls (.int b :: .int a :: st) h = if a = b then am_ev 26 71 ls st h else am_ev 26 66 ls st h := am_u_if2 (c := .eq) (off := 8) am_my_26 (by decide +kernel) (by decide)
theorem e26_66 {ls : List (Option Value)} {st : List Value} {h : am_H} {a : Nat} : am_ev 26 66 (some (.ref a) :: ls) (st) h = am_ev 26 67 (some (.ref a) :: ls) (.ref a :: st) h := am_ev_step (q := (67, some (.ref a) :: ls, .ref a :: st, h)) _ (.aload_n 0) 1 am_my_26 (by decide +kernel) rfl
theorem e26_66n {ls : List (Option Value)} {st : List Value} {h : am_H} : am_ev 26 66 (some .null :: ls) (st) h = am_ev 26 67 (some .null :: ls) (.null :: st) h := am_ev_step (q := (67, some .null :: ls, .null :: st, h)) _ (.aload_n 0) 1 am_my_26 (by decide +kernel) rfl
theorem e26_67 {ls : List (Option Value)} {st : List Value} {h : am_H}  {o : Nat} (hw : am_w8 st ≤ 8) (hk : am_kd h o = some (.inl 7)) : am_ev 26 67 ls (.ref o :: st) h = am_bd (am_den 40 [.ref o] h) (fun v h1 => am_ev 26 70 ls (v.toList ++ st) h1) := am_u_cV (idx := 101) (wn := 3060) (as := []) am_my_26 (by decide +kernel) (Or.inl (by decide +kernel)) am_my_40 (by decide +kernel) rfl ⟨Nat.le_of_ble_eq_true rfl, rfl⟩ (by decide +kernel) hw hk
theorem e26_70 {ls : List (Option Value)} {h : am_H} : am_ev 26 70 ls [] h = some (none, h) := am_u_rtV am_my_26 (by decide +kernel) rfl
theorem e26_71 {ls : List (Option Value)} {st : List Value} {h : am_H} {a : Nat} : am_ev 26 71 (some (.ref a) :: ls) (st) h = am_ev 26 72 (some (.ref a) :: ls) (.ref a :: st) h := am_ev_step (q := (72, some (.ref a) :: ls, .ref a :: st, h)) _ (.aload_n 0) 1 am_my_26 (by decide +kernel) rfl
theorem e26_71n {ls : List (Option Value)} {st : List Value} {h : am_H} : am_ev 26 71 (some .null :: ls) (st) h = am_ev 26 72 (some .null :: ls) (.null :: st) h := am_ev_step (q := (72, some .null :: ls, .null :: st, h)) _ (.aload_n 0) 1 am_my_26 (by decide +kernel) rfl
theorem e26_72 {ls : List (Option Value)} {st : List Value} {h : am_H} {o : Nat} (hk : am_kd h o = some (.inl 7)) : am_ev 26 72 ls (.ref o :: st) h = am_ev 26 75 ls (va_rf (h.2.2.1 o 6) :: st) h := am_u_gfR (idx := 39) (wn := 2004) (a := 0) am_my_26 (by decide +kernel) (by decide +kernel) (by decide +kernel) hk
theorem e26_75 {ls : List (Option Value)} {st : List Value} {h : am_H} {l0 l1 l2 : Option Value} {a : Int32} : am_ev 26 75 (l0 :: l1 :: l2 :: some (.int a) :: ls) (st) h = am_ev 26 76 (l0 :: l1 :: l2 :: some (.int a) :: ls) (.int a :: st) h := am_ev_step (q := (76, l0 :: l1 :: l2 :: some (.int a) :: ls, .int a :: st, h)) _ (.iload_n 3) 1 am_my_26 (by decide +kernel) rfl
theorem e26_76 {ls : List (Option Value)} {st : List Value} {h : am_H} {a : Nat} : am_ev 26 76 (some (.ref a) :: ls) (st) h = am_ev 26 77 (some (.ref a) :: ls) (.ref a :: st) h := am_ev_step (q := (77, some (.ref a) :: ls, .ref a :: st, h)) _ (.aload_n 0) 1 am_my_26 (by decide +kernel) rfl
theorem e26_76n {ls : List (Option Value)} {st : List Value} {h : am_H} : am_ev 26 76 (some .null :: ls) (st) h = am_ev 26 77 (some .null :: ls) (.null :: st) h := am_ev_step (q := (77, some .null :: ls, .null :: st, h)) _ (.aload_n 0) 1 am_my_26 (by decide +kernel) rfl
theorem e26_77 {ls : List (Option Value)} {st : List Value} {h : am_H} {o : Nat} (hk : am_kd h o = some (.inl 7)) : am_ev 26 77 ls (.ref o :: st) h = am_ev 26 80 ls (.int (h.1 o 12) :: st) h := am_u_gfI (idx := 121) (wn := 2010) am_my_26 (by decide +kernel) (by decide +kernel) (by decide +kernel) hk
theorem e26_80 {ls : List (Option Value)} {st : List Value} {h : am_H} {v i : Int32} {a : Nat} (ht : am_tc h a = some 0) : am_ev 26 80 ls (.int v :: .int i :: .ref a :: st) h = if am_ix i (am_len h a) = true then am_ev 26 81 ls st (am_sI h a i.toNatClampNeg v) else none := am_u_wI am_my_26 (by decide +kernel) ht
theorem e26_81 {ls : List (Option Value)} {st : List Value} {h : am_H} {a : Nat} : am_ev 26 81 (some (.ref a) :: ls) (st) h = am_ev 26 82 (some (.ref a) :: ls) (.ref a :: st) h := am_ev_step (q := (82, some (.ref a) :: ls, .ref a :: st, h)) _ (.aload_n 0) 1 am_my_26 (by decide +kernel) rfl
theorem e26_81n {ls : List (Option Value)} {st : List Value} {h : am_H} : am_ev 26 81 (some .null :: ls) (st) h = am_ev 26 82 (some .null :: ls) (.null :: st) h := am_ev_step (q := (82, some .null :: ls, .null :: st, h)) _ (.aload_n 0) 1 am_my_26 (by decide +kernel) rfl
theorem e26_82 {ls : List (Option Value)} {st : List Value} {h : am_H} {l0 l1 : Option Value} {a : Nat} : am_ev 26 82 (l0 :: l1 :: some (.ref a) :: ls) (st) h = am_ev 26 83 (l0 :: l1 :: some (.ref a) :: ls) (.ref a :: st) h := am_ev_step (q := (83, l0 :: l1 :: some (.ref a) :: ls, .ref a :: st, h)) _ (.aload_n 2) 1 am_my_26 (by decide +kernel) rfl
theorem e26_82n {ls : List (Option Value)} {st : List Value} {h : am_H} {l0 l1 : Option Value} : am_ev 26 82 (l0 :: l1 :: some .null :: ls) (st) h = am_ev 26 83 (l0 :: l1 :: some .null :: ls) (.null :: st) h := am_ev_step (q := (83, l0 :: l1 :: some .null :: ls, .null :: st, h)) _ (.aload_n 2) 1 am_my_26 (by decide +kernel) rfl
theorem e26_83 {ls : List (Option Value)} {st : List Value} {h : am_H} {o : Nat} : am_ev 26 83 ls (.ref o :: st) h = am_ob (kOv o 16) (fun v => am_ev 26 86 ls (v :: st) h) := am_u_gfK (idx := 111) (wn := 8139) am_my_26 (by decide +kernel) (by decide +kernel) (by decide +kernel)
theorem e26_86 {ls : List (Option Value)} {st : List Value} {h : am_H} {l0 l1 l2 : Option Value} {a : Int32} : am_ev 26 86 (l0 :: l1 :: l2 :: some (.int a) :: ls) (st) h = am_ev 26 87 (l0 :: l1 :: l2 :: some (.int a) :: ls) (.int a :: st) h := am_ev_step (q := (87, l0 :: l1 :: l2 :: some (.int a) :: ls, .int a :: st, h)) _ (.iload_n 3) 1 am_my_26 (by decide +kernel) rfl
theorem e26_87 {ls : List (Option Value)} {st : List Value} {h : am_H} {p0 : Int32} {o : Nat} (hw : am_w8 st ≤ 8) (ho : o ∈ am_kS) : am_ev 26 87 ls (.int p0 :: .ref o :: st) h = am_bd (am_den 31 [.ref o, .int p0] h) (fun v h1 => am_ev 26 90 ls (v.toList ++ st) h1) := am_u_cK (idx := 124) (wn := 3022) (as := [.int p0]) am_my_26 (by decide +kernel) (by decide +kernel) am_my_31 (by decide +kernel) rfl ⟨Nat.le_of_ble_eq_true rfl, rfl⟩ (by decide +kernel) hw ho
theorem e26_90 {ls : List (Option Value)} {st : List Value} {h : am_H} {p0 : Int32} {o : Nat} (hw : am_w8 st ≤ 8) (hk : am_kd h o = some (.inl 7)) : am_ev 26 90 ls (.int p0 :: .ref o :: st) h = am_bd (am_den 44 [.ref o, .int p0] h) (fun v h1 => am_ev 26 93 ls (v.toList ++ st) h1) := am_u_cV (idx := 128) (wn := 3080) (as := [.int p0]) am_my_26 (by decide +kernel) (Or.inl (by decide +kernel)) am_my_44 (by decide +kernel) rfl ⟨Nat.le_of_ble_eq_true rfl, rfl⟩ (by decide +kernel) hw hk
theorem e26_93 {ls : List (Option Value)} {st : List Value} {h : am_H} {a : Int32} : am_ev 26 93 ls (.int a :: st) h = if ¬ a = 0 then am_ev 26 105 ls st h else am_ev 26 96 ls st h := am_u_if1 (c := .ne) (off := 12) am_my_26 (by decide +kernel) (by decide)
theorem e26_96 {ls : List (Option Value)} {st : List Value} {h : am_H} {a : Nat} : am_ev 26 96 (some (.ref a) :: ls) (st) h = am_ev 26 97 (some (.ref a) :: ls) (.ref a :: st) h := am_ev_step (q := (97, some (.ref a) :: ls, .ref a :: st, h)) _ (.aload_n 0) 1 am_my_26 (by decide +kernel) rfl
theorem e26_96n {ls : List (Option Value)} {st : List Value} {h : am_H} : am_ev 26 96 (some .null :: ls) (st) h = am_ev 26 97 (some .null :: ls) (.null :: st) h := am_ev_step (q := (97, some .null :: ls, .null :: st, h)) _ (.aload_n 0) 1 am_my_26 (by decide +kernel) rfl
theorem e26_97 {ls : List (Option Value)} {st : List Value} {h : am_H} : am_ev 26 97 (ls) (st) h = am_ev 26 98 (ls) (.int (2) :: st) h := am_ev_step (q := (98, ls, .int (2) :: st, h)) _ (.iconst (2)) 1 am_my_26 (by decide +kernel) rfl
theorem e26_98 {ls : List (Option Value)} {st : List Value} {h : am_H} {a : Nat} : am_ev 26 98 (some (.ref a) :: ls) (st) h = am_ev 26 99 (some (.ref a) :: ls) (.ref a :: st) h := am_ev_step (q := (99, some (.ref a) :: ls, .ref a :: st, h)) _ (.aload_n 0) 1 am_my_26 (by decide +kernel) rfl
theorem e26_98n {ls : List (Option Value)} {st : List Value} {h : am_H} : am_ev 26 98 (some .null :: ls) (st) h = am_ev 26 99 (some .null :: ls) (.null :: st) h := am_ev_step (q := (99, some .null :: ls, .null :: st, h)) _ (.aload_n 0) 1 am_my_26 (by decide +kernel) rfl
theorem e26_99 {ls : List (Option Value)} {st : List Value} {h : am_H} {o : Nat} (hk : am_kd h o = some (.inl 7)) : am_ev 26 99 ls (.ref o :: st) h = am_ev 26 102 ls (.int (h.1 o 11) :: st) h := am_u_gfI (idx := 108) (wn := 2009) am_my_26 (by decide +kernel) (by decide +kernel) (by decide +kernel) hk
theorem e26_102 {ls : List (Option Value)} {st : List Value} {h : am_H} {p0 : Int32} {p1 : Int32} {o : Nat} (hw : am_w8 st ≤ 8) (hk : am_kd h o = some (.inl 7)) : am_ev 26 102 ls (.int p1 :: .int p0 :: .ref o :: st) h = am_bd (am_den 43 [.ref o, .int p0, .int p1] h) (fun v h1 => am_ev 26 105 ls (v.toList ++ st) h1) := am_u_cV (idx := 83) (wn := 3076) (as := [.int p0, .int p1]) am_my_26 (by decide +kernel) (Or.inl (by decide +kernel)) am_my_43 (by decide +kernel) rfl ⟨Nat.le_of_ble_eq_true rfl, rfl⟩ (by decide +kernel) hw hk
theorem e26_105 {ls : List (Option Value)} {st : List Value} {h : am_H} {l0 l1 l2 : Option Value} {a : Int32} : am_ev 26 105 (l0 :: l1 :: l2 :: some (.int a) :: ls) (st) h = am_ev 26 108 (l0 :: l1 :: l2 :: some (.int (a + (1))) :: ls) (st) h := am_ev_step (q := (108, l0 :: l1 :: l2 :: some (.int (a + (1))) :: ls, st, h)) _ (.iinc 3 (1)) 3 am_my_26 (by decide +kernel) rfl
theorem e26_108 {ls : List (Option Value)} {st : List Value} {h : am_H} : am_ev 26 108 (ls) (st) h = am_ev 26 34 (ls) (st) h := am_ev_step (q := (34, ls, st, h)) _ (.goto (-74)) 3 am_my_26 (by decide +kernel) rfl
theorem e26_111 {ls : List (Option Value)} {st : List Value} {h : am_H} {a : Nat} : am_ev 26 111 (some (.ref a) :: ls) (st) h = am_ev 26 112 (some (.ref a) :: ls) (.ref a :: st) h := am_ev_step (q := (112, some (.ref a) :: ls, .ref a :: st, h)) _ (.aload_n 0) 1 am_my_26 (by decide +kernel) rfl
theorem e26_111n {ls : List (Option Value)} {st : List Value} {h : am_H} : am_ev 26 111 (some .null :: ls) (st) h = am_ev 26 112 (some .null :: ls) (.null :: st) h := am_ev_step (q := (112, some .null :: ls, .null :: st, h)) _ (.aload_n 0) 1 am_my_26 (by decide +kernel) rfl
theorem e26_112 {ls : List (Option Value)} {st : List Value} {h : am_H}  {o : Nat} (hw : am_w8 st ≤ 8) (hk : am_kd h o = some (.inl 7)) : am_ev 26 112 ls (.ref o :: st) h = am_bd (am_den 21 [.ref o] h) (fun v h1 => am_ev 26 115 ls (v.toList ++ st) h1) := am_u_cV (idx := 69) (wn := 2220) (as := []) am_my_26 (by decide +kernel) (Or.inl (by decide +kernel)) am_my_21 (by decide +kernel) rfl ⟨Nat.le_of_ble_eq_true rfl, rfl⟩ (by decide +kernel) hw hk
theorem e26_115 {ls : List (Option Value)} {st : List Value} {h : am_H} {a : Nat} : am_ev 26 115 (some (.ref a) :: ls) (st) h = am_ev 26 116 (some (.ref a) :: ls) (.ref a :: st) h := am_ev_step (q := (116, some (.ref a) :: ls, .ref a :: st, h)) _ (.aload_n 0) 1 am_my_26 (by decide +kernel) rfl
theorem e26_115n {ls : List (Option Value)} {st : List Value} {h : am_H} : am_ev 26 115 (some .null :: ls) (st) h = am_ev 26 116 (some .null :: ls) (.null :: st) h := am_ev_step (q := (116, some .null :: ls, .null :: st, h)) _ (.aload_n 0) 1 am_my_26 (by decide +kernel) rfl
theorem e26_116 {ls : List (Option Value)} {st : List Value} {h : am_H} {o : Nat} (hk : am_kd h o = some (.inl 7)) : am_ev 26 116 ls (.ref o :: st) h = am_ev 26 119 ls (.int (h.1 o 10) :: st) h := am_u_gfI (idx := 72) (wn := 2008) am_my_26 (by decide +kernel) (by decide +kernel) (by decide +kernel) hk
theorem e26_119 {ls : List (Option Value)} {st : List Value} {h : am_H} : am_ev 26 119 (ls) (st) h = am_ev 26 120 (ls) (.int (3) :: st) h := am_ev_step (q := (120, ls, .int (3) :: st, h)) _ (.iconst (3)) 1 am_my_26 (by decide +kernel) rfl
theorem e26_120 {ls : List (Option Value)} {st : List Value} {h : am_H} {a b : Int32} : am_ev 26 120 ls (.int b :: .int a :: st) h = if a = b then am_ev 26 130 ls st h else am_ev 26 123 ls st h := am_u_if2 (c := .eq) (off := 10) am_my_26 (by decide +kernel) (by decide)
theorem e26_123 {ls : List (Option Value)} {st : List Value} {h : am_H} {a : Nat} : am_ev 26 123 (some (.ref a) :: ls) (st) h = am_ev 26 124 (some (.ref a) :: ls) (.ref a :: st) h := am_ev_step (q := (124, some (.ref a) :: ls, .ref a :: st, h)) _ (.aload_n 0) 1 am_my_26 (by decide +kernel) rfl
theorem e26_123n {ls : List (Option Value)} {st : List Value} {h : am_H} : am_ev 26 123 (some .null :: ls) (st) h = am_ev 26 124 (some .null :: ls) (.null :: st) h := am_ev_step (q := (124, some .null :: ls, .null :: st, h)) _ (.aload_n 0) 1 am_my_26 (by decide +kernel) rfl
theorem e26_124 {ls : List (Option Value)} {st : List Value} {h : am_H}  {o : Nat} (hw : am_w8 st ≤ 8) (hk : am_kd h o = some (.inl 7)) : am_ev 26 124 ls (.ref o :: st) h = am_bd (am_den 40 [.ref o] h) (fun v h1 => am_ev 26 127 ls (v.toList ++ st) h1) := am_u_cV (idx := 101) (wn := 3060) (as := []) am_my_26 (by decide +kernel) (Or.inl (by decide +kernel)) am_my_40 (by decide +kernel) rfl ⟨Nat.le_of_ble_eq_true rfl, rfl⟩ (by decide +kernel) hw hk
theorem e26_127 {ls : List (Option Value)} {st : List Value} {h : am_H} : am_ev 26 127 (ls) (st) h = am_ev 26 142 (ls) (st) h := am_ev_step (q := (142, ls, st, h)) _ (.goto (15)) 3 am_my_26 (by decide +kernel) rfl
theorem e26_130 {ls : List (Option Value)} {st : List Value} {h : am_H} {a : Nat} : am_ev 26 130 (some (.ref a) :: ls) (st) h = am_ev 26 131 (some (.ref a) :: ls) (.ref a :: st) h := am_ev_step (q := (131, some (.ref a) :: ls, .ref a :: st, h)) _ (.aload_n 0) 1 am_my_26 (by decide +kernel) rfl
theorem e26_130n {ls : List (Option Value)} {st : List Value} {h : am_H} : am_ev 26 130 (some .null :: ls) (st) h = am_ev 26 131 (some .null :: ls) (.null :: st) h := am_ev_step (q := (131, some .null :: ls, .null :: st, h)) _ (.aload_n 0) 1 am_my_26 (by decide +kernel) rfl
theorem e26_131 {ls : List (Option Value)} {st : List Value} {h : am_H} {o : Nat} (hk : am_kd h o = some (.inl 7)) : am_ev 26 131 ls (.ref o :: st) h = am_ev 26 134 ls (.int (h.1 o 4) :: st) h := am_u_gfI (idx := 60) (wn := 2000) am_my_26 (by decide +kernel) (by decide +kernel) (by decide +kernel) hk
theorem e26_134 {ls : List (Option Value)} {st : List Value} {h : am_H} {a : Int32} : am_ev 26 134 ls (.int a :: st) h = if ¬ a = 0 then am_ev 26 142 ls st h else am_ev 26 137 ls st h := am_u_if1 (c := .ne) (off := 8) am_my_26 (by decide +kernel) (by decide)
theorem e26_137 {ls : List (Option Value)} {st : List Value} {h : am_H} {a : Nat} : am_ev 26 137 (some (.ref a) :: ls) (st) h = am_ev 26 138 (some (.ref a) :: ls) (.ref a :: st) h := am_ev_step (q := (138, some (.ref a) :: ls, .ref a :: st, h)) _ (.aload_n 0) 1 am_my_26 (by decide +kernel) rfl
theorem e26_137n {ls : List (Option Value)} {st : List Value} {h : am_H} : am_ev 26 137 (some .null :: ls) (st) h = am_ev 26 138 (some .null :: ls) (.null :: st) h := am_ev_step (q := (138, some .null :: ls, .null :: st, h)) _ (.aload_n 0) 1 am_my_26 (by decide +kernel) rfl
theorem e26_138 {ls : List (Option Value)} {st : List Value} {h : am_H} {l0 l1 : Option Value} {a : Nat} : am_ev 26 138 (l0 :: l1 :: some (.ref a) :: ls) (st) h = am_ev 26 139 (l0 :: l1 :: some (.ref a) :: ls) (.ref a :: st) h := am_ev_step (q := (139, l0 :: l1 :: some (.ref a) :: ls, .ref a :: st, h)) _ (.aload_n 2) 1 am_my_26 (by decide +kernel) rfl
theorem e26_138n {ls : List (Option Value)} {st : List Value} {h : am_H} {l0 l1 : Option Value} : am_ev 26 138 (l0 :: l1 :: some .null :: ls) (st) h = am_ev 26 139 (l0 :: l1 :: some .null :: ls) (.null :: st) h := am_ev_step (q := (139, l0 :: l1 :: some .null :: ls, .null :: st, h)) _ (.aload_n 2) 1 am_my_26 (by decide +kernel) rfl
theorem e26_139 {ls : List (Option Value)} {st : List Value} {h : am_H} {p0 : Nat} {o : Nat} (hw : am_w8 st ≤ 8) (hk : am_kd h o = some (.inl 7)) : am_ev 26 139 ls (.ref p0 :: .ref o :: st) h = am_bd (am_den 45 [.ref o, .ref p0] h) (fun v h1 => am_ev 26 142 ls (v.toList ++ st) h1) := am_u_cV (idx := 132) (wn := 3084) (as := [.ref p0]) am_my_26 (by decide +kernel) (Or.inl (by decide +kernel)) am_my_45 (by decide +kernel) rfl ⟨Nat.le_of_ble_eq_true rfl, rfl⟩ (by decide +kernel) hw hk
theorem e26_142 {ls : List (Option Value)} {h : am_H} : am_ev 26 142 ls [] h = some (none, h) := am_u_rtV am_my_26 (by decide +kernel) rfl
def c_fr (g h : am_H) : Prop := h.2.2 = g.2.2 ∧ ∀ x k, (x < 159 ∨ 177 < x) → h.1 x k = g.1 x k ∧ h.2.1 x k = g.2.1 x k
def c_sd (h h' : am_H) : Prop := ∀ x k, 160 ≤ x → x ≤ 175 → h'.1 x k = h.1 x k ∧ h'.2.1 x k = h.2.1 x k
theorem c_sd.tr {a b c : am_H} (h1 : c_sd a b) (h2 : c_sd b c) : c_sd a c := fun x k p q => ⟨(h2 x k p q).1.trans (h1 x k p q).1, (h2 x k p q).2.trans (h1 x k p q).2⟩
theorem c_sd.rf (a : am_H) : c_sd a a := fun _ _ _ _ => ⟨rfl, rfl⟩
/-- reading: at a, with a fault or none -/
def c_st (t : Nat → Nat) (L : Nat) (g h : am_H) (a : Nat) (q : Nat × Nat) : Prop := t_cx h t L ∧ c_fr g h ∧ a ≤ L ∧ h.1 159 9 = nI a ∧ h.1 159 4 = nI q.1 ∧ (q.1 ≠ 0 → h.1 159 5 = nI q.2) ∧ q.1 < 100
/-- broken off -/
def c_bk (g h : am_H) (p : Nat) : Prop := c_fr g h ∧ h.1 159 4 = 1 ∧ h.1 159 5 = nI p
theorem c_cu_o (h : am_H) (a b c d : Int32) (x y : Nat) (hx : x ≠ 159) : (t_cu h a b c d).1 x y = h.1 x y := by
  show (if x = 159 ∧ y = 9 then a else if x = 159 ∧ y = 10 then b else if x = 159 ∧ y = 11 then c else if x = 159 ∧ y = 12 then d else h.1 x y) = h.1 x y
  rw [if_neg (fun q => hx q.1), if_neg (fun q => hx q.1), if_neg (fun q => hx q.1), if_neg (fun q => hx q.1)]
/-- a number is written into a cell of the reader -/
theorem c_fr.sI {g h : am_H} (H : c_fr g h) (o k : Nat) (v : Int32) (ho : 159 ≤ o ∧ o ≤ 177) : c_fr g (am_sI h o k v) := ⟨H.1, fun x y hx => ⟨by rw [am_rd_sI, if_neg (by omega)]; exact (H.2 x y hx).1, (H.2 x y hx).2⟩⟩
theorem c_fr.sL {g h : am_H} (H : c_fr g h) (o k : Nat) (v : Int64) (ho : 159 ≤ o ∧ o ≤ 177) : c_fr g (am_sL h o k v) := ⟨H.1, fun x y hx => ⟨(H.2 x y hx).1, by
  show (if x = o ∧ y = k then v else h.2.1 x y) = _
  rw [if_neg (by omega)]; exact (H.2 x y hx).2⟩⟩
theorem t_cx.sI {h : am_H} {t : Nat → Nat} {L : Nat} (x : t_cx h t L) (o k : Nat) (v : Int32) (ho : 159 ≤ o ∧ (o = 159 → k ≠ 8)) : t_cx (am_sI h o k v) t L := ⟨x.1, x.2.1, x.2.2.1, by rw [am_rd_sI, if_neg (by omega)]; exact x.2.2.2.1, fun j hj => by rw [am_rd_sI, if_neg (by omega)]; exact x.2.2.2.2 j hj⟩
theorem c_tok {t : Nat → Nat} {L : Nat} {g h : am_H} {a : Nat} {q : Nat × Nat} (H : c_st t L g h a q) : ∃ h' : am_H, am_den 21 [.ref 159] h = some (none, h') ∧ c_st t L g h' (t_at t L (t_S t L a)) q ∧ c_sd h h' ∧ (∀ k, h'.1 176 k = h.1 176 k) ∧ h'.1 159 10 = t_C t L (t_S t L a) ∧ h'.1 159 11 = nI (t_S t L a) ∧ h'.1 159 12 = t_cV t L (t_S t L a) (h.1 159 12) := by
  obtain ⟨x, fr, ha, e9, e4, e5, q9⟩ := H
  have s1 := t_S_le t L a ha
  have s2 := t_at_le t L _ s1.2
  refine ⟨_, den_readToken h t L a x ha e9, ⟨t_cu_cx x _ _ _ _, ⟨fr.1, fun y k hy => ⟨?_, (fr.2 y k hy).2⟩⟩, s2.2, rfl, e4, e5, q9⟩, fun y k p1 p2 => ⟨c_cu_o _ _ _ _ _ _ _ (by omega), rfl⟩, fun k => c_cu_o _ _ _ _ _ _ _ (by decide), rfl, rfl, rfl⟩
  rw [c_cu_o _ _ _ _ _ _ _ (by omega)]
  exact (fr.2 y k hy).1
theorem c_note {t : Nat → Nat} {L : Nat} {g h : am_H} {a : Nat} {q : Nat × Nat} (H : c_st t L g h a q) (w p : Nat) (hw : w < 100) : ∃ h' : am_H, am_den 43 [.ref 159, .int (nI w), .int (nI p)] h = some (none, h') ∧ c_st t L g h' a (t_nt q w p) ∧ c_sd h h' ∧ (∀ k, h'.1 176 k = h.1 176 k) ∧ (∀ k, 6 ≤ k → h'.1 159 k = h.1 159 k) := by
  obtain ⟨x, fr, ha, e9, e4, e5, q9⟩ := H
  have d := den_note h x.1 (nI w) (nI p)
  have e40 : h.1 159 4 = 0 ↔ q.1 = 0 := by rw [e4]; exact nI_eq (b := 0) (by omega) (by decide)
  unfold t_nt
  by_cases c : q.1 = 0
  · rw [if_pos (e40.mpr c)] at d
    rw [if_pos c]
    refine ⟨_, d, ⟨(x.sI 159 4 _ (by omega)).sI 159 5 _ (by omega), (fr.sI 159 4 _ (by omega)).sI 159 5 _ (by omega), ha, ?_, ?_, fun _ => ?_, hw⟩, fun y k p1 p2 => ⟨?_, rfl⟩, fun k => ?_, fun k hk => ?_⟩
    · rw [am_rd_sI, if_neg (by omega), am_rd_sI, if_neg (by omega)]; exact e9
    · rw [am_rd_sI, if_neg (by omega), am_rd_sI, if_pos ⟨rfl, rfl⟩]
    · rw [am_rd_sI, if_pos ⟨rfl, rfl⟩]
    · rw [am_rd_sI, if_neg (by omega), am_rd_sI, if_neg (by omega)]
    · rw [am_rd_sI, if_neg (by omega), am_rd_sI, if_neg (by omega)]
    · rw [am_rd_sI, if_neg (by omega), am_rd_sI, if_neg (by omega)]
  · rw [if_neg (fun w => c (e40.mp w))] at d
    rw [if_neg c]
    exact ⟨_, d, ⟨x, fr, ha, e9, e4, e5, q9⟩, c_sd.rf h, fun _ => rfl, fun _ _ => rfl⟩
theorem ln_r_len : ∀ i, i < 18 → (ln_r i).length ≤ 5 := by decide +kernel
theorem c_lp (t : Nat → Nat) (L : Nat) (g : am_H) (i0 e so : Nat) (hi0 : i0 < 18) (he : e ≤ L) (q1 : Nat × Nat) : ∀ (n i : Nat) (h : am_H), i + n = (ln_r i0).length → c_st t L g h (t_ps t L e i) (t_rq (ln_r i0) (t_va t L e) (t_nx t L e) i q1) → (∀ j, j < i → h.1 176 j = nI (t_va t L e j) ∧ t_K t L (t_nx t L e j) = 3) →
    (match t_fb t L e n i with
    | none => ∃ h' : am_H, am_ev 26 34 [some (.ref 159), some (.int (nI so)), some (.ref (1048578 + i0)), some (.int (nI i))] [] h = am_ev 26 111 [some (.ref 159), some (.int (nI so)), some (.ref (1048578 + i0)), some (.int (nI (ln_r i0).length))] [] h' ∧ c_st t L g h' (t_ps t L e (ln_r i0).length) (t_rq (ln_r i0) (t_va t L e) (t_nx t L e) (ln_r i0).length q1) ∧ c_sd h h' ∧ (∀ j, j < (ln_r i0).length → h'.1 176 j = nI (t_va t L e j) ∧ t_K t L (t_nx t L e j) = 3)
    | some p => ∃ h' : am_H, am_ev 26 34 [some (.ref 159), some (.int (nI so)), some (.ref (1048578 + i0)), some (.int (nI i))] [] h = some (none, h') ∧ c_bk g h' p) := by
  have m5 := ln_r_len i0 hi0
  obtain ⟨-, -, -, k4, -, kr⟩ := ln_ok hi0
  intro n
  induction n with
  | zero =>
    intro i h hi H hn
    have ds := den_slen _ _ kr h H.1.1
    have h1 : nI (ln_r i0).length ≤ nI i := by rw [show i = (ln_r i0).length by omega]; exact Int32.le_refl _
    have ei : i = (ln_r i0).length := by omega
    refine ⟨h, ?_, ei ▸ H, c_sd.rf h, ei ▸ hn⟩
    simp only [e26_0, e26_0n, e26_1, e26_2, e26_5, e26_5n, e26_6, e26_6n, e26_7, e26_7n, e26_10, e26_10n, e26_11, e26_14, e26_15, e26_15n, e26_16, e26_16n, e26_17, e26_20, e26_23, e26_23n, e26_24, e26_25, e26_25n, e26_26, e26_29, e26_32, e26_33, e26_34, e26_35, e26_35n, e26_36, e26_39, e26_42, e26_45, e26_46, e26_46n, e26_47, e26_50k, e26_50, e26_51, e26_54, e26_54n, e26_55, e26_58, e26_58n, e26_59, e26_62, e26_63, e26_66, e26_66n, e26_67, e26_70, e26_71, e26_71n, e26_72, e26_75, e26_76, e26_76n, e26_77, e26_80, e26_81, e26_81n, e26_82, e26_82n, e26_83, e26_86, e26_87, e26_90, e26_93, e26_96, e26_96n, e26_97, e26_98, e26_98n, e26_99, e26_102, e26_105, e26_108, e26_112, e26_115, e26_115n, e26_116, e26_119, e26_120, e26_123, e26_123n, e26_124, e26_127, e26_130, e26_130n, e26_131, e26_134, e26_137, e26_137n, e26_138, e26_138n, e26_139, e26_142, am_bd_some, Option.toList_some, Option.toList_none, List.cons_append, List.nil_append, am_w8_0, am_w8_1, am_w8_2, am_w8_3, am_w8_4, eq_self, or_true, true_or, am_kd_sI, am_kd_sL, am_kd_sR, am_tc_sI, am_tc_sL, am_tc_sR, am_len_sI, am_len_sL, am_len_sR, am_rfs, if_true, if_false, am_rdL_sI, am_rR_sL, am_rt_cq, am_kd_cq, am_tc_cq, am_len_cq, am_rd_sL, am_rd_sR, am_rdL_sR, k4, am_ob_some, kr.1, ds, h1]
    rw [ei]
  | succ n ih =>
    intro i h hi H hn
    have i5 : i < (ln_r i0).length := by omega
    have ok := H.1.1
    have ds := den_slen _ _ kr h ok
    have h1 : ¬ nI (ln_r i0).length ≤ nI i := nI_ge (by omega) (by omega)
    have h2 : ¬ Int32.ofNat 5 ≤ nI i := nI_ge (by omega) (by omega)
    have al : ∀ (ls : List (Option Value)) (st : List Value), am_ev 26 50 ls (.ref 176 :: st) h = am_ev 26 51 ls (.int (Int32.ofNat (am_len h 176)) :: st) h := fun ls st => e26_50 (okT_176 ok) (by decide)
    obtain ⟨h', d', st', sd', n', k10, k11, k12⟩ := c_tok H
    have ok' := st'.1.1
    have s1 : am_ev 26 34 [some (.ref 159), some (.int (nI so)), some (.ref (1048578 + i0)), some (.int (nI i))] [] h = am_ev 26 58 [some (.ref 159), some (.int (nI so)), some (.ref (1048578 + i0)), some (.int (nI i))] [] h' := by
      simp only [e26_0, e26_0n, e26_1, e26_2, e26_5, e26_5n, e26_6, e26_6n, e26_7, e26_7n, e26_10, e26_10n, e26_11, e26_14, e26_15, e26_15n, e26_16, e26_16n, e26_17, e26_20, e26_23, e26_23n, e26_24, e26_25, e26_25n, e26_26, e26_29, e26_32, e26_33, e26_34, e26_35, e26_35n, e26_36, e26_39, e26_42, e26_45, e26_46, e26_46n, e26_47, e26_51, e26_54, e26_54n, e26_55, e26_59, e26_62, e26_63, e26_66, e26_66n, e26_67, e26_70, e26_71, e26_71n, e26_72, e26_75, e26_76, e26_76n, e26_77, e26_80, e26_81, e26_81n, e26_82, e26_82n, e26_83, e26_86, e26_87, e26_90, e26_93, e26_96, e26_96n, e26_97, e26_98, e26_98n, e26_99, e26_102, e26_105, e26_108, e26_111, e26_111n, e26_112, e26_115, e26_115n, e26_116, e26_119, e26_120, e26_123, e26_123n, e26_124, e26_127, e26_130, e26_130n, e26_131, e26_134, e26_137, e26_137n, e26_138, e26_138n, e26_139, e26_142, am_bd_some, Option.toList_some, Option.toList_none, List.cons_append, List.nil_append, am_w8_0, am_w8_1, am_w8_2, am_w8_3, am_w8_4, eq_self, or_true, true_or, am_kd_sI, am_kd_sL, am_kd_sR, am_tc_sI, am_tc_sL, am_tc_sR, am_len_sI, am_len_sL, am_len_sR, am_rfs, if_true, if_false, am_rdL_sI, am_rR_sL, am_rt_cq, am_kd_cq, am_tc_cq, am_len_cq, am_rd_sL, am_rd_sR, am_rdL_sR, k4, am_ob_some, kr.1, ds, h1, okK_159 ok, okR_159_6 ok, al, okL_176 ok, h2, d']
    have es : t_S t L (t_ps t L e i) = t_nx t L e i := rfl
    rw [es] at st' k10 k11 k12
    have nl := t_nx_le t L e he i
    have tc := (t_C_i t L (t_nx t L e i)).2.2.1
    unfold t_fb
    by_cases c : t_K t L (t_nx t L e i) = 3
    · rw [if_pos c]
      have c2 : h'.1 159 10 = 2 := k10.trans (tc.mpr c)
      have ev := k12.trans (t_cV_v c _).1
      have vl := t_v_lt c
      have ea := (t_CK t L (t_nx t L e i)).2.2 (by omega)
      have xi : am_ix (nI i) 5 = true := am_ix_nI (by omega) (by decide)
      have zi : (nI i).toNatClampNeg = i := nI_clamp (by omega)
      let h3 : am_H := am_sI h' 176 i (nI (t_v t L (t_nx t L e i)))
      have ok3 : am_okH h3 := ok'
      have st3 : c_st t L g h3 (t_ps t L e (i + 1)) (t_rq (ln_r i0) (t_va t L e) (t_nx t L e) i q1) := by
        obtain ⟨x, fr, ha, e9, e4, e5, q9⟩ := st'
        have pe : t_ps t L e (i + 1) = t_at t L (t_nx t L e i) := ea.symm
        rw [pe]
        exact ⟨x.sI 176 i _ (by omega), fr.sI 176 i _ (by omega), ha, by rw [am_rd_sI, if_neg (by omega)]; exact e9, by rw [am_rd_sI, if_neg (by omega)]; exact e4, fun w => by rw [am_rd_sI, if_neg (by omega)]; exact e5 w, q9⟩
      have n3 : ∀ j, j < i + 1 → h3.1 176 j = nI (t_va t L e j) ∧ t_K t L (t_nx t L e j) = 3 := fun j hj => by
        show (am_sI h' 176 i (nI (t_v t L (t_nx t L e i)))).1 176 j = _ ∧ _
        rw [am_rd_sI]
        by_cases cj : j = i
        · rw [if_pos ⟨rfl, cj⟩, cj]
          exact ⟨rfl, c⟩
        · rw [if_neg (fun w => cj w.2), n' j]
          exact hn j (by omega)
      have sd3 : c_sd h h3 := sd'.tr (fun x k p1 p2 => ⟨by show (am_sI h' 176 i _).1 x k = _; rw [am_rd_sI, if_neg (by omega)], rfl⟩)
      have dch := den_schar _ _ kr i i5 h3 ok3
      have rl := kr.2.2.2.1 _ (t_gmem _ i i5)
      have ev3 : h3.1 159 12 = nI (t_v t L (t_nx t L e i)) := by
        show (am_sI h' 176 i _).1 159 12 = _
        rw [am_rd_sI, if_neg (by omega)]; exact ev
      have i114 : (ln_r i0).getD i 0 = 114 → 3 ≤ i := by
        have : ∀ a, a < 18 → ∀ b, b < 5 → (ln_r a).getD b 0 = 114 → 3 ≤ b := by decide +kernel
        exact this i0 hi0 i (by omega)
      have dcb := den_canBe h3 ok3 ((ln_r i0).getD i 0) (t_v t L (t_nx t L e i)) (t_va t L e) rl vl ev3 (fun w j hj => by
        have i3 := i114 w
        have nj := n3 j (by omega)
        exact ⟨nj.1, t_v_lt nj.2⟩)
      have s2 : am_ev 26 58 [some (.ref 159), some (.int (nI so)), some (.ref (1048578 + i0)), some (.int (nI i))] [] h' = am_ev 26 81 [some (.ref 159), some (.int (nI so)), some (.ref (1048578 + i0)), some (.int (nI i))] [] h3 := by
        have r2 : ((2 : Int32) = 2) = True := eq_true rfl
        simp only [e26_0, e26_0n, e26_1, e26_2, e26_5, e26_5n, e26_6, e26_6n, e26_7, e26_7n, e26_10, e26_10n, e26_11, e26_14, e26_15, e26_15n, e26_16, e26_16n, e26_17, e26_20, e26_23, e26_23n, e26_24, e26_25, e26_25n, e26_26, e26_29, e26_32, e26_33, e26_34, e26_35, e26_35n, e26_36, e26_39, e26_42, e26_45, e26_46, e26_46n, e26_47, e26_50k, e26_50, e26_51, e26_54, e26_54n, e26_55, e26_58, e26_58n, e26_59, e26_62, e26_63, e26_66, e26_66n, e26_67, e26_70, e26_71, e26_71n, e26_72, e26_75, e26_76, e26_76n, e26_77, e26_80, e26_82, e26_82n, e26_83, e26_86, e26_87, e26_90, e26_93, e26_96, e26_96n, e26_97, e26_98, e26_98n, e26_99, e26_102, e26_105, e26_108, e26_111, e26_111n, e26_112, e26_115, e26_115n, e26_116, e26_119, e26_120, e26_123, e26_123n, e26_124, e26_127, e26_130, e26_130n, e26_131, e26_134, e26_137, e26_137n, e26_138, e26_138n, e26_139, e26_142, am_bd_some, Option.toList_some, Option.toList_none, List.cons_append, List.nil_append, am_w8_0, am_w8_1, am_w8_2, am_w8_3, am_w8_4, eq_self, or_true, true_or, am_kd_sI, am_kd_sL, am_kd_sR, am_tc_sI, am_tc_sL, am_tc_sR, am_len_sI, am_len_sL, am_len_sR, am_rfs, if_true, if_false, am_rdL_sI, am_rR_sL, am_rt_cq, am_kd_cq, am_tc_cq, am_len_cq, am_rd_sL, am_rd_sR, am_rdL_sR, okK_159 ok', c2, r2, okR_159_6 ok', okT_176 ok', okL_176 ok', xi, zi, ev]
        rfl
      have eqv : t_va t L e i = t_v t L (t_nx t L e i) := rfl
      cases cb : t_can ((ln_r i0).getD i 0) (t_v t L (t_nx t L e i)) (t_va t L e) with
      | true =>
        have b1 : q_bi true = 1 := rfl
        have y : ¬ (1 : Int32) = 0 := by decide
        rw [cb, b1] at dcb
        have s3 : am_ev 26 81 [some (.ref 159), some (.int (nI so)), some (.ref (1048578 + i0)), some (.int (nI i))] [] h3 = am_ev 26 34 [some (.ref 159), some (.int (nI so)), some (.ref (1048578 + i0)), some (.int (nI (i + 1)))] [] h3 := by
          simp only [e26_0, e26_0n, e26_1, e26_2, e26_5, e26_5n, e26_6, e26_6n, e26_7, e26_7n, e26_10, e26_10n, e26_11, e26_14, e26_15, e26_15n, e26_16, e26_16n, e26_17, e26_20, e26_23, e26_23n, e26_24, e26_25, e26_25n, e26_26, e26_29, e26_32, e26_33, e26_35, e26_35n, e26_36, e26_39, e26_42, e26_45, e26_46, e26_46n, e26_47, e26_50k, e26_50, e26_51, e26_54, e26_54n, e26_55, e26_58, e26_58n, e26_59, e26_62, e26_63, e26_66, e26_66n, e26_67, e26_70, e26_71, e26_71n, e26_72, e26_75, e26_76, e26_76n, e26_77, e26_80, e26_81, e26_81n, e26_82, e26_82n, e26_83, e26_86, e26_87, e26_90, e26_93, e26_96, e26_96n, e26_97, e26_98, e26_98n, e26_99, e26_102, e26_105, e26_108, e26_111, e26_111n, e26_112, e26_115, e26_115n, e26_116, e26_119, e26_120, e26_123, e26_123n, e26_124, e26_127, e26_130, e26_130n, e26_131, e26_134, e26_137, e26_137n, e26_138, e26_138n, e26_139, e26_142, am_bd_some, Option.toList_some, Option.toList_none, List.cons_append, List.nil_append, am_w8_0, am_w8_1, am_w8_2, am_w8_3, am_w8_4, eq_self, or_true, true_or, am_kd_sI, am_kd_sL, am_kd_sR, am_tc_sI, am_tc_sL, am_tc_sR, am_len_sI, am_len_sL, am_len_sR, am_rfs, if_true, if_false, am_rdL_sI, am_rR_sL, am_rt_cq, am_kd_cq, am_tc_cq, am_len_cq, am_rd_sL, am_rd_sR, am_rdL_sR, k4, am_ob_some, kr.1, dch, okK_159 ok3, dcb, y, not_false_eq_true, nI_1]
        have er : t_rq (ln_r i0) (t_va t L e) (t_nx t L e) (i + 1) q1 = t_rq (ln_r i0) (t_va t L e) (t_nx t L e) i q1 := if_pos cb
        have r := ih (i + 1) h3 (by omega) (by rw [er]; exact st3) n3
        rw [s1, s2, s3]
        revert r
        cases t_fb t L e n (i + 1) with
        | none => exact fun ⟨hh, a1, a2, a3, a4⟩ => ⟨hh, a1, a2, sd3.tr a3, a4⟩
        | some p => exact fun r => r
      | false =>
        have b0 : q_bi false = 0 := rfl
        rw [cb, b0] at dcb
        obtain ⟨h4, d4, st4, sd4, n4, f4⟩ := c_note st3 2 (t_nx t L e i) (by decide)
        have k11' : h3.1 159 11 = nI (t_nx t L e i) := by
          show (am_sI h' 176 i _).1 159 11 = _
          rw [am_rd_sI, if_neg (by omega)]; exact k11
        have d4' : am_den 43 [.ref 159, .int 2, .int (nI (t_nx t L e i))] h3 = some (none, h4) := d4
        have s3 : am_ev 26 81 [some (.ref 159), some (.int (nI so)), some (.ref (1048578 + i0)), some (.int (nI i))] [] h3 = am_ev 26 34 [some (.ref 159), some (.int (nI so)), some (.ref (1048578 + i0)), some (.int (nI (i + 1)))] [] h4 := by
          simp only [e26_0, e26_0n, e26_1, e26_2, e26_5, e26_5n, e26_6, e26_6n, e26_7, e26_7n, e26_10, e26_10n, e26_11, e26_14, e26_15, e26_15n, e26_16, e26_16n, e26_17, e26_20, e26_23, e26_23n, e26_24, e26_25, e26_25n, e26_26, e26_29, e26_32, e26_33, e26_35, e26_35n, e26_36, e26_39, e26_42, e26_45, e26_46, e26_46n, e26_47, e26_50k, e26_50, e26_51, e26_54, e26_54n, e26_55, e26_58, e26_58n, e26_59, e26_62, e26_63, e26_66, e26_66n, e26_67, e26_70, e26_71, e26_71n, e26_72, e26_75, e26_76, e26_76n, e26_77, e26_80, e26_81, e26_81n, e26_82, e26_82n, e26_83, e26_86, e26_87, e26_90, e26_93, e26_96, e26_96n, e26_97, e26_98, e26_98n, e26_99, e26_102, e26_105, e26_108, e26_111, e26_111n, e26_112, e26_115, e26_115n, e26_116, e26_119, e26_120, e26_123, e26_123n, e26_124, e26_127, e26_130, e26_130n, e26_131, e26_134, e26_137, e26_137n, e26_138, e26_138n, e26_139, e26_142, am_bd_some, Option.toList_some, Option.toList_none, List.cons_append, List.nil_append, am_w8_0, am_w8_1, am_w8_2, am_w8_3, am_w8_4, eq_self, or_true, true_or, am_kd_sI, am_kd_sL, am_kd_sR, am_tc_sI, am_tc_sL, am_tc_sR, am_len_sI, am_len_sL, am_len_sR, am_rfs, if_true, if_false, am_rdL_sI, am_rR_sL, am_rt_cq, am_kd_cq, am_tc_cq, am_len_cq, am_rd_sL, am_rd_sR, am_rdL_sR, k4, am_ob_some, kr.1, dch, okK_159 ok3, dcb, not_true, k11', d4', nI_1]
        have er : t_rq (ln_r i0) (t_va t L e) (t_nx t L e) (i + 1) q1 = t_nt (t_rq (ln_r i0) (t_va t L e) (t_nx t L e) i q1) 2 (t_nx t L e i) := if_neg (fun w => by rw [eqv, cb] at w; cases w)
        have r := ih (i + 1) h4 (by omega) (by rw [er]; exact st4) (fun j hj => ⟨(n4 j).trans (n3 j hj).1, (n3 j hj).2⟩)
        rw [s1, s2, s3]
        revert r
        cases t_fb t L e n (i + 1) with
        | none => exact fun ⟨hh, a1, a2, a3, a4⟩ => ⟨hh, a1, a2, (sd3.tr sd4).tr a3, a4⟩
        | some p => exact fun r => r
    · rw [if_neg c]
      have c2 : ¬ h'.1 159 10 = 2 := fun w => c (tc.mp (k10.symm.trans w))
      have db := den_breakOff h' ok'
      refine ⟨_, ?_, ⟨(st'.2.1.sI 159 4 1 (by omega)).sI 159 5 (h'.1 159 11) (by omega), ?_, ?_⟩⟩
      · rw [s1]
        simp only [e26_0, e26_0n, e26_1, e26_2, e26_5, e26_5n, e26_6, e26_6n, e26_7, e26_7n, e26_10, e26_10n, e26_11, e26_14, e26_15, e26_15n, e26_16, e26_16n, e26_17, e26_20, e26_23, e26_23n, e26_24, e26_25, e26_25n, e26_26, e26_29, e26_32, e26_33, e26_34, e26_35, e26_35n, e26_36, e26_39, e26_42, e26_45, e26_46, e26_46n, e26_47, e26_50k, e26_50, e26_51, e26_54, e26_54n, e26_55, e26_58, e26_58n, e26_59, e26_62, e26_63, e26_66, e26_66n, e26_67, e26_70, e26_71, e26_71n, e26_72, e26_75, e26_76, e26_76n, e26_77, e26_80, e26_81, e26_81n, e26_82, e26_82n, e26_83, e26_86, e26_87, e26_90, e26_93, e26_96, e26_96n, e26_97, e26_98, e26_98n, e26_99, e26_102, e26_105, e26_108, e26_111, e26_111n, e26_112, e26_115, e26_115n, e26_116, e26_119, e26_120, e26_123, e26_123n, e26_124, e26_127, e26_130, e26_130n, e26_131, e26_134, e26_137, e26_137n, e26_138, e26_138n, e26_139, e26_142, am_bd_some, Option.toList_some, Option.toList_none, List.cons_append, List.nil_append, am_w8_0, am_w8_1, am_w8_2, am_w8_3, am_w8_4, eq_self, or_true, true_or, am_kd_sI, am_kd_sL, am_kd_sR, am_tc_sI, am_tc_sL, am_tc_sR, am_len_sI, am_len_sL, am_len_sR, am_rfs, if_true, if_false, am_rdL_sI, am_rR_sL, am_rt_cq, am_kd_cq, am_tc_cq, am_len_cq, am_rd_sL, am_rd_sR, am_rdL_sR, okK_159 ok', c2, db]
      · rw [am_rd_sI, if_neg (by omega), am_rd_sI, if_pos ⟨rfl, rfl⟩]
      · rw [am_rd_sI, if_pos ⟨rfl, rfl⟩]; exact k11
