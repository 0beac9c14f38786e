/-! part 9M: a word of the tape against a constant text: the class -/
theorem e28_0 {ls : List (Option Value)} {st : List Value} {h : am_H} {l0 : Option Value} {a : Nat} : am_ev 28 0 (l0 :: some (.ref a) :: ls) (st) h = am_ev 28 1 (l0 :: some (.ref a) :: ls) (.ref a :: st) h := am_ev_step (q := (1, l0 :: some (.ref a) :: ls, .ref a :: st, h)) _ (.aload_n 1) 1 am_my_28 (by decide +kernel) rfl
theorem e28_0n {ls : List (Option Value)} {st : List Value} {h : am_H} {l0 : Option Value} : am_ev 28 0 (l0 :: some .null :: ls) (st) h = am_ev 28 1 (l0 :: some .null :: ls) (.null :: st) h := am_ev_step (q := (1, l0 :: some .null :: ls, .null :: st, h)) _ (.aload_n 1) 1 am_my_28 (by decide +kernel) rfl
theorem e28_1 {ls : List (Option Value)} {st : List Value} {h : am_H}  {o : Nat} (hw : am_w8 st ≤ 8) (ho : o ∈ am_kS) : am_ev 28 1 ls (.ref o :: st) h = am_bd (am_den 29 [.ref o] h) (fun v h1 => am_ev 28 4 ls (v.toList ++ st) h1) := am_u_cK (idx := 117) (wn := 3012) (as := []) am_my_28 (by decide +kernel) (by decide +kernel) am_my_29 (by decide +kernel) rfl ⟨Nat.le_of_ble_eq_true rfl, rfl⟩ (by decide +kernel) hw ho
theorem e28_4 {ls : List (Option Value)} {st : List Value} {h : am_H} {a : Nat} : am_ev 28 4 (some (.ref a) :: ls) (st) h = am_ev 28 5 (some (.ref a) :: ls) (.ref a :: st) h := am_ev_step (q := (5, some (.ref a) :: ls, .ref a :: st, h)) _ (.aload_n 0) 1 am_my_28 (by decide +kernel) rfl
theorem e28_4n {ls : List (Option Value)} {st : List Value} {h : am_H} : am_ev 28 4 (some .null :: ls) (st) h = am_ev 28 5 (some .null :: ls) (.null :: st) h := am_ev_step (q := (5, some .null :: ls, .null :: st, h)) _ (.aload_n 0) 1 am_my_28 (by decide +kernel) rfl
theorem e28_5 {ls : List (Option Value)} {st : List Value} {h : am_H} {o : Nat} (hk : am_kd h o = some (.inl 7)) : am_ev 28 5 ls (.ref o :: st) h = am_ev 28 8 ls (.int (h.1 o 9) :: st) h := am_u_gfI (idx := 57) (wn := 2007) am_my_28 (by decide +kernel) (by decide +kernel) (by decide +kernel) hk
theorem e28_8 {ls : List (Option Value)} {st : List Value} {h : am_H} {a : Nat} : am_ev 28 8 (some (.ref a) :: ls) (st) h = am_ev 28 9 (some (.ref a) :: ls) (.ref a :: st) h := am_ev_step (q := (9, some (.ref a) :: ls, .ref a :: st, h)) _ (.aload_n 0) 1 am_my_28 (by decide +kernel) rfl
theorem e28_8n {ls : List (Option Value)} {st : List Value} {h : am_H} : am_ev 28 8 (some .null :: ls) (st) h = am_ev 28 9 (some .null :: ls) (.null :: st) h := am_ev_step (q := (9, some .null :: ls, .null :: st, h)) _ (.aload_n 0) 1 am_my_28 (by decide +kernel) rfl
theorem e28_9 {ls : List (Option Value)} {st : List Value} {h : am_H} {o : Nat} (hk : am_kd h o = some (.inl 7)) : am_ev 28 9 ls (.ref o :: st) h = am_ev 28 12 ls (.int (h.1 o 11) :: st) h := am_u_gfI (idx := 108) (wn := 2009) am_my_28 (by decide +kernel) (by decide +kernel) (by decide +kernel) hk
theorem e28_12 {ls : List (Option Value)} {st : List Value} {h : am_H} {a b : Int32} : am_ev 28 12 (ls) (.int b :: .int a :: st) h = am_ev 28 13 (ls) (.int (a - b) :: st) h := am_ev_step (q := (13, ls, .int (a - b) :: st, h)) _ (.isub) 1 am_my_28 (by decide +kernel) rfl
theorem e28_13 {ls : List (Option Value)} {st : List Value} {h : am_H} {a b : Int32} : am_ev 28 13 ls (.int b :: .int a :: st) h = if a = b then am_ev 28 18 ls st h else am_ev 28 16 ls st h := am_u_if2 (c := .eq) (off := 5) am_my_28 (by decide +kernel) (by decide)
theorem e28_16 {ls : List (Option Value)} {st : List Value} {h : am_H} : am_ev 28 16 (ls) (st) h = am_ev 28 17 (ls) (.int (0) :: st) h := am_ev_step (q := (17, ls, .int (0) :: st, h)) _ (.iconst (0)) 1 am_my_28 (by decide +kernel) rfl
theorem e28_17 {ls : List (Option Value)} {h : am_H} {v : Int32} (hv : v = 0 ∨ v = 1) : am_ev 28 17 ls [.int v] h = some (some (.int v), h) := am_u_rtZ am_my_28 (by decide +kernel) rfl hv
theorem e28_18 {ls : List (Option Value)} {st : List Value} {h : am_H} : am_ev 28 18 (ls) (st) h = am_ev 28 19 (ls) (.int (0) :: st) h := am_ev_step (q := (19, ls, .int (0) :: st, h)) _ (.iconst (0)) 1 am_my_28 (by decide +kernel) rfl
theorem e28_19 {ls : List (Option Value)} {st : List Value} {h : am_H} {l0 l1 : Option Value} {z : Option Value} {a : Int32} : am_ev 28 19 (l0 :: l1 :: z :: ls) (.int a :: st) h = am_ev 28 20 (l0 :: l1 :: some (.int a) :: ls) (st) h := am_ev_step (q := (20, l0 :: l1 :: some (.int a) :: ls, st, h)) _ (.istore_n 2) 1 am_my_28 (by decide +kernel) rfl
theorem e28_20 {ls : List (Option Value)} {st : List Value} {h : am_H} {l0 l1 : Option Value} {a : Int32} : am_ev 28 20 (l0 :: l1 :: some (.int a) :: ls) (st) h = am_ev 28 21 (l0 :: l1 :: some (.int a) :: ls) (.int a :: st) h := am_ev_step (q := (21, l0 :: l1 :: some (.int a) :: ls, .int a :: st, h)) _ (.iload_n 2) 1 am_my_28 (by decide +kernel) rfl
theorem e28_21 {ls : List (Option Value)} {st : List Value} {h : am_H} {l0 : Option Value} {a : Nat} : am_ev 28 21 (l0 :: some (.ref a) :: ls) (st) h = am_ev 28 22 (l0 :: some (.ref a) :: ls) (.ref a :: st) h := am_ev_step (q := (22, l0 :: some (.ref a) :: ls, .ref a :: st, h)) _ (.aload_n 1) 1 am_my_28 (by decide +kernel) rfl
theorem e28_21n {ls : List (Option Value)} {st : List Value} {h : am_H} {l0 : Option Value} : am_ev 28 21 (l0 :: some .null :: ls) (st) h = am_ev 28 22 (l0 :: some .null :: ls) (.null :: st) h := am_ev_step (q := (22, l0 :: some .null :: ls, .null :: st, h)) _ (.aload_n 1) 1 am_my_28 (by decide +kernel) rfl
theorem e28_22 {ls : List (Option Value)} {st : List Value} {h : am_H}  {o : Nat} (hw : am_w8 st ≤ 8) (ho : o ∈ am_kS) : am_ev 28 22 ls (.ref o :: st) h = am_bd (am_den 29 [.ref o] h) (fun v h1 => am_ev 28 25 ls (v.toList ++ st) h1) := am_u_cK (idx := 117) (wn := 3012) (as := []) am_my_28 (by decide +kernel) (by decide +kernel) am_my_29 (by decide +kernel) rfl ⟨Nat.le_of_ble_eq_true rfl, rfl⟩ (by decide +kernel) hw ho
theorem e28_25 {ls : List (Option Value)} {st : List Value} {h : am_H} {a b : Int32} : am_ev 28 25 ls (.int b :: .int a :: st) h = if b ≤ a then am_ev 28 55 ls st h else am_ev 28 28 ls st h := am_u_if2 (c := .ge) (off := 30) am_my_28 (by decide +kernel) (by decide)
theorem e28_28 {ls : List (Option Value)} {st : List Value} {h : am_H} {a : Nat} : am_ev 28 28 (some (.ref a) :: ls) (st) h = am_ev 28 29 (some (.ref a) :: ls) (.ref a :: st) h := am_ev_step (q := (29, some (.ref a) :: ls, .ref a :: st, h)) _ (.aload_n 0) 1 am_my_28 (by decide +kernel) rfl
theorem e28_28n {ls : List (Option Value)} {st : List Value} {h : am_H} : am_ev 28 28 (some .null :: ls) (st) h = am_ev 28 29 (some .null :: ls) (.null :: st) h := am_ev_step (q := (29, some .null :: ls, .null :: st, h)) _ (.aload_n 0) 1 am_my_28 (by decide +kernel) rfl
theorem e28_29 {ls : List (Option Value)} {st : List Value} {h : am_H} {o : Nat} (hk : am_kd h o = some (.inl 7)) : am_ev 28 29 ls (.ref o :: st) h = am_ev 28 32 ls (va_rf (h.2.2.1 o 7) :: st) h := am_u_gfR (idx := 43) (wn := 2005) (a := 0) am_my_28 (by decide +kernel) (by decide +kernel) (by decide +kernel) hk
theorem e28_32 {ls : List (Option Value)} {st : List Value} {h : am_H} {a : Nat} : am_ev 28 32 (some (.ref a) :: ls) (st) h = am_ev 28 33 (some (.ref a) :: ls) (.ref a :: st) h := am_ev_step (q := (33, some (.ref a) :: ls, .ref a :: st, h)) _ (.aload_n 0) 1 am_my_28 (by decide +kernel) rfl
theorem e28_32n {ls : List (Option Value)} {st : List Value} {h : am_H} : am_ev 28 32 (some .null :: ls) (st) h = am_ev 28 33 (some .null :: ls) (.null :: st) h := am_ev_step (q := (33, some .null :: ls, .null :: st, h)) _ (.aload_n 0) 1 am_my_28 (by decide +kernel) rfl
theorem e28_33 {ls : List (Option Value)} {st : List Value} {h : am_H} {o : Nat} (hk : am_kd h o = some (.inl 7)) : am_ev 28 33 ls (.ref o :: st) h = am_ev 28 36 ls (.int (h.1 o 11) :: st) h := am_u_gfI (idx := 108) (wn := 2009) am_my_28 (by decide +kernel) (by decide +kernel) (by decide +kernel) hk
theorem e28_36 {ls : List (Option Value)} {st : List Value} {h : am_H} {l0 l1 : Option Value} {a : Int32} : am_ev 28 36 (l0 :: l1 :: some (.int a) :: ls) (st) h = am_ev 28 37 (l0 :: l1 :: some (.int a) :: ls) (.int a :: st) h := am_ev_step (q := (37, l0 :: l1 :: some (.int a) :: ls, .int a :: st, h)) _ (.iload_n 2) 1 am_my_28 (by decide +kernel) rfl
theorem e28_37 {ls : List (Option Value)} {st : List Value} {h : am_H} {a b : Int32} : am_ev 28 37 (ls) (.int b :: .int a :: st) h = am_ev 28 38 (ls) (.int (a + b) :: st) h := am_ev_step (q := (38, ls, .int (a + b) :: st, h)) _ (.iadd) 1 am_my_28 (by decide +kernel) rfl
theorem e28_38k {ls : List (Option Value)} {st : List Value} {h : am_H} {i : Int32} {a : Nat} (ht : am_tc h a = none) : am_ev 28 38 ls (.int i :: .ref a :: st) h = am_ob (kAb a) (fun f => if am_ix i f.length = true then am_ev 28 39 ls (f.getD i.toNatClampNeg .null :: st) h else none) := am_u_rBK am_my_28 (by decide +kernel) ht
theorem e28_38 {ls : List (Option Value)} {st : List Value} {h : am_H} {i : Int32} {a : Nat} (ht : am_tc h a = some 1) : am_ev 28 38 ls (.int i :: .ref a :: st) h = if am_ix i (am_len h a) = true then am_ev 28 39 ls (.int (am_byte (h.1 a i.toNatClampNeg)) :: st) h else none := am_u_rB am_my_28 (by decide +kernel) ht
theorem e28_38z {ls : List (Option Value)} {st : List Value} {h : am_H} {i : Int32} {a : Nat} (ht : am_tc h a = some 2) : am_ev 28 38 ls (.int i :: .ref a :: st) h = if am_ix i (am_len h a) = true then am_ev 28 39 ls (.int (h.1 a i.toNatClampNeg) :: st) h else none := am_u_rZ am_my_28 (by decide +kernel) ht
theorem e28_39 {ls : List (Option Value)} {st : List Value} {h : am_H} {l0 : Option Value} {a : Nat} : am_ev 28 39 (l0 :: some (.ref a) :: ls) (st) h = am_ev 28 40 (l0 :: some (.ref a) :: ls) (.ref a :: st) h := am_ev_step (q := (40, l0 :: some (.ref a) :: ls, .ref a :: st, h)) _ (.aload_n 1) 1 am_my_28 (by decide +kernel) rfl
theorem e28_39n {ls : List (Option Value)} {st : List Value} {h : am_H} {l0 : Option Value} : am_ev 28 39 (l0 :: some .null :: ls) (st) h = am_ev 28 40 (l0 :: some .null :: ls) (.null :: st) h := am_ev_step (q := (40, l0 :: some .null :: ls, .null :: st, h)) _ (.aload_n 1) 1 am_my_28 (by decide +kernel) rfl
theorem e28_40 {ls : List (Option Value)} {st : List Value} {h : am_H} {l0 l1 : Option Value} {a : Int32} : am_ev 28 40 (l0 :: l1 :: some (.int a) :: ls) (st) h = am_ev 28 41 (l0 :: l1 :: some (.int a) :: ls) (.int a :: st) h := am_ev_step (q := (41, l0 :: l1 :: some (.int a) :: ls, .int a :: st, h)) _ (.iload_n 2) 1 am_my_28 (by decide +kernel) rfl
theorem e28_41 {ls : List (Option Value)} {st : List Value} {h : am_H} {p0 : Int32} {o : Nat} (hw : am_w8 st ≤ 8) (ho : o ∈ am_kS) : am_ev 28 41 ls (.int p0 :: .ref o :: st) h = am_bd (am_den 31 [.ref o, .int p0] h) (fun v h1 => am_ev 28 44 ls (v.toList ++ st) h1) := am_u_cK (idx := 124) (wn := 3022) (as := [.int p0]) am_my_28 (by decide +kernel) (by decide +kernel) am_my_31 (by decide +kernel) rfl ⟨Nat.le_of_ble_eq_true rfl, rfl⟩ (by decide +kernel) hw ho
theorem e28_44 {ls : List (Option Value)} {st : List Value} {h : am_H} {a b : Int32} : am_ev 28 44 ls (.int b :: .int a :: st) h = if a = b then am_ev 28 49 ls st h else am_ev 28 47 ls st h := am_u_if2 (c := .eq) (off := 5) am_my_28 (by decide +kernel) (by decide)
theorem e28_47 {ls : List (Option Value)} {st : List Value} {h : am_H} : am_ev 28 47 (ls) (st) h = am_ev 28 48 (ls) (.int (0) :: st) h := am_ev_step (q := (48, ls, .int (0) :: st, h)) _ (.iconst (0)) 1 am_my_28 (by decide +kernel) rfl
theorem e28_48 {ls : List (Option Value)} {h : am_H} {v : Int32} (hv : v = 0 ∨ v = 1) : am_ev 28 48 ls [.int v] h = some (some (.int v), h) := am_u_rtZ am_my_28 (by decide +kernel) rfl hv
theorem e28_49 {ls : List (Option Value)} {st : List Value} {h : am_H} {l0 l1 : Option Value} {a : Int32} : am_ev 28 49 (l0 :: l1 :: some (.int a) :: ls) (st) h = am_ev 28 52 (l0 :: l1 :: some (.int (a + (1))) :: ls) (st) h := am_ev_step (q := (52, l0 :: l1 :: some (.int (a + (1))) :: ls, st, h)) _ (.iinc 2 (1)) 3 am_my_28 (by decide +kernel) rfl
theorem e28_52 {ls : List (Option Value)} {st : List Value} {h : am_H} : am_ev 28 52 (ls) (st) h = am_ev 28 20 (ls) (st) h := am_ev_step (q := (20, ls, st, h)) _ (.goto (-32)) 3 am_my_28 (by decide +kernel) rfl
theorem e28_55 {ls : List (Option Value)} {st : List Value} {h : am_H} : am_ev 28 55 (ls) (st) h = am_ev 28 56 (ls) (.int (1) :: st) h := am_ev_step (q := (56, ls, .int (1) :: st, h)) _ (.iconst (1)) 1 am_my_28 (by decide +kernel) rfl
theorem e28_56 {ls : List (Option Value)} {h : am_H} {v : Int32} (hv : v = 0 ∨ v = 1) : am_ev 28 56 ls [.int v] h = some (some (.int v), h) := am_u_rtZ am_my_28 (by decide +kernel) rfl hv
theorem e27_0 {ls : List (Option Value)} {st : List Value} {h : am_H} {a : Nat} : am_ev 27 0 (some (.ref a) :: ls) (st) h = am_ev 27 1 (some (.ref a) :: ls) (.ref a :: st) h := am_ev_step (q := (1, some (.ref a) :: ls, .ref a :: st, h)) _ (.aload_n 0) 1 am_my_27 (by decide +kernel) rfl
theorem e27_0n {ls : List (Option Value)} {st : List Value} {h : am_H} : am_ev 27 0 (some .null :: ls) (st) h = am_ev 27 1 (some .null :: ls) (.null :: st) h := am_ev_step (q := (1, some .null :: ls, .null :: st, h)) _ (.aload_n 0) 1 am_my_27 (by decide +kernel) rfl
theorem e27_1 {ls : List (Option Value)} {st : List Value} {h : am_H} {o : Nat} (hk : am_kd h o = some (.inl 7)) : am_ev 27 1 ls (.ref o :: st) h = am_ev 27 4 ls (.int (h.1 o 10) :: st) h := am_u_gfI (idx := 72) (wn := 2008) am_my_27 (by decide +kernel) (by decide +kernel) (by decide +kernel) hk
theorem e27_4 {ls : List (Option Value)} {st : List Value} {h : am_H} : am_ev 27 4 (ls) (st) h = am_ev 27 5 (ls) (.int (1) :: st) h := am_ev_step (q := (5, ls, .int (1) :: st, h)) _ (.iconst (1)) 1 am_my_27 (by decide +kernel) rfl
theorem e27_5 {ls : List (Option Value)} {st : List Value} {h : am_H} {a b : Int32} : am_ev 27 5 ls (.int b :: .int a :: st) h = if a = b then am_ev 27 10 ls st h else am_ev 27 8 ls st h := am_u_if2 (c := .eq) (off := 5) am_my_27 (by decide +kernel) (by decide)
theorem e27_8 {ls : List (Option Value)} {st : List Value} {h : am_H} : am_ev 27 8 (ls) (st) h = am_ev 27 9 (ls) (.null :: st) h := am_ev_step (q := (9, ls, .null :: st, h)) _ (.aconst_null) 1 am_my_27 (by decide +kernel) rfl
theorem e27_9 {ls : List (Option Value)} {h : am_H} {a : Nat} : am_ev 27 9 ls [.ref a] h = some (some (.ref a), h) := am_u_rtA am_my_27 (by decide +kernel) rfl (Or.inl ⟨a, rfl⟩)
theorem e27_9n {ls : List (Option Value)} {h : am_H} : am_ev 27 9 ls [.null] h = some (some .null, h) := am_u_rtA am_my_27 (by decide +kernel) rfl (Or.inr rfl)
theorem e27_10 {ls : List (Option Value)} {st : List Value} {h : am_H} : am_ev 27 10 ls st h = am_ev 27 13 ls (.ref 1048577 :: st) h := am_u_gsN (idx := 136) am_my_27 (by decide +kernel) (by decide +kernel)
theorem e27_13 {ls : List (Option Value)} {st : List Value} {h : am_H} {l0 l1 : Option Value} {z : Option Value} {a : Nat} : am_ev 27 13 (l0 :: l1 :: z :: ls) (.ref a :: st) h = am_ev 27 14 (l0 :: l1 :: some (.ref a) :: ls) (st) h := am_ev_step (q := (14, l0 :: l1 :: some (.ref a) :: ls, st, h)) _ (.astore_n 2) 1 am_my_27 (by decide +kernel) rfl
theorem e27_13n {ls : List (Option Value)} {st : List Value} {h : am_H} {l0 l1 : Option Value} {z : Option Value} : am_ev 27 13 (l0 :: l1 :: z :: ls) (.null :: st) h = am_ev 27 14 (l0 :: l1 :: some .null :: ls) (st) h := am_ev_step (q := (14, l0 :: l1 :: some .null :: ls, st, h)) _ (.astore_n 2) 1 am_my_27 (by decide +kernel) rfl
theorem e27_14 {ls : List (Option Value)} {st : List Value} {h : am_H} {l0 l1 : Option Value} {a : Nat} : am_ev 27 14 (l0 :: l1 :: some (.ref a) :: ls) (st) h = am_ev 27 15 (l0 :: l1 :: some (.ref a) :: ls) (.ref a :: st) h := am_ev_step (q := (15, l0 :: l1 :: some (.ref a) :: ls, .ref a :: st, h)) _ (.aload_n 2) 1 am_my_27 (by decide +kernel) rfl
theorem e27_14n {ls : List (Option Value)} {st : List Value} {h : am_H} {l0 l1 : Option Value} : am_ev 27 14 (l0 :: l1 :: some .null :: ls) (st) h = am_ev 27 15 (l0 :: l1 :: some .null :: ls) (.null :: st) h := am_ev_step (q := (15, l0 :: l1 :: some .null :: ls, .null :: st, h)) _ (.aload_n 2) 1 am_my_27 (by decide +kernel) rfl
theorem e27_15k {ls : List (Option Value)} {st : List Value} {h : am_H} {a : Nat} (ht : am_tc h a = none) (hc : ¬ a = am_CB) : am_ev 27 15 ls (.ref a :: st) h = am_ob (kAl a) (fun n => am_ev 27 16 ls (.int (Int32.ofNat n) :: st) h) := am_u_alK am_my_27 (by decide +kernel) ht hc
theorem e27_15 {ls : List (Option Value)} {st : List Value} {h : am_H} {a : Nat} {tc : Nat} (ht : am_tc h a = some tc) (h8 : tc ≤ 8) : am_ev 27 15 ls (.ref a :: st) h = am_ev 27 16 ls (.int (Int32.ofNat (am_len h a)) :: st) h := am_u_al am_my_27 (by decide +kernel) ht h8
theorem e27_16 {ls : List (Option Value)} {st : List Value} {h : am_H} {l0 l1 l2 : Option Value} {z : Option Value} {a : Int32} : am_ev 27 16 (l0 :: l1 :: l2 :: z :: ls) (.int a :: st) h = am_ev 27 17 (l0 :: l1 :: l2 :: some (.int a) :: ls) (st) h := am_ev_step (q := (17, l0 :: l1 :: l2 :: some (.int a) :: ls, st, h)) _ (.istore_n 3) 1 am_my_27 (by decide +kernel) rfl
theorem e27_17 {ls : List (Option Value)} {st : List Value} {h : am_H} : am_ev 27 17 (ls) (st) h = am_ev 27 18 (ls) (.int (0) :: st) h := am_ev_step (q := (18, ls, .int (0) :: st, h)) _ (.iconst (0)) 1 am_my_27 (by decide +kernel) rfl
theorem e27_18 {ls : List (Option Value)} {st : List Value} {h : am_H} {l0 l1 l2 l3 : Option Value} {z : Option Value} {a : Int32} : am_ev 27 18 (l0 :: l1 :: l2 :: l3 :: z :: ls) (.int a :: st) h = am_ev 27 20 (l0 :: l1 :: l2 :: l3 :: some (.int a) :: ls) (st) h := am_ev_step (q := (20, l0 :: l1 :: l2 :: l3 :: some (.int a) :: ls, st, h)) _ (.istore 4) 2 am_my_27 (by decide +kernel) rfl
theorem e27_20 {ls : List (Option Value)} {st : List Value} {h : am_H} {l0 l1 l2 l3 : Option Value} {a : Int32} : am_ev 27 20 (l0 :: l1 :: l2 :: l3 :: some (.int a) :: ls) (st) h = am_ev 27 22 (l0 :: l1 :: l2 :: l3 :: some (.int a) :: ls) (.int a :: st) h := am_ev_step (q := (22, l0 :: l1 :: l2 :: l3 :: some (.int a) :: ls, .int a :: st, h)) _ (.iload 4) 2 am_my_27 (by decide +kernel) rfl
theorem e27_22 {ls : List (Option Value)} {st : List Value} {h : am_H} {l0 l1 l2 : Option Value} {a : Int32} : am_ev 27 22 (l0 :: l1 :: l2 :: some (.int a) :: ls) (st) h = am_ev 27 23 (l0 :: l1 :: l2 :: some (.int a) :: ls) (.int a :: st) h := am_ev_step (q := (23, l0 :: l1 :: l2 :: some (.int a) :: ls, .int a :: st, h)) _ (.iload_n 3) 1 am_my_27 (by decide +kernel) rfl
theorem e27_23 {ls : List (Option Value)} {st : List Value} {h : am_H} {a b : Int32} : am_ev 27 23 ls (.int b :: .int a :: st) h = if b ≤ a then am_ev 27 62 ls st h else am_ev 27 26 ls st h := am_u_if2 (c := .ge) (off := 39) am_my_27 (by decide +kernel) (by decide)
theorem e27_26 {ls : List (Option Value)} {st : List Value} {h : am_H} {l0 l1 : Option Value} {a : Nat} : am_ev 27 26 (l0 :: l1 :: some (.ref a) :: ls) (st) h = am_ev 27 27 (l0 :: l1 :: some (.ref a) :: ls) (.ref a :: st) h := am_ev_step (q := (27, l0 :: l1 :: some (.ref a) :: ls, .ref a :: st, h)) _ (.aload_n 2) 1 am_my_27 (by decide +kernel) rfl
theorem e27_26n {ls : List (Option Value)} {st : List Value} {h : am_H} {l0 l1 : Option Value} : am_ev 27 26 (l0 :: l1 :: some .null :: ls) (st) h = am_ev 27 27 (l0 :: l1 :: some .null :: ls) (.null :: st) h := am_ev_step (q := (27, l0 :: l1 :: some .null :: ls, .null :: st, h)) _ (.aload_n 2) 1 am_my_27 (by decide +kernel) rfl
theorem e27_27 {ls : List (Option Value)} {st : List Value} {h : am_H} {l0 l1 l2 l3 : Option Value} {a : Int32} : am_ev 27 27 (l0 :: l1 :: l2 :: l3 :: some (.int a) :: ls) (st) h = am_ev 27 29 (l0 :: l1 :: l2 :: l3 :: some (.int a) :: ls) (.int a :: st) h := am_ev_step (q := (29, l0 :: l1 :: l2 :: l3 :: some (.int a) :: ls, .int a :: st, h)) _ (.iload 4) 2 am_my_27 (by decide +kernel) rfl
theorem e27_29k {ls : List (Option Value)} {st : List Value} {h : am_H} {i : Int32} {a : Nat} (ht : am_tc h a = none) : am_ev 27 29 ls (.int i :: .ref a :: st) h = am_ob (kAo a) (fun f => if am_ix i f.length = true then am_ev 27 30 ls (f.getD i.toNatClampNeg .null :: st) h else none) := am_u_rAK am_my_27 (by decide +kernel) ht
theorem e27_29f {ls : List (Option Value)} {st : List Value} {h : am_H} {i : Int32} {a : Nat} (ht : am_tc h a = some 4) : am_ev 27 29 ls (.int i :: .ref a :: st) h = if am_ix i (am_len h a) = true then am_ev 27 30 ls (va_rf (h.2.2.1 a i.toNatClampNeg) :: st) h else none := am_u_rA am_my_27 (by decide +kernel) ht (by decide)
theorem e27_29d {ls : List (Option Value)} {st : List Value} {h : am_H} {i : Int32} {a : Nat} (ht : am_tc h a = some 5) : am_ev 27 29 ls (.int i :: .ref a :: st) h = if am_ix i (am_len h a) = true then am_ev 27 30 ls (va_rf (h.2.2.1 a i.toNatClampNeg) :: st) h else none := am_u_rA am_my_27 (by decide +kernel) ht (by decide)
theorem e27_29b {ls : List (Option Value)} {st : List Value} {h : am_H} {i : Int32} {a : Nat} (ht : am_tc h a = some 6) : am_ev 27 29 ls (.int i :: .ref a :: st) h = if am_ix i (am_len h a) = true then am_ev 27 30 ls (va_rf (h.2.2.1 a i.toNatClampNeg) :: st) h else none := am_u_rA am_my_27 (by decide +kernel) ht (by decide)
theorem e27_29l {ls : List (Option Value)} {st : List Value} {h : am_H} {i : Int32} {a : Nat} (ht : am_tc h a = some 7) : am_ev 27 29 ls (.int i :: .ref a :: st) h = if am_ix i (am_len h a) = true then am_ev 27 30 ls (va_rf (h.2.2.1 a i.toNatClampNeg) :: st) h else none := am_u_rA am_my_27 (by decide +kernel) ht (by decide)
theorem e27_29t {ls : List (Option Value)} {st : List Value} {h : am_H} {i : Int32} {a : Nat} (ht : am_tc h a = some 8) : am_ev 27 29 ls (.int i :: .ref a :: st) h = if am_ix i (am_len h a) = true then am_ev 27 30 ls (va_rf (h.2.2.1 a i.toNatClampNeg) :: st) h else none := am_u_rA am_my_27 (by decide +kernel) ht (by decide)
theorem e27_30 {ls : List (Option Value)} {st : List Value} {h : am_H} {l0 l1 l2 l3 l4 : Option Value} {z : Option Value} {a : Nat} : am_ev 27 30 (l0 :: l1 :: l2 :: l3 :: l4 :: z :: ls) (.ref a :: st) h = am_ev 27 32 (l0 :: l1 :: l2 :: l3 :: l4 :: some (.ref a) :: ls) (st) h := am_ev_step (q := (32, l0 :: l1 :: l2 :: l3 :: l4 :: some (.ref a) :: ls, st, h)) _ (.astore 5) 2 am_my_27 (by decide +kernel) rfl
theorem e27_30n {ls : List (Option Value)} {st : List Value} {h : am_H} {l0 l1 l2 l3 l4 : Option Value} {z : Option Value} : am_ev 27 30 (l0 :: l1 :: l2 :: l3 :: l4 :: z :: ls) (.null :: st) h = am_ev 27 32 (l0 :: l1 :: l2 :: l3 :: l4 :: some .null :: ls) (st) h := am_ev_step (q := (32, l0 :: l1 :: l2 :: l3 :: l4 :: some .null :: ls, st, h)) _ (.astore 5) 2 am_my_27 (by decide +kernel) rfl
theorem e27_32 {ls : List (Option Value)} {st : List Value} {h : am_H} {l0 l1 l2 l3 l4 : Option Value} {a : Nat} : am_ev 27 32 (l0 :: l1 :: l2 :: l3 :: l4 :: some (.ref a) :: ls) (st) h = am_ev 27 34 (l0 :: l1 :: l2 :: l3 :: l4 :: some (.ref a) :: ls) (.ref a :: st) h := am_ev_step (q := (34, l0 :: l1 :: l2 :: l3 :: l4 :: some (.ref a) :: ls, .ref a :: st, h)) _ (.aload 5) 2 am_my_27 (by decide +kernel) rfl
theorem e27_32n {ls : List (Option Value)} {st : List Value} {h : am_H} {l0 l1 l2 l3 l4 : Option Value} : am_ev 27 32 (l0 :: l1 :: l2 :: l3 :: l4 :: some .null :: ls) (st) h = am_ev 27 34 (l0 :: l1 :: l2 :: l3 :: l4 :: some .null :: ls) (.null :: st) h := am_ev_step (q := (34, l0 :: l1 :: l2 :: l3 :: l4 :: some .null :: ls, .null :: st, h)) _ (.aload 5) 2 am_my_27 (by decide +kernel) rfl
theorem e27_34 {ls : List (Option Value)} {st : List Value} {h : am_H} {o : Nat} : am_ev 27 34 ls (.ref o :: st) h = am_ob (kOv o 11) (fun v => am_ev 27 37 ls (v :: st) h) := am_u_gfK (idx := 140) (wn := 8133) am_my_27 (by decide +kernel) (by decide +kernel) (by decide +kernel)
theorem e27_37 {ls : List (Option Value)} {st : List Value} {h : am_H} {l0 : Option Value} {a : Int32} : am_ev 27 37 (l0 :: some (.int a) :: ls) (st) h = am_ev 27 38 (l0 :: some (.int a) :: ls) (.int a :: st) h := am_ev_step (q := (38, l0 :: some (.int a) :: ls, .int a :: st, h)) _ (.iload_n 1) 1 am_my_27 (by decide +kernel) rfl
theorem e27_38 {ls : List (Option Value)} {st : List Value} {h : am_H} {a b : Int32} : am_ev 27 38 ls (.int b :: .int a :: st) h = if ¬ a = b then am_ev 27 56 ls st h else am_ev 27 41 ls st h := am_u_if2 (c := .ne) (off := 18) am_my_27 (by decide +kernel) (by decide)
theorem e27_41 {ls : List (Option Value)} {st : List Value} {h : am_H} {a : Nat} : am_ev 27 41 (some (.ref a) :: ls) (st) h = am_ev 27 42 (some (.ref a) :: ls) (.ref a :: st) h := am_ev_step (q := (42, some (.ref a) :: ls, .ref a :: st, h)) _ (.aload_n 0) 1 am_my_27 (by decide +kernel) rfl
theorem e27_41n {ls : List (Option Value)} {st : List Value} {h : am_H} : am_ev 27 41 (some .null :: ls) (st) h = am_ev 27 42 (some .null :: ls) (.null :: st) h := am_ev_step (q := (42, some .null :: ls, .null :: st, h)) _ (.aload_n 0) 1 am_my_27 (by decide +kernel) rfl
theorem e27_42 {ls : List (Option Value)} {st : List Value} {h : am_H} {l0 l1 l2 l3 l4 : Option Value} {a : Nat} : am_ev 27 42 (l0 :: l1 :: l2 :: l3 :: l4 :: some (.ref a) :: ls) (st) h = am_ev 27 44 (l0 :: l1 :: l2 :: l3 :: l4 :: some (.ref a) :: ls) (.ref a :: st) h := am_ev_step (q := (44, l0 :: l1 :: l2 :: l3 :: l4 :: some (.ref a) :: ls, .ref a :: st, h)) _ (.aload 5) 2 am_my_27 (by decide +kernel) rfl
theorem e27_42n {ls : List (Option Value)} {st : List Value} {h : am_H} {l0 l1 l2 l3 l4 : Option Value} : am_ev 27 42 (l0 :: l1 :: l2 :: l3 :: l4 :: some .null :: ls) (st) h = am_ev 27 44 (l0 :: l1 :: l2 :: l3 :: l4 :: some .null :: ls) (.null :: st) h := am_ev_step (q := (44, l0 :: l1 :: l2 :: l3 :: l4 :: some .null :: ls, .null :: st, h)) _ (.aload 5) 2 am_my_27 (by decide +kernel) rfl
theorem e27_44 {ls : List (Option Value)} {st : List Value} {h : am_H} {o : Nat} : am_ev 27 44 ls (.ref o :: st) h = am_ob (kOv o 12) (fun v => am_ev 27 47 ls (v :: st) h) := am_u_gfK (idx := 143) (wn := 8134) am_my_27 (by decide +kernel) (by decide +kernel) (by decide +kernel)
theorem e27_47 {ls : List (Option Value)} {st : List Value} {h : am_H} {p0 : Nat} {o : Nat} (hw : am_w8 st ≤ 8) (hk : am_kd h o = some (.inl 7)) : am_ev 27 47 ls (.ref p0 :: .ref o :: st) h = am_bd (am_den 28 [.ref o, .ref p0] h) (fun v h1 => am_ev 27 50 ls (v.toList ++ st) h1) := am_u_cV (idx := 146) (wn := 3008) (as := [.ref p0]) am_my_27 (by decide +kernel) (Or.inl (by decide +kernel)) am_my_28 (by decide +kernel) rfl ⟨Nat.le_of_ble_eq_true rfl, rfl⟩ (by decide +kernel) hw hk
theorem e27_50 {ls : List (Option Value)} {st : List Value} {h : am_H} {a : Int32} : am_ev 27 50 ls (.int a :: st) h = if a = 0 then am_ev 27 56 ls st h else am_ev 27 53 ls st h := am_u_if1 (c := .eq) (off := 6) am_my_27 (by decide +kernel) (by decide)
theorem e27_53 {ls : List (Option Value)} {st : List Value} {h : am_H} {l0 l1 l2 l3 l4 : Option Value} {a : Nat} : am_ev 27 53 (l0 :: l1 :: l2 :: l3 :: l4 :: some (.ref a) :: ls) (st) h = am_ev 27 55 (l0 :: l1 :: l2 :: l3 :: l4 :: some (.ref a) :: ls) (.ref a :: st) h := am_ev_step (q := (55, l0 :: l1 :: l2 :: l3 :: l4 :: some (.ref a) :: ls, .ref a :: st, h)) _ (.aload 5) 2 am_my_27 (by decide +kernel) rfl
theorem e27_53n {ls : List (Option Value)} {st : List Value} {h : am_H} {l0 l1 l2 l3 l4 : Option Value} : am_ev 27 53 (l0 :: l1 :: l2 :: l3 :: l4 :: some .null :: ls) (st) h = am_ev 27 55 (l0 :: l1 :: l2 :: l3 :: l4 :: some .null :: ls) (.null :: st) h := am_ev_step (q := (55, l0 :: l1 :: l2 :: l3 :: l4 :: some .null :: ls, .null :: st, h)) _ (.aload 5) 2 am_my_27 (by decide +kernel) rfl
theorem e27_55 {ls : List (Option Value)} {h : am_H} {a : Nat} : am_ev 27 55 ls [.ref a] h = some (some (.ref a), h) := am_u_rtA am_my_27 (by decide +kernel) rfl (Or.inl ⟨a, rfl⟩)
theorem e27_55n {ls : List (Option Value)} {h : am_H} : am_ev 27 55 ls [.null] h = some (some .null, h) := am_u_rtA am_my_27 (by decide +kernel) rfl (Or.inr rfl)
theorem e27_56 {ls : List (Option Value)} {st : List Value} {h : am_H} {l0 l1 l2 l3 : Option Value} {a : Int32} : am_ev 27 56 (l0 :: l1 :: l2 :: l3 :: some (.int a) :: ls) (st) h = am_ev 27 59 (l0 :: l1 :: l2 :: l3 :: some (.int (a + (1))) :: ls) (st) h := am_ev_step (q := (59, l0 :: l1 :: l2 :: l3 :: some (.int (a + (1))) :: ls, st, h)) _ (.iinc 4 (1)) 3 am_my_27 (by decide +kernel) rfl
theorem e27_59 {ls : List (Option Value)} {st : List Value} {h : am_H} : am_ev 27 59 (ls) (st) h = am_ev 27 20 (ls) (st) h := am_ev_step (q := (20, ls, st, h)) _ (.goto (-39)) 3 am_my_27 (by decide +kernel) rfl
theorem e27_62 {ls : List (Option Value)} {st : List Value} {h : am_H} : am_ev 27 62 (ls) (st) h = am_ev 27 63 (ls) (.null :: st) h := am_ev_step (q := (63, ls, .null :: st, h)) _ (.aconst_null) 1 am_my_27 (by decide +kernel) rfl
theorem e27_63 {ls : List (Option Value)} {h : am_H} {a : Nat} : am_ev 27 63 ls [.ref a] h = some (some (.ref a), h) := am_u_rtA am_my_27 (by decide +kernel) rfl (Or.inl ⟨a, rfl⟩)
theorem e27_63n {ls : List (Option Value)} {h : am_H} : am_ev 27 63 ls [.null] h = some (some .null, h) := am_u_rtA am_my_27 (by decide +kernel) rfl (Or.inr rfl)
/-- the bytes of a token -/
def t_w (t : Nat → Nat) (s n : Nat) : List Nat := (List.range n).map (fun i => t (s + i))
theorem t_w_len (t : Nat → Nat) (s n : Nat) : (t_w t s n).length = n := by unfold t_w; rw [List.length_map, List.length_range]
theorem t_w_get (t : Nat → Nat) (s n j : Nat) (h : j < (t_w t s n).length) : (t_w t s n)[j]'h = t (s + j) := by simp [t_w]
def t_eqw (t : Nat → Nat) (s : Nat) (w : List Nat) : Nat → Nat → Bool
  | 0, _ => true
  | r + 1, i => if t (s + i) = w.getD i 0 then t_eqw t s w r (i + 1) else false
theorem t_eqw_iff (t : Nat → Nat) (s : Nat) (w : List Nat) : ∀ r i, t_eqw t s w r i = true ↔ ∀ j, i ≤ j → j < i + r → t (s + j) = w.getD j 0 := by
  intro r
  induction r with
  | zero => exact fun i => ⟨fun _ j h1 h2 => absurd h2 (by omega), fun _ => rfl⟩
  | succ r ih =>
    intro i
    unfold t_eqw
    by_cases c : t (s + i) = w.getD i 0
    · rw [if_pos c, ih (i + 1)]
      refine ⟨fun q j h1 h2 => ?_, fun q j h1 h2 => q j (by omega) (by omega)⟩
      by_cases e : j = i
      · rw [e]; exact c
      · exact q j (by omega) (by omega)
    · rw [if_neg c]
      exact ⟨fun q => absurd q (by decide), fun q => absurd (q i (Nat.le_refl _) (by omega)) c⟩
theorem t_eqw_w (t : Nat → Nat) (s : Nat) (w : List Nat) : t_eqw t s w w.length 0 = decide (t_w t s w.length = w) := by
  have key : t_eqw t s w w.length 0 = true ↔ t_w t s w.length = w := by
    rw [t_eqw_iff]
    constructor
    · intro q
      refine List.ext_getElem (t_w_len _ _ _) (fun j h1 h2 => ?_)
      have q1 := q j (Nat.zero_le _) (by omega)
      rw [List.getD_eq_getElem?_getD, List.getElem?_eq_getElem h2] at q1
      rw [t_w_get]
      exact q1
    · intro q j _ hj
      have hj' : j < w.length := by omega
      rw [List.getD_eq_getElem?_getD, List.getElem?_eq_getElem hj']
      show t (s + j) = w[j]
      have e : (t_w t s w.length)[j]'(by rw [t_w_len]; exact hj') = t (s + j) := t_w_get _ _ _ _ _
      rw [← e]
      exact List.getElem_of_eq q _
  cases c : t_eqw t s w w.length 0 with
  | true => exact (decide_eq_true (key.mp c)).symm
  | false => exact (decide_eq_false (fun q => by rw [key.mpr q] at c; cases c)).symm
theorem t_iw (h : am_H) (t : Nat → Nat) (L : Nat) (x : t_cx h t L) (s c : Nat) (w : List Nat) (hw : ks c w) (hs : s + w.length ≤ L) (e2 : h.1 159 11 = nI s) : ∀ (r i : Nat), i + r = w.length → am_ev 28 20 [some (.ref 159), some (.ref c), some (.int (nI i))] [] h = some (some (.int (q_bi (t_eqw t s w r i))), h) := by
  have L6 := x.2.1
  have w9 := hw.2.2.2.2
  have ok := x.1
  have ds := den_slen c w hw h ok
  have b1 : q_bi true = 1 := rfl
  have b0 : q_bi false = 0 := rfl
  intro r
  induction r with
  | zero =>
    intro i hi
    obtain rfl : i = w.length := by omega
    have h1 : nI w.length ≤ nI w.length := Int32.le_refl _
    rw [e28_20]
    simp only [e28_0, e28_0n, e28_1, e28_4, e28_4n, e28_5, e28_8, e28_8n, e28_9, e28_12, e28_13, e28_16, e28_17, e28_18, e28_19, e28_21, e28_21n, e28_22, e28_25, e28_28, e28_28n, e28_29, e28_32, e28_32n, e28_33, e28_36, e28_37, e28_38k, e28_38, e28_38z, e28_39, e28_39n, e28_40, e28_41, e28_44, e28_47, e28_48, e28_49, e28_52, e28_55, e28_56, am_bd_some, Option.toList_some, Option.toList_none, List.cons_append, List.nil_append, am_w8_0, am_w8_1, am_w8_2, am_w8_3, am_w8_4, eq_self, or_true, true_or, am_kd_sI, am_kd_sL, am_kd_sR, am_tc_sI, am_tc_sL, am_tc_sR, am_len_sI, am_len_sL, am_len_sR, am_rfs, if_true, if_false, am_rdL_sI, am_rR_sL, am_rt_cq, am_kd_cq, am_tc_cq, am_len_cq, am_rd_sL, am_rd_sR, am_rdL_sR, hw.1, ds, h1, t_eqw, b1]
  | succ r ih =>
    intro i hi
    have h1 : ¬ nI w.length ≤ nI i := nI_ge (by omega) (by omega)
    have xi : am_ix (nI (s + i)) 600 = true := am_ix_nI (by omega) (by decide)
    have z : (nI (s + i)).toNatClampNeg = s + i := nI_clamp (by omega)
    have dc := den_schar c w hw i (by omega) h ok
    have wl := hw.2.2.2.1 _ (t_gmem w i (by omega))
    have eb := t_by_eq (h.1 2 (s + i)) wl
    rw [x.2.2.2.2 (s + i) (by omega)] at eb
    rw [e28_20]
    unfold t_eqw
    by_cases c1 : t (s + i) = w.getD i 0
    · have c1' := eq_true (eb.mpr c1)
      rw [if_pos c1, ← ih (i + 1) (by omega)]
      simp only [e28_0, e28_0n, e28_1, e28_4, e28_4n, e28_5, e28_8, e28_8n, e28_9, e28_12, e28_13, e28_16, e28_17, e28_18, e28_19, e28_21, e28_21n, e28_22, e28_25, e28_28, e28_28n, e28_29, e28_32, e28_32n, e28_33, e28_36, e28_37, e28_38k, e28_38, e28_38z, e28_39, e28_39n, e28_40, e28_41, e28_44, e28_47, e28_48, e28_49, e28_52, e28_55, e28_56, am_bd_some, Option.toList_some, Option.toList_none, List.cons_append, List.nil_append, am_w8_0, am_w8_1, am_w8_2, am_w8_3, am_w8_4, eq_self, or_true, true_or, am_kd_sI, am_kd_sL, am_kd_sR, am_tc_sI, am_tc_sL, am_tc_sR, am_len_sI, am_len_sL, am_len_sR, am_rfs, if_true, if_false, am_rdL_sI, am_rR_sL, am_rt_cq, am_kd_cq, am_tc_cq, am_len_cq, am_rd_sL, am_rd_sR, am_rdL_sR, hw.1, ds, h1, okK_159 ok, x.2.2.1, e2, nI_add, okT_2 ok, okL_2 ok, xi, z, dc, c1', nI_1]
    · have c1' := eq_false (fun q => c1 (eb.mp q))
      rw [if_neg c1, b0]
      simp only [e28_0, e28_0n, e28_1, e28_4, e28_4n, e28_5, e28_8, e28_8n, e28_9, e28_12, e28_13, e28_16, e28_17, e28_18, e28_19, e28_21, e28_21n, e28_22, e28_25, e28_28, e28_28n, e28_29, e28_32, e28_32n, e28_33, e28_36, e28_37, e28_38k, e28_38, e28_38z, e28_39, e28_39n, e28_40, e28_41, e28_44, e28_47, e28_48, e28_49, e28_52, e28_55, e28_56, am_bd_some, Option.toList_some, Option.toList_none, List.cons_append, List.nil_append, am_w8_0, am_w8_1, am_w8_2, am_w8_3, am_w8_4, eq_self, or_true, true_or, am_kd_sI, am_kd_sL, am_kd_sR, am_tc_sI, am_tc_sL, am_tc_sR, am_len_sI, am_len_sL, am_len_sR, am_rfs, if_true, if_false, am_rdL_sI, am_rR_sL, am_rt_cq, am_kd_cq, am_tc_cq, am_len_cq, am_rd_sL, am_rd_sR, am_rdL_sR, hw.1, ds, h1, okK_159 ok, x.2.2.1, e2, nI_add, okT_2 ok, okL_2 ok, xi, z, dc, c1']
theorem den_isWord (h : am_H) (t : Nat → Nat) (L : Nat) (x : t_cx h t L) (s e c : Nat) (w : List Nat) (hw : ks c w) (hs : s ≤ e) (he : e ≤ L) (e1 : h.1 159 9 = nI e) (e2 : h.1 159 11 = nI s) : am_den 28 [.ref 159, .ref c] h = some (some (.int (q_bi (decide (t_w t s (e - s) = w)))), h) := by
  have L6 := x.2.1
  have w9 := hw.2.2.2.2
  have ok := x.1
  have ds := den_slen c w hw h ok
  have sb := t_sub hs
  have q1 := nI_eq (a := w.length) (b := e - s) (by omega) (by omega)
  have b0 : q_bi false = 0 := rfl
  show am_ev 28 0 [some (.ref 159), some (.ref c), none] [] h = _
  by_cases c1 : w.length = e - s
  · have c1' := eq_true (q1.mpr c1)
    have lp := t_iw h t L x s c w hw (by omega) e2 w.length 0 (Nat.zero_add _)
    rw [← c1, ← t_eqw_w, ← lp]
    have sb' : nI e - nI s = nI w.length := by rw [c1]; exact sb
    have r1 : (nI w.length = nI w.length) = True := eq_true rfl
    simp only [e28_0, e28_0n, e28_1, e28_4, e28_4n, e28_5, e28_8, e28_8n, e28_9, e28_12, e28_13, e28_16, e28_17, e28_18, e28_19, e28_21, e28_21n, e28_22, e28_25, e28_28, e28_28n, e28_29, e28_32, e28_32n, e28_33, e28_36, e28_37, e28_38k, e28_38, e28_38z, e28_39, e28_39n, e28_40, e28_41, e28_44, e28_47, e28_48, e28_49, e28_52, e28_55, e28_56, am_bd_some, Option.toList_some, Option.toList_none, List.cons_append, List.nil_append, am_w8_0, am_w8_1, am_w8_2, am_w8_3, am_w8_4, eq_self, or_true, true_or, am_kd_sI, am_kd_sL, am_kd_sR, am_tc_sI, am_tc_sL, am_tc_sR, am_len_sI, am_len_sL, am_len_sR, am_rfs, if_true, if_false, am_rdL_sI, am_rR_sL, am_rt_cq, am_kd_cq, am_tc_cq, am_len_cq, am_rd_sL, am_rd_sR, am_rdL_sR, hw.1, ds, okK_159 ok, e1, e2, sb', r1]
    rfl
  · have c1' := eq_false (fun q => c1 (q1.mp q))
    have d : decide (t_w t s (e - s) = w) = false := decide_eq_false (fun q => c1 (by rw [← q, t_w_len]))
    rw [d, b0]
    simp only [e28_0, e28_0n, e28_1, e28_4, e28_4n, e28_5, e28_8, e28_8n, e28_9, e28_12, e28_13, e28_16, e28_17, e28_18, e28_19, e28_21, e28_21n, e28_22, e28_25, e28_28, e28_28n, e28_29, e28_32, e28_32n, e28_33, e28_36, e28_37, e28_38k, e28_38, e28_38z, e28_39, e28_39n, e28_40, e28_41, e28_44, e28_47, e28_48, e28_49, e28_52, e28_55, e28_56, am_bd_some, Option.toList_some, Option.toList_none, List.cons_append, List.nil_append, am_w8_0, am_w8_1, am_w8_2, am_w8_3, am_w8_4, eq_self, or_true, true_or, am_kd_sI, am_kd_sL, am_kd_sR, am_tc_sI, am_tc_sL, am_tc_sR, am_len_sI, am_len_sL, am_len_sR, am_rfs, if_true, if_false, am_rdL_sI, am_rR_sL, am_rt_cq, am_kd_cq, am_tc_cq, am_len_cq, am_rd_sL, am_rd_sR, am_rdL_sR, hw.1, ds, okK_159 ok, e1, e2, sb, c1']
theorem ln_s_lt : ∀ i, i < 18 → ln_s i < 4 := by decide +kernel
def t_lx (so : Nat) (w : List Nat) : Nat → Nat → Option Nat
  | 0, _ => none
  | r + 1, i => if ln_s i = so ∧ w = ln_w i then some i else t_lx so w r (i + 1)
def t_lv (o : Option Nat) : Value := match o with
  | some i => .ref (1048578 + i)
  | none => .null
theorem t_la (h : am_H) (t : Nat → Nat) (L : Nat) (x : t_cx h t L) (s e so : Nat) (hs : s ≤ e) (he : e ≤ L) (e1 : h.1 159 9 = nI e) (e2 : h.1 159 11 = nI s) (hso : so < 4) : ∀ (r i : Nat) (z : Option Value), i + r = 18 → am_ev 27 20 [some (.ref 159), some (.int (nI so)), some (.ref 1048577), some (.int 18), some (.int (nI i)), z] [] h = some (some (t_lv (t_lx so (t_w t s (e - s)) r i)), h) := by
  have ok := x.1
  have n18 : (18 : Int32) = nI 18 := rfl
  intro r
  induction r with
  | zero =>
    intro i z hi
    obtain rfl : i = 18 := by omega
    have h1 : (18 : Int32) ≤ nI 18 := by decide
    rw [e27_20]
    simp only [e27_0, e27_0n, e27_1, e27_4, e27_5, e27_8, e27_9, e27_9n, e27_10, e27_13, e27_13n, e27_14, e27_14n, e27_15k, e27_15, e27_16, e27_17, e27_18, e27_22, e27_23, e27_26, e27_26n, e27_27, e27_29k, e27_29f, e27_29d, e27_29b, e27_29l, e27_29t, e27_30, e27_30n, e27_32, e27_32n, e27_34, e27_37, e27_38, e27_41, e27_41n, e27_42, e27_42n, e27_44, e27_47, e27_50, e27_53, e27_53n, e27_55, e27_55n, e27_56, e27_59, e27_62, e27_63, e27_63n, am_bd_some, Option.toList_some, Option.toList_none, List.cons_append, List.nil_append, am_w8_0, am_w8_1, am_w8_2, am_w8_3, am_w8_4, eq_self, or_true, true_or, am_kd_sI, am_kd_sL, am_kd_sR, am_tc_sI, am_tc_sL, am_tc_sR, am_len_sI, am_len_sL, am_len_sR, am_rfs, if_true, if_false, am_rdL_sI, am_rR_sL, am_rt_cq, am_kd_cq, am_tc_cq, am_len_cq, am_rd_sL, am_rd_sR, am_rdL_sR, h1, t_lx]
    rfl
  | succ r ih =>
    intro i z hi
    have i18 : i < 18 := by omega
    have h1 : ¬ (18 : Int32) ≤ nI i := by rw [n18]; exact nI_ge (by omega) (by omega)
    have tf := okT_far ok (show am_CB ≤ 1048577 by decide)
    have xi : am_ix (nI i) 18 = true := am_ix_nI i18 (by decide)
    have zi : (nI i).toNatClampNeg = i := nI_clamp (by omega)
    have gd : ((List.range 18).map (fun i => Value.ref (1048578 + i))).getD i .null = .ref (1048578 + i) := by
      rw [List.getD_eq_getElem?_getD, List.getElem?_map, List.getElem?_range i18]
      rfl
    obtain ⟨k1, k2, k3, k4, k5, k6⟩ := ln_ok i18
    have dw := den_isWord h t L x s e (ln_ws i) (ln_w i) k5 hs he e1 e2
    have q1 := nI_eq (a := ln_s i) (b := so) (by have := ln_s_lt i i18; omega) (by omega)
    have ll : ((List.range 18).map (fun i => Value.ref (1048578 + i))).length = 18 := by decide
    rw [e27_20]
    unfold t_lx
    by_cases c1 : ln_s i = so
    · have c1' := eq_true (q1.mpr c1)
      by_cases c2 : t_w t s (e - s) = ln_w i
      · have dd : q_bi (decide (t_w t s (e - s) = ln_w i)) = 1 := by rw [decide_eq_true c2]; rfl
        have y : ¬ (1 : Int32) = 0 := by decide
        rw [dd] at dw
        rw [if_pos ⟨c1, c2⟩]
        simp only [e27_0, e27_0n, e27_1, e27_4, e27_5, e27_8, e27_9, e27_9n, e27_10, e27_13, e27_13n, e27_14, e27_14n, e27_15k, e27_15, e27_16, e27_17, e27_18, e27_22, e27_23, e27_26, e27_26n, e27_27, e27_29k, e27_29f, e27_29d, e27_29b, e27_29l, e27_29t, e27_30, e27_30n, e27_32, e27_32n, e27_34, e27_37, e27_38, e27_41, e27_41n, e27_42, e27_42n, e27_44, e27_47, e27_50, e27_53, e27_53n, e27_55, e27_55n, e27_56, e27_59, e27_62, e27_63, e27_63n, am_bd_some, Option.toList_some, Option.toList_none, List.cons_append, List.nil_append, am_w8_0, am_w8_1, am_w8_2, am_w8_3, am_w8_4, eq_self, or_true, true_or, am_kd_sI, am_kd_sL, am_kd_sR, am_tc_sI, am_tc_sL, am_tc_sR, am_len_sI, am_len_sL, am_len_sR, am_rfs, if_true, if_false, am_rdL_sI, am_rR_sL, am_rt_cq, am_kd_cq, am_tc_cq, am_len_cq, am_rd_sL, am_rd_sR, am_rdL_sR, h1, tf, ln_all, am_ob_some, ll, xi, zi, gd, k1, c1', not_true, k3, okK_159 ok, dw, y]
        rfl
      · have dd : q_bi (decide (t_w t s (e - s) = ln_w i)) = 0 := by rw [decide_eq_false c2]; rfl
        rw [dd] at dw
        rw [if_neg (fun q => c2 q.2), ← ih (i + 1) (some (.ref (1048578 + i))) (by omega)]
        simp only [e27_0, e27_0n, e27_1, e27_4, e27_5, e27_8, e27_9, e27_9n, e27_10, e27_13, e27_13n, e27_14, e27_14n, e27_15k, e27_15, e27_16, e27_17, e27_18, e27_22, e27_23, e27_26, e27_26n, e27_27, e27_29k, e27_29f, e27_29d, e27_29b, e27_29l, e27_29t, e27_30, e27_30n, e27_32, e27_32n, e27_34, e27_37, e27_38, e27_41, e27_41n, e27_42, e27_42n, e27_44, e27_47, e27_50, e27_53, e27_53n, e27_55, e27_55n, e27_56, e27_59, e27_62, e27_63, e27_63n, am_bd_some, Option.toList_some, Option.toList_none, List.cons_append, List.nil_append, am_w8_0, am_w8_1, am_w8_2, am_w8_3, am_w8_4, eq_self, or_true, true_or, am_kd_sI, am_kd_sL, am_kd_sR, am_tc_sI, am_tc_sL, am_tc_sR, am_len_sI, am_len_sL, am_len_sR, am_rfs, if_true, if_false, am_rdL_sI, am_rR_sL, am_rt_cq, am_kd_cq, am_tc_cq, am_len_cq, am_rd_sL, am_rd_sR, am_rdL_sR, h1, tf, ln_all, am_ob_some, ll, xi, zi, gd, k1, c1', not_true, k3, okK_159 ok, dw, nI_1]
    · have c1' := eq_false (fun q => c1 (q1.mp q))
      rw [if_neg (fun q => c1 q.1), ← ih (i + 1) (some (.ref (1048578 + i))) (by omega)]
      simp only [e27_0, e27_0n, e27_1, e27_4, e27_5, e27_8, e27_9, e27_9n, e27_10, e27_13, e27_13n, e27_14, e27_14n, e27_15k, e27_15, e27_16, e27_17, e27_18, e27_22, e27_23, e27_26, e27_26n, e27_27, e27_29k, e27_29f, e27_29d, e27_29b, e27_29l, e27_29t, e27_30, e27_30n, e27_32, e27_32n, e27_34, e27_37, e27_38, e27_41, e27_41n, e27_42, e27_42n, e27_44, e27_47, e27_50, e27_53, e27_53n, e27_55, e27_55n, e27_56, e27_59, e27_62, e27_63, e27_63n, am_bd_some, Option.toList_some, Option.toList_none, List.cons_append, List.nil_append, am_w8_0, am_w8_1, am_w8_2, am_w8_3, am_w8_4, eq_self, or_true, true_or, am_kd_sI, am_kd_sL, am_kd_sR, am_tc_sI, am_tc_sL, am_tc_sR, am_len_sI, am_len_sL, am_len_sR, am_rfs, if_true, if_false, am_rdL_sI, am_rR_sL, am_rt_cq, am_kd_cq, am_tc_cq, am_len_cq, am_rd_sL, am_rd_sR, am_rdL_sR, h1, tf, ln_all, am_ob_some, ll, xi, zi, gd, k1, c1', not_false_eq_true, nI_1]
/-- the line whose word is at s -/
def t_ln (t : Nat → Nat) (L so s : Nat) : Option Nat := if t_C t L s = 1 then t_lx so (t_w t s (t_at t L s - s)) 18 0 else none
theorem den_lineAt (h : am_H) (t : Nat → Nat) (L : Nat) (x : t_cx h t L) (s so : Nat) (hs : s ≤ t_at t L s) (he : t_at t L s ≤ L) (e1 : h.1 159 9 = nI (t_at t L s)) (e2 : h.1 159 11 = nI s) (e3 : h.1 159 10 = t_C t L s) (hso : so < 4) : am_den 27 [.ref 159, .int (nI so)] h = some (some (t_lv (t_ln t L so s)), h) := by
  have ok := x.1
  unfold t_ln
  show am_ev 27 0 [some (.ref 159), some (.int (nI so)), none, none, none, none] [] h = _
  by_cases c : t_C t L s = 1
  · have lp := t_la h t L x s (t_at t L s) so hs he e1 e2 hso 18 0 none (by decide)
    have tf := okT_far ok (show am_CB ≤ 1048577 by decide)
    have nb : ¬ 1048577 = am_CB := by decide
    have c' := eq_true c
    rw [if_pos c, ← lp]
    simp only [e27_0, e27_0n, e27_1, e27_4, e27_5, e27_8, e27_9, e27_9n, e27_10, e27_13, e27_13n, e27_14, e27_14n, e27_15k, e27_15, e27_16, e27_17, e27_18, e27_22, e27_23, e27_26, e27_26n, e27_27, e27_29k, e27_29f, e27_29d, e27_29b, e27_29l, e27_29t, e27_30, e27_30n, e27_32, e27_32n, e27_34, e27_37, e27_38, e27_41, e27_41n, e27_42, e27_42n, e27_44, e27_47, e27_50, e27_53, e27_53n, e27_55, e27_55n, e27_56, e27_59, e27_62, e27_63, e27_63n, am_bd_some, Option.toList_some, Option.toList_none, List.cons_append, List.nil_append, am_w8_0, am_w8_1, am_w8_2, am_w8_3, am_w8_4, eq_self, or_true, true_or, am_kd_sI, am_kd_sL, am_kd_sR, am_tc_sI, am_tc_sL, am_tc_sR, am_len_sI, am_len_sL, am_len_sR, am_rfs, if_true, if_false, am_rdL_sI, am_rR_sL, am_rt_cq, am_kd_cq, am_tc_cq, am_len_cq, am_rd_sL, am_rd_sR, am_rdL_sR, okK_159 ok, e3, c', tf, nb, not_false_eq_true, ln_all_l, am_ob_some]
    rfl
  · have c' := eq_false c
    rw [if_neg c]
    simp only [e27_0, e27_0n, e27_1, e27_4, e27_5, e27_8, e27_9, e27_9n, e27_10, e27_13, e27_13n, e27_14, e27_14n, e27_15k, e27_15, e27_16, e27_17, e27_18, e27_22, e27_23, e27_26, e27_26n, e27_27, e27_29k, e27_29f, e27_29d, e27_29b, e27_29l, e27_29t, e27_30, e27_30n, e27_32, e27_32n, e27_34, e27_37, e27_38, e27_41, e27_41n, e27_42, e27_42n, e27_44, e27_47, e27_50, e27_53, e27_53n, e27_55, e27_55n, e27_56, e27_59, e27_62, e27_63, e27_63n, am_bd_some, Option.toList_some, Option.toList_none, List.cons_append, List.nil_append, am_w8_0, am_w8_1, am_w8_2, am_w8_3, am_w8_4, eq_self, or_true, true_or, am_kd_sI, am_kd_sL, am_kd_sR, am_tc_sI, am_tc_sL, am_tc_sR, am_len_sI, am_len_sL, am_len_sR, am_rfs, if_true, if_false, am_rdL_sI, am_rR_sL, am_rt_cq, am_kd_cq, am_tc_cq, am_len_cq, am_rd_sL, am_rd_sR, am_rdL_sR, okK_159 ok, e3, c']
    rfl
