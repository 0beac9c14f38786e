/-! part 9W: the class reads a text -/
theorem e3_0 {ls : List (Option Value)} {st : List Value} {h : am_H} {a : Nat} : am_ev 3 0 (some (.ref a) :: ls) (st) h = am_ev 3 1 (some (.ref a) :: ls) (.ref a :: st) h := am_ev_step (q := (1, some (.ref a) :: ls, .ref a :: st, h)) _ (.aload_n 0) 1 am_my_3 (by decide +kernel) rfl
theorem e3_1 {ls : List (Option Value)} {st : List Value} {h : am_H} : am_ev 3 1 (ls) (st) h = am_ev 3 3 (ls) (.int (6) :: st) h := am_ev_step (q := (3, ls, .int (6) :: st, h)) _ (.bipush (6)) 2 am_my_3 (by decide +kernel) rfl
theorem e3_3 {ls : List (Option Value)} {st : List Value} {h : am_H} {o : Nat} {v : Int32} (hk : am_kd h o = some (.inl 3)) : am_ev 3 3 ls (.int v :: .ref o :: st) h = am_ev 3 6 ls st (am_sI h o 0 v) := am_u_pfI (idx := 21) (wn := 1055) am_my_3 (by decide +kernel) (by decide +kernel) (by decide +kernel) (by decide +kernel) hk
theorem e3_6 {ls : List (Option Value)} {st : List Value} {h : am_H} {a : Nat} : am_ev 3 6 (some (.ref a) :: ls) (st) h = am_ev 3 7 (some (.ref a) :: ls) (.ref a :: st) h := am_ev_step (q := (7, some (.ref a) :: ls, .ref a :: st, h)) _ (.aload_n 0) 1 am_my_3 (by decide +kernel) rfl
theorem e3_7 {ls : List (Option Value)} {st : List Value} {h : am_H} : am_ev 3 7 (ls) (st) h = am_ev 3 9 (ls) (.int (6) :: st) h := am_ev_step (q := (9, ls, .int (6) :: st, h)) _ (.bipush (6)) 2 am_my_3 (by decide +kernel) rfl
theorem e3_9 {ls : List (Option Value)} {st : List Value} {h : am_H} {o : Nat} {v : Int32} (hk : am_kd h o = some (.inl 3)) : am_ev 3 9 ls (.int v :: .ref o :: st) h = am_ev 3 12 ls st (am_sI h o 1 v) := am_u_pfI (idx := 25) (wn := 1056) am_my_3 (by decide +kernel) (by decide +kernel) (by decide +kernel) (by decide +kernel) hk
theorem e3_12 {ls : List (Option Value)} {st : List Value} {h : am_H} {a : Nat} : am_ev 3 12 (some (.ref a) :: ls) (st) h = am_ev 3 13 (some (.ref a) :: ls) (.ref a :: st) h := am_ev_step (q := (13, some (.ref a) :: ls, .ref a :: st, h)) _ (.aload_n 0) 1 am_my_3 (by decide +kernel) rfl
theorem e3_13 {ls : List (Option Value)} {st : List Value} {h : am_H} : am_ev 3 13 (ls) (st) h = am_ev 3 14 (ls) (.int (0) :: st) h := am_ev_step (q := (14, ls, .int (0) :: st, h)) _ (.iconst (0)) 1 am_my_3 (by decide +kernel) rfl
theorem e3_14 {ls : List (Option Value)} {st : List Value} {h : am_H} {o : Nat} {v : Int32} (hk : am_kd h o = some (.inl 3)) : am_ev 3 14 ls (.int v :: .ref o :: st) h = am_ev 3 17 ls st (am_sI h o 2 v) := am_u_pfI (idx := 28) (wn := 1057) am_my_3 (by decide +kernel) (by decide +kernel) (by decide +kernel) (by decide +kernel) hk
theorem e3_17 {ls : List (Option Value)} {st : List Value} {h : am_H} {a : Nat} : am_ev 3 17 (some (.ref a) :: ls) (st) h = am_ev 3 18 (some (.ref a) :: ls) (.ref a :: st) h := am_ev_step (q := (18, some (.ref a) :: ls, .ref a :: st, h)) _ (.aload_n 0) 1 am_my_3 (by decide +kernel) rfl
theorem e3_18 {ls : List (Option Value)} {st : List Value} {h : am_H} : am_ev 3 18 (ls) (st) h = am_ev 3 20 (ls) (.int (9) :: st) h := am_ev_step (q := (20, ls, .int (9) :: st, h)) _ (.bipush (9)) 2 am_my_3 (by decide +kernel) rfl
theorem e3_20 {ls : List (Option Value)} {st : List Value} {h : am_H} {o : Nat} {v : Int32} (hk : am_kd h o = some (.inl 3)) : am_ev 3 20 ls (.int v :: .ref o :: st) h = am_ev 3 23 ls st (am_sI h o 3 v) := am_u_pfI (idx := 31) (wn := 1061) am_my_3 (by decide +kernel) (by decide +kernel) (by decide +kernel) (by decide +kernel) hk
theorem e3_23 {ls : List (Option Value)} {st : List Value} {h : am_H} {a : Nat} : am_ev 3 23 (some (.ref a) :: ls) (st) h = am_ev 3 24 (some (.ref a) :: ls) (.ref a :: st) h := am_ev_step (q := (24, some (.ref a) :: ls, .ref a :: st, h)) _ (.aload_n 0) 1 am_my_3 (by decide +kernel) rfl
theorem e3_24 {ls : List (Option Value)} {st : List Value} {h : am_H} : am_ev 3 24 (ls) (st) h = am_ev 3 25 (ls) (.int (3) :: st) h := am_ev_step (q := (25, ls, .int (3) :: st, h)) _ (.iconst (3)) 1 am_my_3 (by decide +kernel) rfl
theorem e3_25 {ls : List (Option Value)} {st : List Value} {h : am_H} {o : Nat} {v : Int32} (hk : am_kd h o = some (.inl 3)) : am_ev 3 25 ls (.int v :: .ref o :: st) h = am_ev 3 28 ls st (am_sI h o 4 v) := am_u_pfI (idx := 34) (wn := 1062) am_my_3 (by decide +kernel) (by decide +kernel) (by decide +kernel) (by decide +kernel) hk
theorem e3_28 {ls : List (Option Value)} {st : List Value} {h : am_H} {a : Nat} : am_ev 3 28 (some (.ref a) :: ls) (st) h = am_ev 3 29 (some (.ref a) :: ls) (.ref a :: st) h := am_ev_step (q := (29, some (.ref a) :: ls, .ref a :: st, h)) _ (.aload_n 0) 1 am_my_3 (by decide +kernel) rfl
theorem e3_29 {ls : List (Option Value)} {st : List Value} {h : am_H} : am_ev 3 29 (ls) (st) h = am_ev 3 30 (ls) (.int (0) :: st) h := am_ev_step (q := (30, ls, .int (0) :: st, h)) _ (.iconst (0)) 1 am_my_3 (by decide +kernel) rfl
theorem e3_30 {ls : List (Option Value)} {st : List Value} {h : am_H} {o : Nat} {v : Int32} (hk : am_kd h o = some (.inl 3)) : am_ev 3 30 ls (.int v :: .ref o :: st) h = am_ev 3 33 ls st (am_sI h o 5 v) := am_u_pfI (idx := 37) (wn := 1064) am_my_3 (by decide +kernel) (by decide +kernel) (by decide +kernel) (by decide +kernel) hk
theorem e3_33 {ls : List (Option Value)} {st : List Value} {h : am_H} {a : Nat} : am_ev 3 33 (some (.ref a) :: ls) (st) h = am_ev 3 34 (some (.ref a) :: ls) (.ref a :: st) h := am_ev_step (q := (34, some (.ref a) :: ls, .ref a :: st, h)) _ (.aload_n 0) 1 am_my_3 (by decide +kernel) rfl
theorem e3_34 {ls : List (Option Value)} {st : List Value} {h : am_H} : am_ev 3 34 (ls) (st) h = am_ev 3 35 (ls) (.long 0 :: st) h := am_ev_step (q := (35, ls, .long 0 :: st, h)) _ (.lconst 0) 1 am_my_3 (by decide +kernel) rfl
theorem e3_35 {ls : List (Option Value)} {st : List Value} {h : am_H} {o : Nat} {v : Int64} (hk : am_kd h o = some (.inl 3)) : am_ev 3 35 ls (.long v :: .ref o :: st) h = am_ev 3 38 ls st (am_sL h o 6 v) := am_u_pfL (idx := 40) (wn := 1068) am_my_3 (by decide +kernel) (by decide +kernel) (by decide +kernel) (by decide +kernel) hk
theorem e3_38 {ls : List (Option Value)} {st : List Value} {h : am_H} {a : Nat} : am_ev 3 38 (some (.ref a) :: ls) (st) h = am_ev 3 39 (some (.ref a) :: ls) (.ref a :: st) h := am_ev_step (q := (39, some (.ref a) :: ls, .ref a :: st, h)) _ (.aload_n 0) 1 am_my_3 (by decide +kernel) rfl
theorem e3_39 {ls : List (Option Value)} {st : List Value} {h : am_H} : am_ev 3 39 (ls) (st) h = am_ev 3 40 (ls) (.long 0 :: st) h := am_ev_step (q := (40, ls, .long 0 :: st, h)) _ (.lconst 0) 1 am_my_3 (by decide +kernel) rfl
theorem e3_40 {ls : List (Option Value)} {st : List Value} {h : am_H} {o : Nat} {v : Int64} (hk : am_kd h o = some (.inl 3)) : am_ev 3 40 ls (.long v :: .ref o :: st) h = am_ev 3 43 ls st (am_sL h o 9 v) := am_u_pfL (idx := 44) (wn := 1069) am_my_3 (by decide +kernel) (by decide +kernel) (by decide +kernel) (by decide +kernel) hk
theorem e3_43 {ls : List (Option Value)} {h : am_H} : am_ev 3 43 ls [] h = some (none, h) := am_u_rtV am_my_3 (by decide +kernel) rfl
theorem e20_0 {ls : List (Option Value)} {st : List Value} {h : am_H} {a : Nat} : am_ev 20 0 (some (.ref a) :: ls) (st) h = am_ev 20 1 (some (.ref a) :: ls) (.ref a :: st) h := am_ev_step (q := (1, some (.ref a) :: ls, .ref a :: st, h)) _ (.aload_n 0) 1 am_my_20 (by decide +kernel) rfl
theorem e20_1 {ls : List (Option Value)} {st : List Value} {h : am_H} : am_ev 20 1 (ls) (st) h = am_ev 20 2 (ls) (.int (0) :: st) h := am_ev_step (q := (2, ls, .int (0) :: st, h)) _ (.iconst (0)) 1 am_my_20 (by decide +kernel) rfl
theorem e20_2 {ls : List (Option Value)} {st : List Value} {h : am_H} {o : Nat} {v : Int32} (hk : am_kd h o = some (.inl 0)) : am_ev 20 2 ls (.int v :: .ref o :: st) h = am_ev 20 5 ls st (am_sI h o 0 v) := am_u_pfI (idx := 27) (wn := 1120) am_my_20 (by decide +kernel) (by decide +kernel) (by decide +kernel) (by decide +kernel) hk
theorem e20_5 {ls : List (Option Value)} {st : List Value} {h : am_H} {a : Nat} : am_ev 20 5 (some (.ref a) :: ls) (st) h = am_ev 20 6 (some (.ref a) :: ls) (.ref a :: st) h := am_ev_step (q := (6, some (.ref a) :: ls, .ref a :: st, h)) _ (.aload_n 0) 1 am_my_20 (by decide +kernel) rfl
theorem e20_6 {ls : List (Option Value)} {st : List Value} {h : am_H} : am_ev 20 6 (ls) (st) h = am_ev 20 7 (ls) (.int (0) :: st) h := am_ev_step (q := (7, ls, .int (0) :: st, h)) _ (.iconst (0)) 1 am_my_20 (by decide +kernel) rfl
theorem e20_7 {ls : List (Option Value)} {st : List Value} {h : am_H} {o : Nat} {v : Int32} (hk : am_kd h o = some (.inl 0)) : am_ev 20 7 ls (.int v :: .ref o :: st) h = am_ev 20 10 ls st (am_sI h o 1 v) := am_u_pfI (idx := 31) (wn := 1123) am_my_20 (by decide +kernel) (by decide +kernel) (by decide +kernel) (by decide +kernel) hk
theorem e20_10 {ls : List (Option Value)} {st : List Value} {h : am_H} {a : Nat} : am_ev 20 10 (some (.ref a) :: ls) (st) h = am_ev 20 11 (some (.ref a) :: ls) (.ref a :: st) h := am_ev_step (q := (11, some (.ref a) :: ls, .ref a :: st, h)) _ (.aload_n 0) 1 am_my_20 (by decide +kernel) rfl
theorem e20_11 {ls : List (Option Value)} {st : List Value} {h : am_H} : am_ev 20 11 (ls) (st) h = am_ev 20 12 (ls) (.int (0) :: st) h := am_ev_step (q := (12, ls, .int (0) :: st, h)) _ (.iconst (0)) 1 am_my_20 (by decide +kernel) rfl
theorem e20_12 {ls : List (Option Value)} {st : List Value} {h : am_H} {o : Nat} {v : Int32} (hk : am_kd h o = some (.inl 0)) : am_ev 20 12 ls (.int v :: .ref o :: st) h = am_ev 20 15 ls st (am_sI h o 2 v) := am_u_pfI (idx := 34) (wn := 1126) am_my_20 (by decide +kernel) (by decide +kernel) (by decide +kernel) (by decide +kernel) hk
theorem e20_15 {ls : List (Option Value)} {h : am_H} : am_ev 20 15 ls [] h = some (none, h) := am_u_rtV am_my_20 (by decide +kernel) rfl
theorem e19_0 {ls : List (Option Value)} {st : List Value} {h : am_H} {a : Nat} : am_ev 19 0 (some (.ref a) :: ls) (st) h = am_ev 19 1 (some (.ref a) :: ls) (.ref a :: st) h := am_ev_step (q := (1, some (.ref a) :: ls, .ref a :: st, h)) _ (.aload_n 0) 1 am_my_19 (by decide +kernel) rfl
theorem e19_1 {ls : List (Option Value)} {st : List Value} {h : am_H} {o : Nat} (hk : am_kd h o = some (.inl 7)) : am_ev 19 1 ls (.ref o :: st) h = am_ev 19 4 ls (va_rf (h.2.2.1 o 0) :: st) h := am_u_gfR (idx := 12) (wn := 1232) (a := 0) am_my_19 (by decide +kernel) (by decide +kernel) (by decide +kernel) hk
theorem e19_4 {ls : List (Option Value)} {st : List Value} {h : am_H}  {o : Nat} (hw : am_w8 st ≤ 8) (hk : am_kd h o = some (.inl 3)) : am_ev 19 4 ls (.ref o :: st) h = am_bd (am_den 3 [.ref o] h) (fun v h1 => am_ev 19 7 ls (v.toList ++ st) h1) := am_u_cV (idx := 87) (wn := 2215) (as := []) am_my_19 (by decide +kernel) (Or.inr (by decide +kernel)) am_my_3 (by decide +kernel) rfl ⟨Nat.le_of_ble_eq_true rfl, rfl⟩ (by decide +kernel) hw hk
theorem e19_7 {ls : List (Option Value)} {st : List Value} {h : am_H} {a : Nat} : am_ev 19 7 (some (.ref a) :: ls) (st) h = am_ev 19 8 (some (.ref a) :: ls) (.ref a :: st) h := am_ev_step (q := (8, some (.ref a) :: ls, .ref a :: st, h)) _ (.aload_n 0) 1 am_my_19 (by decide +kernel) rfl
theorem e19_8 {ls : List (Option Value)} {st : List Value} {h : am_H} {o : Nat} (hk : am_kd h o = some (.inl 7)) : am_ev 19 8 ls (.ref o :: st) h = am_ev 19 11 ls (va_rf (h.2.2.1 o 1) :: st) h := am_u_gfR (idx := 21) (wn := 1234) (a := 0) am_my_19 (by decide +kernel) (by decide +kernel) (by decide +kernel) hk
theorem e19_11 {ls : List (Option Value)} {st : List Value} {h : am_H} : am_ev 19 11 (ls) (st) h = am_ev 19 12 (ls) (.int (0) :: st) h := am_ev_step (q := (12, ls, .int (0) :: st, h)) _ (.iconst (0)) 1 am_my_19 (by decide +kernel) rfl
theorem e19_12 {ls : List (Option Value)} {st : List Value} {h : am_H} {o : Nat} {v : Int32} (hk : am_kd h o = some (.inl 2)) : am_ev 19 12 ls (.int v :: .ref o :: st) h = am_ev 19 15 ls st (am_sI h o 0 v) := am_u_pfI (idx := 90) (wn := 1104) am_my_19 (by decide +kernel) (by decide +kernel) (by decide +kernel) (by decide +kernel) hk
theorem e19_15 {ls : List (Option Value)} {st : List Value} {h : am_H} {a : Nat} : am_ev 19 15 (some (.ref a) :: ls) (st) h = am_ev 19 16 (some (.ref a) :: ls) (.ref a :: st) h := am_ev_step (q := (16, some (.ref a) :: ls, .ref a :: st, h)) _ (.aload_n 0) 1 am_my_19 (by decide +kernel) rfl
theorem e19_16 {ls : List (Option Value)} {st : List Value} {h : am_H} {o : Nat} (hk : am_kd h o = some (.inl 7)) : am_ev 19 16 ls (.ref o :: st) h = am_ev 19 19 ls (va_rf (h.2.2.1 o 2) :: st) h := am_u_gfR (idx := 28) (wn := 1236) (a := 0) am_my_19 (by decide +kernel) (by decide +kernel) (by decide +kernel) hk
theorem e19_19 {ls : List (Option Value)} {st : List Value} {h : am_H}  {o : Nat} (hw : am_w8 st ≤ 8) (hk : am_kd h o = some (.inl 0)) : am_ev 19 19 ls (.ref o :: st) h = am_bd (am_den 20 [.ref o] h) (fun v h1 => am_ev 19 22 ls (v.toList ++ st) h1) := am_u_cV (idx := 93) (wn := 2216) (as := []) am_my_19 (by decide +kernel) (Or.inl (by decide +kernel)) am_my_20 (by decide +kernel) rfl ⟨Nat.le_of_ble_eq_true rfl, rfl⟩ (by decide +kernel) hw hk
theorem e19_22 {ls : List (Option Value)} {st : List Value} {h : am_H} {a : Nat} : am_ev 19 22 (some (.ref a) :: ls) (st) h = am_ev 19 23 (some (.ref a) :: ls) (.ref a :: st) h := am_ev_step (q := (23, some (.ref a) :: ls, .ref a :: st, h)) _ (.aload_n 0) 1 am_my_19 (by decide +kernel) rfl
theorem e19_23 {ls : List (Option Value)} {st : List Value} {h : am_H} {o : Nat} (hk : am_kd h o = some (.inl 7)) : am_ev 19 23 ls (.ref o :: st) h = am_ev 19 26 ls (va_rf (h.2.2.1 o 3) :: st) h := am_u_gfR (idx := 35) (wn := 1238) (a := 0) am_my_19 (by decide +kernel) (by decide +kernel) (by decide +kernel) hk
theorem e19_26 {ls : List (Option Value)} {st : List Value} {h : am_H} : am_ev 19 26 (ls) (st) h = am_ev 19 27 (ls) (.int (0) :: st) h := am_ev_step (q := (27, ls, .int (0) :: st, h)) _ (.iconst (0)) 1 am_my_19 (by decide +kernel) rfl
theorem e19_27 {ls : List (Option Value)} {st : List Value} {h : am_H} {o : Nat} {v : Int32} (hk : am_kd h o = some (.inl 5)) : am_ev 19 27 ls (.int v :: .ref o :: st) h = am_ev 19 30 ls st (am_sI h o 0 v) := am_u_pfI (idx := 94) (wn := 1161) am_my_19 (by decide +kernel) (by decide +kernel) (by decide +kernel) (by decide +kernel) hk
theorem e19_30 {ls : List (Option Value)} {h : am_H} : am_ev 19 30 ls [] h = some (none, h) := am_u_rtV am_my_19 (by decide +kernel) rfl
def f_0 : f_D := ((6, 6, 0, 9, 3, 0, 0, fun _ => 0, fun _ => 0), 0, 0)
def d_0 : q_Dr := (0, fun _ => 0)
def b_0 : q_Bk := (0, 0, 0, fun _ => 0, fun _ => 0, fun _ => 0, fun _ => 0, fun _ => 0)
def l_0 : q_Lg := (0, fun _ => 0, fun _ => 0, fun _ => 0, fun _ => 0)
def c_h1 (h : am_H) : am_H := am_sL (am_sL (am_sI (am_sI (am_sI (am_sI (am_sI (am_sI h 160 0 6) 160 1 6) 160 2 0) 160 3 9) 160 4 3) 160 5 0) 160 6 0) 160 9 0
def c_h2 (h : am_H) : am_H := am_sI (c_h1 h) 163 0 0
def c_h3 (h : am_H) : am_H := am_sI (am_sI (am_sI (c_h2 h) 165 0 0) 165 1 0) 165 2 0
def c_h4 (h : am_H) : am_H := am_sI (c_h3 h) 171 0 0
theorem den_fclear (h : am_H) (ok : am_okH h) : am_den 3 [.ref 160] h = some (none, c_h1 h) := by
  show am_ev 3 0 [some (.ref 160)] [] h = _
  simp only [e3_0, e3_1, e3_3, e3_6, e3_7, e3_9, e3_12, e3_13, e3_14, e3_17, e3_18, e3_20, e3_23, e3_24, e3_25, e3_28, e3_29, e3_30, e3_33, e3_34, e3_35, e3_38, e3_39, e3_40, e3_43, am_bd_some, Option.toList_some, Option.toList_none, List.cons_append, List.nil_append, am_w8_0, am_w8_1, am_w8_2, am_w8_3, am_w8_4, eq_self, or_true, true_or, am_kd_sI, am_kd_sL, am_kd_sR, am_tc_sI, am_tc_sL, am_tc_sR, am_len_sI, am_len_sL, am_len_sR, am_rfs, if_true, if_false, am_rdL_sI, am_rR_sL, am_rt_cq, am_kd_cq, am_tc_cq, am_len_cq, am_rd_sL, am_rd_sR, am_rdL_sR, okK_160 ok]
  rfl
theorem den_bclear (h : am_H) (ok : am_okH h) : am_den 20 [.ref 165] (c_h2 h) = some (none, c_h3 h) := by
  have o : am_okH (c_h2 h) := ok
  show am_ev 20 0 [some (.ref 165)] [] (c_h2 h) = _
  simp only [e20_0, e20_1, e20_2, e20_5, e20_6, e20_7, e20_10, e20_11, e20_12, e20_15, am_bd_some, Option.toList_some, Option.toList_none, List.cons_append, List.nil_append, am_w8_0, am_w8_1, am_w8_2, am_w8_3, am_w8_4, eq_self, or_true, true_or, am_kd_sI, am_kd_sL, am_kd_sR, am_tc_sI, am_tc_sL, am_tc_sR, am_len_sI, am_len_sL, am_len_sR, am_rfs, if_true, if_false, am_rdL_sI, am_rR_sL, am_rt_cq, am_kd_cq, am_tc_cq, am_len_cq, am_rd_sL, am_rd_sR, am_rdL_sR, okK_165 o]
  rfl
theorem den_clearDrafts (h : am_H) (ok : am_okH h) : am_den 19 [.ref 159] h = some (none, c_h4 h) := by
  have o1 : am_okH (c_h1 h) := ok
  have o2 : am_okH (c_h2 h) := ok
  have o3 : am_okH (c_h3 h) := ok
  have e2 : am_sI (c_h1 h) 163 0 0 = c_h2 h := rfl
  have e4 : am_sI (c_h3 h) 171 0 0 = c_h4 h := rfl
  show am_ev 19 0 [some (.ref 159)] [] h = _
  simp only [e19_0, e19_1, e19_4, e19_7, e19_8, e19_11, e19_12, e19_15, e19_16, e19_19, e19_22, e19_23, e19_26, e19_27, e19_30, am_bd_some, Option.toList_some, Option.toList_none, List.cons_append, List.nil_append, am_w8_0, am_w8_1, am_w8_2, am_w8_3, am_w8_4, eq_self, or_true, true_or, am_kd_sI, am_kd_sL, am_kd_sR, am_tc_sI, am_tc_sL, am_tc_sR, am_len_sI, am_len_sL, am_len_sR, am_rfs, if_true, if_false, am_rdL_sI, am_rR_sL, am_rt_cq, am_kd_cq, am_tc_cq, am_len_cq, am_rd_sL, am_rd_sR, am_rdL_sR, okK_159 ok, okR_159_0 ok, okK_160 ok, den_fclear h ok, okK_159 o1, okR_159_1 o1, okK_163 o1, e2, okK_159 o2, okR_159_2 o2, okK_165 o2, den_bclear h ok, okK_159 o3, okR_159_3 o3, okK_171 o3, e4]
theorem c_h4_fr {g h : am_H} (H : c_fr g h) : c_fr g (c_h4 h) :=
  ((((((((((((H.sI 160 0 _ (by omega)).sI 160 1 _ (by omega)).sI 160 2 _ (by omega)).sI 160 3 _ (by omega)).sI 160 4 _ (by omega)).sI 160 5 _ (by omega)).sL 160 6 _ (by omega)).sL 160 9 _ (by omega)).sI 163 0 _ (by omega)).sI 165 0 _ (by omega)).sI 165 1 _ (by omega)).sI 165 2 _ (by omega)).sI 171 0 _ (by omega)
theorem c_h4_f (h : am_H) : f_dr (c_h4 h) f_0 := by
  refine ⟨⟨rfl, rfl, rfl, rfl, rfl, rfl, rfl, fun b hb => absurd hb (Nat.not_lt_zero _), fun b hb => absurd hb (Nat.not_lt_zero _)⟩, Nat.zero_le _, ⟨fun c hc q => ?_, fun q => absurd rfl q, fun q => absurd rfl q⟩⟩
  have e : (c_h4 h).2.1 160 9 = 0 := rfl
  rw [e, q_bit_0] at q
  cases q
theorem c_h4_d (h : am_H) : d_dr (c_h4 h) d_0 := ⟨⟨rfl, fun b hb => absurd hb (Nat.not_lt_zero _)⟩, Nat.zero_le _⟩
theorem c_h4_b (h : am_H) : b_dr (c_h4 h) b_0 := ⟨⟨rfl, rfl, rfl, fun b hb => absurd hb (Nat.not_lt_zero _), fun b hb => absurd hb (Nat.not_lt_zero _), fun b hb => absurd hb (Nat.not_lt_zero _)⟩, Nat.zero_le _, Nat.zero_le _, Nat.zero_le _⟩
theorem c_h4_l (h : am_H) : l_dr (c_h4 h) l_0 := ⟨⟨rfl, fun b hb => absurd hb (Nat.not_lt_zero _)⟩, Nat.zero_le _⟩
/-- what a text comes to: its fault (0: none) and place; what is told -/
def t_rs {D : Type} (fl : D → Nat) (L : Nat) (r : Nat ⊕ ((Nat × Nat) × D)) : Nat × Nat := match r with
  | .inl p => (1, p)
  | .inr (q, d) => if q.1 = 0 then (fl d, L) else q
theorem c_reads {D : Type} {dr : am_H → D → Prop} {full : Nat → D → Bool} {upd : Nat → (Nat → Nat) → D → D} {so : Nat} (A : c_dr dr full upd so) (hso : so < 4) (fl : D → Nat) (P : D → Prop) (d0 : D) (h0 : ∀ h, dr (c_h4 h) d0) (hP : ∀ (t : Nat → Nat) (L : Nat) q d, t_ll full upd t L so (L + 1) 0 (0, 0) d0 = .inr (q, d) → P d) (f0 : so ≠ 0 → ∀ d, fl d = 0) (f1 : so = 0 → ∀ (h : am_H) (d : D), am_okH h → dr h d → P d → am_den 51 [.ref 160] h = some (some (.int (nI (fl d))), h) ∧ fl d < 100 ∧ fl d ≠ 1)
    (t : Nat → Nat) (L : Nat) (h : am_H) (ok : am_okH h) (L6 : L ≤ 600) (ht : ∀ k, k < L → t_by (h.1 2 k) = t k) : ∃ h' : am_H, am_okH h' ∧ h'.2.2.2 = h.2.2.2 ∧ (∀ x k, (x < 159 ∨ 177 < x) → h'.1 x k = h.1 x k ∧ h'.2.1 x k = h.2.1 x k) ∧ am_den 18 [.ref 159, .ref 2, .int (nI L), .int (nI so)] h = some (some (.int (if (t_rs fl L (t_ll full upd t L so (L + 1) 0 (0, 0) d0)).1 = 0 then 1 else 0)), h') ∧ ((t_rs fl L (t_ll full upd t L so (L + 1) 0 (0, 0) d0)).1 ≠ 0 → h'.1 159 4 = nI (t_rs fl L (t_ll full upd t L so (L + 1) 0 (0, 0) d0)).1 ∧ h'.1 159 5 = nI (t_rs fl L (t_ll full upd t L so (L + 1) 0 (0, 0) d0)).2) ∧ (∀ q d, t_ll full upd t L so (L + 1) 0 (0, 0) d0 = .inr (q, d) → dr h' d) := by
  let g : am_H := am_sR h 159 7 (some 2)
  have okg : am_okH g := by
    refine ⟨ok.1, fun q hq hm => ?_⟩
    show (if q.1 = 159 ∧ q.2.1 = 7 then some 2 else h.2.2.1 q.1 q.2.1) = _
    rw [if_neg (fun w => hm (by rw [show (q.1, q.2.1) = (159, 7) by rw [w.1, w.2]]; decide))]
    exact ok.2 q hq hm
  let k1 : am_H := am_sI (am_sI (am_sI (am_sI g 159 8 (nI L)) 159 9 0) 159 4 0) 159 5 (-1)
  have okk : am_okH k1 := okg
  have ok4 : am_okH (c_h4 k1) := okg
  have fr00 : c_fr g g := ⟨rfl, fun x k _ => ⟨rfl, rfl⟩⟩
  have frk : c_fr g k1 := (((fr00.sI 159 8 _ (by omega)).sI 159 9 _ (by omega)).sI 159 4 _ (by omega)).sI 159 5 _ (by omega)
  have mn : (if Int32.ofNat 600 < nI L then Int32.ofNat 600 else nI L) = nI L := if_neg (Int32.not_lt.mpr (nI_le (b := 600) L6 (by decide)))
  have al : ∀ (ls : List (Option Value)) (st : List Value), am_ev 18 8 ls (.ref 2 :: st) g = am_ev 18 9 ls (.int (Int32.ofNat (am_len g 2)) :: st) g := fun ls st => e18_8 (okT_2 okg) (by decide)
  have s0 : am_ev 18 0 [some (.ref 159), some (.ref 2), some (.int (nI L)), some (.int (nI so)), none] [] h = am_ev 18 5 [some (.ref 159), some (.ref 2), some (.int (nI L)), some (.int (nI so)), none] [] g := by
    simp only [e18_0, e18_1, e18_2, e18_6, e18_7, e18_8, e18_9, e18_12, e18_15, e18_16, e18_17, e18_20, e18_21, e18_22, e18_25, e18_26, e18_27, e18_30, e18_31, e18_34, e18_35, e18_37, e18_39, e18_40, e18_43, e18_46, e18_47, e18_50, e18_51, e18_54, e18_55, e18_58, e18_59, e18_62, e18_65, e18_68, e18_69, e18_70, e18_73, e18_76, e18_79, e18_80, e18_83, e18_86, e18_87, e18_90, e18_91, e18_94, e18_97, e18_100, e18_101, e18_102, e18_105, e18_108, e18_109, e18_112, e18_115, e18_116, e18_119, e18_122, e18_123, e18_126, e18_127, am_bd_some, Option.toList_some, Option.toList_none, List.cons_append, List.nil_append, am_w8_0, am_w8_1, am_w8_2, am_w8_3, am_w8_4, eq_self, or_true, true_or, am_kd_sI, am_kd_sL, am_kd_sR, am_tc_sI, am_tc_sL, am_tc_sR, am_len_sI, am_len_sL, am_len_sR, am_rfs, if_true, if_false, am_rdL_sI, am_rR_sL, am_rt_cq, am_kd_cq, am_tc_cq, am_len_cq, am_rd_sL, am_rd_sR, am_rdL_sR, okK_159 ok]
    rfl
  have s1 : am_ev 18 5 [some (.ref 159), some (.ref 2), some (.int (nI L)), some (.int (nI so)), none] [] g = am_ev 18 30 [some (.ref 159), some (.ref 2), some (.int (nI L)), some (.int (nI so)), none] [] k1 := by
    simp only [e18_0, e18_1, e18_2, e18_5, e18_6, e18_7, e18_9, e18_12, e18_15, e18_16, e18_17, e18_20, e18_21, e18_22, e18_25, e18_26, e18_27, e18_31, e18_34, e18_35, e18_37, e18_39, e18_40, e18_43, e18_46, e18_47, e18_50, e18_51, e18_54, e18_55, e18_58, e18_59, e18_62, e18_65, e18_68, e18_69, e18_70, e18_73, e18_76, e18_79, e18_80, e18_83, e18_86, e18_87, e18_90, e18_91, e18_94, e18_97, e18_100, e18_101, e18_102, e18_105, e18_108, e18_109, e18_112, e18_115, e18_116, e18_119, e18_122, e18_123, e18_126, e18_127, am_bd_some, Option.toList_some, Option.toList_none, List.cons_append, List.nil_append, am_w8_0, am_w8_1, am_w8_2, am_w8_3, am_w8_4, eq_self, or_true, true_or, am_kd_sI, am_kd_sL, am_kd_sR, am_tc_sI, am_tc_sL, am_tc_sR, am_len_sI, am_len_sL, am_len_sR, am_rfs, if_true, if_false, am_rdL_sI, am_rR_sL, am_rt_cq, am_kd_cq, am_tc_cq, am_len_cq, am_rd_sL, am_rd_sR, am_rdL_sR, al, okL_2 okg, mn, okK_159 okg]
    rfl
  have s2 : am_ev 18 30 [some (.ref 159), some (.ref 2), some (.int (nI L)), some (.int (nI so)), none] [] k1 = am_ev 18 37 [some (.ref 159), some (.ref 2), some (.int (nI L)), some (.int (nI so)), some (.int (nI 0))] [] (c_h4 k1) := by
    simp only [e18_0, e18_1, e18_2, e18_5, e18_6, e18_7, e18_8, e18_9, e18_12, e18_15, e18_16, e18_17, e18_20, e18_21, e18_22, e18_25, e18_26, e18_27, e18_30, e18_31, e18_34, e18_35, e18_39, e18_40, e18_43, e18_46, e18_47, e18_50, e18_51, e18_54, e18_55, e18_58, e18_59, e18_62, e18_65, e18_68, e18_69, e18_70, e18_73, e18_76, e18_79, e18_80, e18_83, e18_86, e18_87, e18_90, e18_91, e18_94, e18_97, e18_100, e18_101, e18_102, e18_105, e18_108, e18_109, e18_112, e18_115, e18_116, e18_119, e18_122, e18_123, e18_126, e18_127, am_bd_some, Option.toList_some, Option.toList_none, List.cons_append, List.nil_append, am_w8_0, am_w8_1, am_w8_2, am_w8_3, am_w8_4, eq_self, or_true, true_or, am_kd_sI, am_kd_sL, am_kd_sR, am_tc_sI, am_tc_sL, am_tc_sR, am_len_sI, am_len_sL, am_len_sR, am_rfs, if_true, if_false, am_rdL_sI, am_rR_sL, am_rt_cq, am_kd_cq, am_tc_cq, am_len_cq, am_rd_sL, am_rd_sR, am_rdL_sR, okK_159 okk, den_clearDrafts k1 okk]
    rfl
  have st : c_st t L g (c_h4 k1) 0 (0, 0) := by
    refine ⟨⟨ok4, L6, rfl, rfl, fun k hk => ?_⟩, c_h4_fr frk, Nat.zero_le _, rfl, rfl, fun w => absurd rfl w, by decide⟩
    rw [((c_h4_fr frk).2 2 k (Or.inl (by decide))).1]
    exact ht k hk
  have lp := c_rl A hso t L g (L + 1) 0 0 (0, 0) d0 (c_h4 k1) (by omega) (Nat.le_refl _) st (h0 k1) (by decide)
  have dn : am_den 18 [.ref 159, .ref 2, .int (nI L), .int (nI so)] h = am_ev 18 37 [some (.ref 159), some (.ref 2), some (.int (nI L)), some (.int (nI so)), some (.int (nI 0))] [] (c_h4 k1) := (s0.trans s1).trans s2
  have fr0 : ∀ h' : am_H, c_fr g h' → am_okH h' ∧ h'.2.2.2 = h.2.2.2 ∧ (∀ x k, (x < 159 ∨ 177 < x) → h'.1 x k = h.1 x k ∧ h'.2.1 x k = h.2.1 x k) := fun h' H => ⟨H.ok okg, by rw [H.1]; rfl, fun x k hx => H.2 x k hx⟩
  have hP' := hP t L
  revert lp hP'
  cases t_ll full upd t L so (L + 1) 0 (0, 0) d0 with
  | inl p =>
    rintro ⟨h', c', e, fr, b4, b5⟩ -
    obtain ⟨o1, o2, o3⟩ := fr0 h' fr
    have y : ¬ (1 : Int32) = 0 := by decide
    have o01 : (0 : Int32) = 0 ∨ (0 : Int32) = 1 := Or.inl rfl
    refine ⟨h', o1, o2, o3, ?_, fun _ => ⟨b4, b5⟩, fun q d w => (by cases w)⟩
    rw [dn, e]
    show _ = some (some (Value.int (if (1 : Nat) = 0 then 1 else 0)), h')
    rw [if_neg (by decide)]
    simp only [e18_0, e18_1, e18_2, e18_5, e18_6, e18_7, e18_8, e18_9, e18_12, e18_15, e18_16, e18_17, e18_20, e18_21, e18_22, e18_25, e18_26, e18_27, e18_30, e18_31, e18_34, e18_35, e18_37, e18_39, e18_40, e18_43, e18_46, e18_47, e18_50, e18_51, e18_54, e18_55, e18_58, e18_59, e18_62, e18_65, e18_68, e18_69, e18_70, e18_73, e18_76, e18_79, e18_80, e18_83, e18_86, e18_87, e18_90, e18_91, e18_94, e18_97, e18_100, e18_101, e18_102, e18_105, e18_108, e18_109, e18_112, e18_115, e18_116, e18_119, e18_122, e18_123, e18_126, e18_127, am_bd_some, Option.toList_some, Option.toList_none, List.cons_append, List.nil_append, am_w8_0, am_w8_1, am_w8_2, am_w8_3, am_w8_4, eq_self, or_true, true_or, am_kd_sI, am_kd_sL, am_kd_sR, am_tc_sI, am_tc_sL, am_tc_sR, am_len_sI, am_len_sL, am_len_sR, am_rfs, if_true, if_false, am_rdL_sI, am_rR_sL, am_rt_cq, am_kd_cq, am_tc_cq, am_len_cq, am_rd_sL, am_rd_sR, am_rdL_sR, okK_159 o1, b4, y, not_false_eq_true, o01]
  | inr r =>
    obtain ⟨q, d⟩ := r
    rintro ⟨h', c', e, ⟨a', S⟩, hd, hq⟩ hP'
    have pd := hP' q d rfl
    obtain ⟨o1, o2, o3⟩ := fr0 h' S.2.1
    have e4 := S.2.2.2.2.1
    have q9 := S.2.2.2.2.2.2
    have e40 : h'.1 159 4 = 0 ↔ q.1 = 0 := by rw [e4]; exact nI_eq (b := 0) (by omega) (by decide)
    have o00 : (0 : Int32) = 0 ∨ (0 : Int32) = 1 := Or.inl rfl
    have o01 : (1 : Int32) = 0 ∨ (1 : Int32) = 1 := Or.inr rfl
    by_cases cq : q.1 = 0
    · have cq' := eq_true (e40.mpr cq)
      by_cases cs : so = 0
      · obtain ⟨df, fl9, -⟩ := f1 cs h' d o1 hd pd
        have so' : (nI so = 0) = True := eq_true (by rw [cs]; rfl)
        have eS : t_rs fl L (.inr (q, d)) = (fl d, L) := if_pos cq
        have f40 : nI (fl d) = 0 ↔ fl d = 0 := nI_eq (b := 0) (by omega) (by decide)
        rw [eS]
        by_cases cf : fl d = 0
        · have cf' := eq_true (f40.mpr cf)
          refine ⟨h', o1, o2, o3, ?_, fun w => absurd cf w, fun q2 d2 w => ?_⟩
          · rw [dn, e, if_pos cf]
            simp only [e18_0, e18_1, e18_2, e18_5, e18_6, e18_7, e18_8, e18_9, e18_12, e18_15, e18_16, e18_17, e18_20, e18_21, e18_22, e18_25, e18_26, e18_27, e18_30, e18_31, e18_34, e18_35, e18_37, e18_39, e18_40, e18_43, e18_46, e18_47, e18_50, e18_51, e18_54, e18_55, e18_58, e18_59, e18_62, e18_65, e18_68, e18_69, e18_70, e18_73, e18_76, e18_79, e18_80, e18_83, e18_86, e18_87, e18_90, e18_91, e18_94, e18_97, e18_100, e18_101, e18_102, e18_105, e18_108, e18_109, e18_112, e18_115, e18_116, e18_119, e18_122, e18_123, e18_126, e18_127, am_bd_some, Option.toList_some, Option.toList_none, List.cons_append, List.nil_append, am_w8_0, am_w8_1, am_w8_2, am_w8_3, am_w8_4, eq_self, or_true, true_or, am_kd_sI, am_kd_sL, am_kd_sR, am_tc_sI, am_tc_sL, am_tc_sR, am_len_sI, am_len_sL, am_len_sR, am_rfs, if_true, if_false, am_rdL_sI, am_rR_sL, am_rt_cq, am_kd_cq, am_tc_cq, am_len_cq, am_rd_sL, am_rd_sR, am_rdL_sR, okK_159 o1, cq', so', not_true, okR_159_0 o1, okK_160 o1, df, cf', o01]
          · obtain ⟨-, rfl⟩ := Prod.mk.inj (Sum.inr.inj w); exact hd
        · have cf' := eq_false (fun w => cf (f40.mp w))
          obtain ⟨h2, d2, S2, sd2, -, -⟩ := c_note S (fl d) L fl9
          obtain ⟨p1, p2, p3⟩ := fr0 h2 S2.2.1
          have en : t_nt q (fl d) L = (fl d, L) := if_pos cq
          rw [en] at S2
          have e42 : h2.1 159 4 = nI (fl d) := S2.2.2.2.2.1
          have cf2 : ¬ h2.1 159 4 = 0 := fun w => cf (f40.mp (e42.symm.trans w))
          have e8 := S.1.2.2.2.1
          refine ⟨h2, p1, p2, p3, ?_, fun _ => ⟨e42, S2.2.2.2.2.2.1 cf⟩, fun q2 d2 w => ?_⟩
          · rw [dn, e, if_neg cf]
            simp only [e18_0, e18_1, e18_2, e18_5, e18_6, e18_7, e18_8, e18_9, e18_12, e18_15, e18_16, e18_17, e18_20, e18_21, e18_22, e18_25, e18_26, e18_27, e18_30, e18_31, e18_34, e18_35, e18_37, e18_39, e18_40, e18_43, e18_46, e18_47, e18_50, e18_51, e18_54, e18_55, e18_58, e18_59, e18_62, e18_65, e18_68, e18_69, e18_70, e18_73, e18_76, e18_79, e18_80, e18_83, e18_86, e18_87, e18_90, e18_91, e18_94, e18_97, e18_100, e18_101, e18_102, e18_105, e18_108, e18_109, e18_112, e18_115, e18_116, e18_119, e18_122, e18_123, e18_126, e18_127, am_bd_some, Option.toList_some, Option.toList_none, List.cons_append, List.nil_append, am_w8_0, am_w8_1, am_w8_2, am_w8_3, am_w8_4, eq_self, or_true, true_or, am_kd_sI, am_kd_sL, am_kd_sR, am_tc_sI, am_tc_sL, am_tc_sR, am_len_sI, am_len_sL, am_len_sR, am_rfs, if_true, if_false, am_rdL_sI, am_rR_sL, am_rt_cq, am_kd_cq, am_tc_cq, am_len_cq, am_rd_sL, am_rd_sR, am_rdL_sR, okK_159 o1, cq', so', not_true, not_false_eq_true, okR_159_0 o1, okK_160 o1, df, cf', e8, d2, okK_159 p1, cf2, o00]
          · obtain ⟨-, rfl⟩ := Prod.mk.inj (Sum.inr.inj w); exact A.1 h' h2 _ hd sd2
      · have so' : (nI so = 0) = False := eq_false (fun w => cs ((nI_eq (b := 0) (by omega) (by decide)).mp w))
        have eS : t_rs fl L (.inr (q, d)) = (fl d, L) := if_pos cq
        rw [eS, f0 cs d]
        refine ⟨h', o1, o2, o3, ?_, fun w => absurd rfl w, fun q2 d2 w => ?_⟩
        · rw [dn, e, if_pos rfl]
          simp only [e18_0, e18_1, e18_2, e18_5, e18_6, e18_7, e18_8, e18_9, e18_12, e18_15, e18_16, e18_17, e18_20, e18_21, e18_22, e18_25, e18_26, e18_27, e18_30, e18_31, e18_34, e18_35, e18_37, e18_39, e18_40, e18_43, e18_46, e18_47, e18_50, e18_51, e18_54, e18_55, e18_58, e18_59, e18_62, e18_65, e18_68, e18_69, e18_70, e18_73, e18_76, e18_79, e18_80, e18_83, e18_86, e18_87, e18_90, e18_91, e18_94, e18_97, e18_100, e18_101, e18_102, e18_105, e18_108, e18_109, e18_112, e18_115, e18_116, e18_119, e18_122, e18_123, e18_126, e18_127, am_bd_some, Option.toList_some, Option.toList_none, List.cons_append, List.nil_append, am_w8_0, am_w8_1, am_w8_2, am_w8_3, am_w8_4, eq_self, or_true, true_or, am_kd_sI, am_kd_sL, am_kd_sR, am_tc_sI, am_tc_sL, am_tc_sR, am_len_sI, am_len_sL, am_len_sR, am_rfs, if_true, if_false, am_rdL_sI, am_rR_sL, am_rt_cq, am_kd_cq, am_tc_cq, am_len_cq, am_rd_sL, am_rd_sR, am_rdL_sR, okK_159 o1, cq', so', not_true, not_false_eq_true, o01]
        · obtain ⟨-, rfl⟩ := Prod.mk.inj (Sum.inr.inj w); exact hd
    · have cq' := eq_false (fun w => cq (e40.mp w))
      have eS : t_rs fl L (.inr (q, d)) = q := if_neg cq
      rw [eS]
      refine ⟨h', o1, o2, o3, ?_, fun _ => ⟨e4, S.2.2.2.2.2.1 cq⟩, fun q2 d2 w => ?_⟩
      · rw [dn, e, if_neg cq]
        simp only [e18_0, e18_1, e18_2, e18_5, e18_6, e18_7, e18_8, e18_9, e18_12, e18_15, e18_16, e18_17, e18_20, e18_21, e18_22, e18_25, e18_26, e18_27, e18_30, e18_31, e18_34, e18_35, e18_37, e18_39, e18_40, e18_43, e18_46, e18_47, e18_50, e18_51, e18_54, e18_55, e18_58, e18_59, e18_62, e18_65, e18_68, e18_69, e18_70, e18_73, e18_76, e18_79, e18_80, e18_83, e18_86, e18_87, e18_90, e18_91, e18_94, e18_97, e18_100, e18_101, e18_102, e18_105, e18_108, e18_109, e18_112, e18_115, e18_116, e18_119, e18_122, e18_123, e18_126, e18_127, am_bd_some, Option.toList_some, Option.toList_none, List.cons_append, List.nil_append, am_w8_0, am_w8_1, am_w8_2, am_w8_3, am_w8_4, eq_self, or_true, true_or, am_kd_sI, am_kd_sL, am_kd_sR, am_tc_sI, am_tc_sL, am_tc_sR, am_len_sI, am_len_sL, am_len_sR, am_rfs, if_true, if_false, am_rdL_sI, am_rR_sL, am_rt_cq, am_kd_cq, am_tc_cq, am_len_cq, am_rd_sL, am_rd_sR, am_rdL_sR, okK_159 o1, cq', not_false_eq_true, o00]
      · obtain ⟨-, rfl⟩ := Prod.mk.inj (Sum.inr.inj w); exact hd
