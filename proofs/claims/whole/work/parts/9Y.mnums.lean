/-! part 9Y: the reference takes numbers in a row -/
theorem e183_0 {ls : List (Option Value)} {st : List Value} {h : am_H} {a : Nat} : am_ev 183 0 (some (.ref a) :: ls) (st) h = am_ev 183 1 (some (.ref a) :: ls) (.ref a :: st) h := am_ev_step (q := (1, some (.ref a) :: ls, .ref a :: st, h)) _ (.aload_n 0) 1 am_my_183 (by decide +kernel) rfl
theorem e183_1 {ls : List (Option Value)} {st : List Value} {h : am_H} {l0 : Option Value} {a : Int32} : am_ev 183 1 (l0 :: some (.int a) :: ls) (st) h = am_ev 183 2 (l0 :: some (.int a) :: ls) (.int a :: st) h := am_ev_step (q := (2, l0 :: some (.int a) :: ls, .int a :: st, h)) _ (.iload_n 1) 1 am_my_183 (by decide +kernel) rfl
theorem e183_2 {ls : List (Option Value)} {st : List Value} {h : am_H} {p0 : Int32} {o : Nat} (hw : am_w8 st ≤ 8) (hk : am_kd h o = some (.inl 11)) : am_ev 183 2 ls (.int p0 :: .ref o :: st) h = am_bd (am_den 184 [.ref o, .int p0] h) (fun v h1 => am_ev 183 5 ls (v.toList ++ st) h1) := am_u_cV (idx := 161) (wn := 6155) (as := [.int p0]) am_my_183 (by decide +kernel) (Or.inl (by decide +kernel)) am_my_184 (by decide +kernel) rfl ⟨Nat.le_of_ble_eq_true rfl, rfl⟩ (by decide +kernel) hw hk
theorem e183_5 {ls : List (Option Value)} {st : List Value} {h : am_H} {a : Int32} : am_ev 183 5 ls (.int a :: st) h = if a = 0 then am_ev 183 18 ls st h else am_ev 183 8 ls st h := am_u_if1 (c := .eq) (off := 13) am_my_183 (by decide +kernel) (by decide)
theorem e183_8 {ls : List (Option Value)} {st : List Value} {h : am_H} {a : Nat} : am_ev 183 8 (some (.ref a) :: ls) (st) h = am_ev 183 9 (some (.ref a) :: ls) (.ref a :: st) h := am_ev_step (q := (9, some (.ref a) :: ls, .ref a :: st, h)) _ (.aload_n 0) 1 am_my_183 (by decide +kernel) rfl
theorem e183_9 {ls : List (Option Value)} {st : List Value} {h : am_H} {l0 : Option Value} {a : Int32} : am_ev 183 9 (l0 :: some (.int a) :: ls) (st) h = am_ev 183 10 (l0 :: some (.int a) :: ls) (.int a :: st) h := am_ev_step (q := (10, l0 :: some (.int a) :: ls, .int a :: st, h)) _ (.iload_n 1) 1 am_my_183 (by decide +kernel) rfl
theorem e183_10 {ls : List (Option Value)} {st : List Value} {h : am_H} : am_ev 183 10 (ls) (st) h = am_ev 183 11 (ls) (.int (1) :: st) h := am_ev_step (q := (11, ls, .int (1) :: st, h)) _ (.iconst (1)) 1 am_my_183 (by decide +kernel) rfl
theorem e183_11 {ls : List (Option Value)} {st : List Value} {h : am_H} {a b : Int32} : am_ev 183 11 (ls) (.int b :: .int a :: st) h = am_ev 183 12 (ls) (.int (a + b) :: st) h := am_ev_step (q := (12, ls, .int (a + b) :: st, h)) _ (.iadd) 1 am_my_183 (by decide +kernel) rfl
theorem e183_12 {ls : List (Option Value)} {st : List Value} {h : am_H} {p0 : Int32} {o : Nat} (hw : am_w8 st ≤ 8) (hk : am_kd h o = some (.inl 11)) : am_ev 183 12 ls (.int p0 :: .ref o :: st) h = am_bd (am_den 184 [.ref o, .int p0] h) (fun v h1 => am_ev 183 15 ls (v.toList ++ st) h1) := am_u_cV (idx := 161) (wn := 6155) (as := [.int p0]) am_my_183 (by decide +kernel) (Or.inl (by decide +kernel)) am_my_184 (by decide +kernel) rfl ⟨Nat.le_of_ble_eq_true rfl, rfl⟩ (by decide +kernel) hw hk
theorem e183_15 {ls : List (Option Value)} {st : List Value} {h : am_H} {a : Int32} : am_ev 183 15 ls (.int a :: st) h = if ¬ a = 0 then am_ev 183 20 ls st h else am_ev 183 18 ls st h := am_u_if1 (c := .ne) (off := 5) am_my_183 (by decide +kernel) (by decide)
theorem e183_18 {ls : List (Option Value)} {st : List Value} {h : am_H} : am_ev 183 18 (ls) (st) h = am_ev 183 19 (ls) (.int (0) :: st) h := am_ev_step (q := (19, ls, .int (0) :: st, h)) _ (.iconst (0)) 1 am_my_183 (by decide +kernel) rfl
theorem e183_19 {ls : List (Option Value)} {h : am_H} {v : Int32} (hv : v = 0 ∨ v = 1) : am_ev 183 19 ls [.int v] h = some (some (.int v), h) := am_u_rtZ am_my_183 (by decide +kernel) rfl hv
theorem e183_20 {ls : List (Option Value)} {st : List Value} {h : am_H} {a : Nat} : am_ev 183 20 (some (.ref a) :: ls) (st) h = am_ev 183 21 (some (.ref a) :: ls) (.ref a :: st) h := am_ev_step (q := (21, some (.ref a) :: ls, .ref a :: st, h)) _ (.aload_n 0) 1 am_my_183 (by decide +kernel) rfl
theorem e183_21 {ls : List (Option Value)} {st : List Value} {h : am_H} {a : Nat} : am_ev 183 21 (some (.ref a) :: ls) (st) h = am_ev 183 22 (some (.ref a) :: ls) (.ref a :: st) h := am_ev_step (q := (22, some (.ref a) :: ls, .ref a :: st, h)) _ (.aload_n 0) 1 am_my_183 (by decide +kernel) rfl
theorem e183_22 {ls : List (Option Value)} {st : List Value} {h : am_H} {o : Nat} (hk : am_kd h o = some (.inl 11)) : am_ev 183 22 ls (.ref o :: st) h = am_ev 183 25 ls (.int (h.1 o 21) :: st) h := am_u_gfI (idx := 165) (wn := 5153) am_my_183 (by decide +kernel) (by decide +kernel) (by decide +kernel) hk
theorem e183_25 {ls : List (Option Value)} {st : List Value} {h : am_H} {a : Nat} : am_ev 183 25 (some (.ref a) :: ls) (st) h = am_ev 183 26 (some (.ref a) :: ls) (.ref a :: st) h := am_ev_step (q := (26, some (.ref a) :: ls, .ref a :: st, h)) _ (.aload_n 0) 1 am_my_183 (by decide +kernel) rfl
theorem e183_26 {ls : List (Option Value)} {st : List Value} {h : am_H} {o : Nat} (hk : am_kd h o = some (.inl 11)) : am_ev 183 26 ls (.ref o :: st) h = am_ev 183 29 ls (va_rf (h.2.2.1 o 20) :: st) h := am_u_gfR (idx := 41) (wn := 5152) (a := 0) am_my_183 (by decide +kernel) (by decide +kernel) (by decide +kernel) hk
theorem e183_29 {ls : List (Option Value)} {st : List Value} {h : am_H} {l0 : Option Value} {a : Int32} : am_ev 183 29 (l0 :: some (.int a) :: ls) (st) h = am_ev 183 30 (l0 :: some (.int a) :: ls) (.int a :: st) h := am_ev_step (q := (30, l0 :: some (.int a) :: ls, .int a :: st, h)) _ (.iload_n 1) 1 am_my_183 (by decide +kernel) rfl
theorem e183_30 {ls : List (Option Value)} {st : List Value} {h : am_H} {i : Int32} {a : Nat} (ht : am_tc h a = some 0) : am_ev 183 30 ls (.int i :: .ref a :: st) h = if am_ix i (am_len h a) = true then am_ev 183 31 ls (.int (h.1 a i.toNatClampNeg) :: st) h else none := am_u_rI am_my_183 (by decide +kernel) ht
theorem e183_31 {ls : List (Option Value)} {st : List Value} {h : am_H} {p0 : Int32} {p1 : Int32} (hw : am_w8 st ≤ 8) : am_ev 183 31 ls (.int p1 :: .int p0 :: st) h = am_bd (am_den 187 [.int p0, .int p1] h) (fun v h1 => am_ev 183 34 ls (v.toList ++ st) h1) := am_u_cS (idx := 168) (wn := 6167) (as := [.int p0, .int p1]) am_my_183 (by decide +kernel) (by decide +kernel) am_my_187 (by decide +kernel) rfl ⟨Nat.le_of_ble_eq_true rfl, rfl⟩ hw
theorem e183_34 {ls : List (Option Value)} {st : List Value} {h : am_H} {o : Nat} {v : Int32} (hk : am_kd h o = some (.inl 11)) : am_ev 183 34 ls (.int v :: .ref o :: st) h = am_ev 183 37 ls st (am_sI h o 21 v) := am_u_pfI (idx := 165) (wn := 5153) am_my_183 (by decide +kernel) (by decide +kernel) (by decide +kernel) (by decide +kernel) hk
theorem e183_37 {ls : List (Option Value)} {st : List Value} {h : am_H} {a : Nat} : am_ev 183 37 (some (.ref a) :: ls) (st) h = am_ev 183 38 (some (.ref a) :: ls) (.ref a :: st) h := am_ev_step (q := (38, some (.ref a) :: ls, .ref a :: st, h)) _ (.aload_n 0) 1 am_my_183 (by decide +kernel) rfl
theorem e183_38 {ls : List (Option Value)} {st : List Value} {h : am_H} {a : Nat} : am_ev 183 38 (some (.ref a) :: ls) (st) h = am_ev 183 39 (some (.ref a) :: ls) (.ref a :: st) h := am_ev_step (q := (39, some (.ref a) :: ls, .ref a :: st, h)) _ (.aload_n 0) 1 am_my_183 (by decide +kernel) rfl
theorem e183_39 {ls : List (Option Value)} {st : List Value} {h : am_H} {o : Nat} (hk : am_kd h o = some (.inl 11)) : am_ev 183 39 ls (.ref o :: st) h = am_ev 183 42 ls (.int (h.1 o 22) :: st) h := am_u_gfI (idx := 172) (wn := 5154) am_my_183 (by decide +kernel) (by decide +kernel) (by decide +kernel) hk
theorem e183_42 {ls : List (Option Value)} {st : List Value} {h : am_H} {a : Nat} : am_ev 183 42 (some (.ref a) :: ls) (st) h = am_ev 183 43 (some (.ref a) :: ls) (.ref a :: st) h := am_ev_step (q := (43, some (.ref a) :: ls, .ref a :: st, h)) _ (.aload_n 0) 1 am_my_183 (by decide +kernel) rfl
theorem e183_43 {ls : List (Option Value)} {st : List Value} {h : am_H} {o : Nat} (hk : am_kd h o = some (.inl 11)) : am_ev 183 43 ls (.ref o :: st) h = am_ev 183 46 ls (va_rf (h.2.2.1 o 20) :: st) h := am_u_gfR (idx := 41) (wn := 5152) (a := 0) am_my_183 (by decide +kernel) (by decide +kernel) (by decide +kernel) hk
theorem e183_46 {ls : List (Option Value)} {st : List Value} {h : am_H} {l0 : Option Value} {a : Int32} : am_ev 183 46 (l0 :: some (.int a) :: ls) (st) h = am_ev 183 47 (l0 :: some (.int a) :: ls) (.int a :: st) h := am_ev_step (q := (47, l0 :: some (.int a) :: ls, .int a :: st, h)) _ (.iload_n 1) 1 am_my_183 (by decide +kernel) rfl
theorem e183_47 {ls : List (Option Value)} {st : List Value} {h : am_H} : am_ev 183 47 (ls) (st) h = am_ev 183 48 (ls) (.int (1) :: st) h := am_ev_step (q := (48, ls, .int (1) :: st, h)) _ (.iconst (1)) 1 am_my_183 (by decide +kernel) rfl
theorem e183_48 {ls : List (Option Value)} {st : List Value} {h : am_H} {a b : Int32} : am_ev 183 48 (ls) (.int b :: .int a :: st) h = am_ev 183 49 (ls) (.int (a + b) :: st) h := am_ev_step (q := (49, ls, .int (a + b) :: st, h)) _ (.iadd) 1 am_my_183 (by decide +kernel) rfl
theorem e183_49 {ls : List (Option Value)} {st : List Value} {h : am_H} {i : Int32} {a : Nat} (ht : am_tc h a = some 0) : am_ev 183 49 ls (.int i :: .ref a :: st) h = if am_ix i (am_len h a) = true then am_ev 183 50 ls (.int (h.1 a i.toNatClampNeg) :: st) h else none := am_u_rI am_my_183 (by decide +kernel) ht
theorem e183_50 {ls : List (Option Value)} {st : List Value} {h : am_H} {p0 : Int32} {p1 : Int32} (hw : am_w8 st ≤ 8) : am_ev 183 50 ls (.int p1 :: .int p0 :: st) h = am_bd (am_den 187 [.int p0, .int p1] h) (fun v h1 => am_ev 183 53 ls (v.toList ++ st) h1) := am_u_cS (idx := 168) (wn := 6167) (as := [.int p0, .int p1]) am_my_183 (by decide +kernel) (by decide +kernel) am_my_187 (by decide +kernel) rfl ⟨Nat.le_of_ble_eq_true rfl, rfl⟩ hw
theorem e183_53 {ls : List (Option Value)} {st : List Value} {h : am_H} {o : Nat} {v : Int32} (hk : am_kd h o = some (.inl 11)) : am_ev 183 53 ls (.int v :: .ref o :: st) h = am_ev 183 56 ls st (am_sI h o 22 v) := am_u_pfI (idx := 172) (wn := 5154) am_my_183 (by decide +kernel) (by decide +kernel) (by decide +kernel) (by decide +kernel) hk
theorem e183_56 {ls : List (Option Value)} {st : List Value} {h : am_H} : am_ev 183 56 (ls) (st) h = am_ev 183 57 (ls) (.int (1) :: st) h := am_ev_step (q := (57, ls, .int (1) :: st, h)) _ (.iconst (1)) 1 am_my_183 (by decide +kernel) rfl
theorem e183_57 {ls : List (Option Value)} {h : am_H} {v : Int32} (hv : v = 0 ∨ v = 1) : am_ev 183 57 ls [.int v] h = some (some (.int v), h) := am_u_rtZ am_my_183 (by decide +kernel) rfl hv
/-- all numbers so far can be -/
def t_ac (r : List Nat) (v : Nat → Nat) : Nat → Bool
  | 0 => true
  | i + 1 => t_ac r v i && t_can (r.getD i 0) (v i) v
theorem t_ac_iff (r : List Nat) (v : Nat → Nat) : ∀ i, t_ac r v i = true ↔ ∀ j, j < i → t_can (r.getD j 0) (v j) v = true := by
  intro i
  induction i with
  | zero => exact ⟨fun _ j hj => absurd hj (Nat.not_lt_zero _), fun _ => rfl⟩
  | succ i ih =>
    show (t_ac r v i && t_can (r.getD i 0) (v i) v) = true ↔ _
    rw [Bool.and_eq_true, ih]
    constructor
    · intro ⟨a, b⟩ j hj
      by_cases e : j = i
      · rw [e]; exact b
      · exact a j (by omega)
    · exact fun q => ⟨fun j hj => q j (by omega), q i (by omega)⟩
/-- i numbers are taken, from place off of the row on -/
def m_nm (t : Nat → Nat) (L : Nat) (g : am_H) (e : Nat) (r : List Nat) (q1 : Nat × Nat) (off : Nat) (T : Nat → Int32) (fx fy : Int32) (h : am_H) (i : Nat) : Prop := m_st t L g h (t_nx t L e i) (t_rq r (t_va t L e) (t_nx t L e) i q1) (t_nx t L e i) ∧ (∀ j, j < i → t_K t L (t_nx t L e j) = 3 ∧ h.1 222 (off + j) = nI (t_va t L e j)) ∧ h.1 211 23 = q_bi (t_ac r (t_va t L e) i) ∧ (∀ j, h.1 221 j = T j) ∧ h.1 211 21 = fx ∧ h.1 211 22 = fy
theorem m_nu {t : Nat → Nat} {L : Nat} {g : am_H} {e : Nat} {r : List Nat} {q1 : Nat × Nat} {off : Nat} {T : Nat → Int32} {fx fy : Int32} {h : am_H} {i : Nat} (H : m_nm t L g e r q1 off T fx fy h i) (hk : off + i < 6) (lo hi : Nat) (but : Int32) (hlo : lo < 100) (hhi : hi < 100) (hc : t_K t L (t_nx t L e i) = 3 → (t_can (r.getD i 0) (t_va t L e i) (t_va t L e) = true ↔ (lo ≤ t_va t L e i ∧ t_va t L e i ≤ hi) ∧ ¬ nI (t_va t L e i) = but)) :
    (t_K t L (t_nx t L e i) ≠ 3 → ∃ h' : am_H, am_den 186 [.ref 211, .int (nI (off + i)), .int (nI lo), .int (nI hi), .int but] h = some (some (.int 0), h') ∧ m_bk g h' (t_nx t L e i)) ∧
    (t_K t L (t_nx t L e i) = 3 → ∃ h' : am_H, am_den 186 [.ref 211, .int (nI (off + i)), .int (nI lo), .int (nI hi), .int but] h = some (some (.int 1), h') ∧ m_nm t L g e r q1 off T fx fy h' (i + 1) ∧ (∀ j, j ≠ off + i → h'.1 222 j = h.1 222 j)) := by
  obtain ⟨S, N, G, E, X, Y⟩ := H
  obtain ⟨A, B⟩ := m_takeBut S (off + i) lo hi but hk hlo hhi (t_can (r.getD i 0) (t_va t L e i) (t_va t L e)) hc
  refine ⟨A, fun c => ?_⟩
  obtain ⟨h', d, S', a1, a2, a3, a4, a5⟩ := B c
  refine ⟨h', d, ⟨S', fun j hj => ?_, ?_, fun j => (a1 j).trans (E j), a3.trans X, a4.trans Y⟩, fun j hj => by rw [a2, if_neg hj]⟩
  · by_cases ej : j = i
    · rw [ej, a2, if_pos rfl]
      exact ⟨c, rfl⟩
    · rw [a2, if_neg (by omega)]
      exact N j (by omega)
  · rw [a5, G]
    show _ = q_bi (t_ac r (t_va t L e) i && t_can (r.getD i 0) (t_va t L e i) (t_va t L e))
    cases t_can (r.getD i 0) (t_va t L e i) (t_va t L e) with
    | true => rw [if_pos rfl, Bool.and_true]
    | false => rw [if_neg (by decide), Bool.and_false]; rfl
theorem den_take (h : am_H) (ok : am_okH h) (k lo hi v : Int32) (h' : am_H) (d : am_den 186 [.ref 211, .int k, .int lo, .int hi, .int (-1)] h = some (some (.int v), h')) (hv : v = 0 ∨ v = 1) : am_den 185 [.ref 211, .int k, .int lo, .int hi] h = some (some (.int v), h') := by
  show am_ev 185 0 [some (.ref 211), some (.int k), some (.int lo), some (.int hi)] [] h = _
  simp only [e185_0, e185_1, e185_2, e185_3, e185_4, e185_5, e185_8, am_bd_some, Option.toList_some, Option.toList_none, List.cons_append, List.nil_append, am_w8_0, am_w8_1, am_w8_2, am_w8_3, am_w8_4, eq_self, or_true, true_or, am_kd_sI, am_kd_sL, am_kd_sR, am_tc_sI, am_tc_sL, am_tc_sR, am_len_sI, am_len_sL, am_len_sR, am_rfs, if_true, if_false, am_rdL_sI, am_rR_sL, am_rt_cq, am_kd_cq, am_tc_cq, am_len_cq, am_rd_sL, am_rd_sR, am_rdL_sR, okK_211 ok, d, hv]
theorem den_takeSeven (h : am_H) (ok : am_okH h) (k v : Int32) (h' : am_H) (d : am_den 186 [.ref 211, .int k, .int 0, .int 7, .int (-1)] h = some (some (.int v), h')) (hv : v = 0 ∨ v = 1) : am_den 184 [.ref 211, .int k] h = some (some (.int v), h') := by
  have d2 := den_take h ok k 0 7 v h' d hv
  show am_ev 184 0 [some (.ref 211), some (.int k)] [] h = _
  simp only [e184_0, e184_1, e184_2, e184_3, e184_5, e184_8, am_bd_some, Option.toList_some, Option.toList_none, List.cons_append, List.nil_append, am_w8_0, am_w8_1, am_w8_2, am_w8_3, am_w8_4, eq_self, or_true, true_or, am_kd_sI, am_kd_sL, am_kd_sR, am_tc_sI, am_tc_sL, am_tc_sR, am_len_sI, am_len_sL, am_len_sR, am_rfs, if_true, if_false, am_rdL_sI, am_rR_sL, am_rt_cq, am_kd_cq, am_tc_cq, am_len_cq, am_rd_sL, am_rd_sR, am_rdL_sR, okK_211 ok, d2, hv]
/-- ranges -/
theorem r_c {c v : Nat} {n : Nat → Nat} (hc : c = 99) (hv : v < 100) : t_can c v n = true ↔ (0 ≤ v ∧ v ≤ 7) ∧ ¬ nI v = -1 := by
  subst hc
  have m := q_m1_n v (by omega)
  unfold t_can
  rw [if_neg (by decide), if_neg (by decide), if_neg (by decide), if_pos rfl, decide_eq_true_eq]
  exact ⟨fun w => ⟨by omega, m⟩, fun w => by omega⟩
theorem r_s {c v : Nat} {n : Nat → Nat} (hc : c = 115) (hv : v < 100) : t_can c v n = true ↔ (2 ≤ v ∧ v ≤ 8) ∧ ¬ nI v = -1 := by
  subst hc
  have m := q_m1_n v (by omega)
  unfold t_can
  rw [if_pos rfl, decide_eq_true_eq]
  exact ⟨fun w => ⟨w, m⟩, fun w => w.1⟩
theorem r_e {c v : Nat} {n : Nat → Nat} (hc : c = 101) (hv : v < 100) : t_can c v n = true ↔ (1 ≤ v ∧ v ≤ 9) ∧ ¬ nI v = -1 := by
  subst hc
  have m := q_m1_n v (by omega)
  unfold t_can
  rw [if_neg (by decide), if_pos rfl, decide_eq_true_eq]
  exact ⟨fun w => ⟨w, m⟩, fun w => w.1⟩
theorem r_d {c v : Nat} {n : Nat → Nat} (hc : c = 100) (hv : v < 100) : t_can c v n = true ↔ (0 ≤ v ∧ v ≤ 3) ∧ ¬ nI v = -1 := by
  subst hc
  have m := q_m1_n v (by omega)
  unfold t_can
  rw [if_neg (by decide), if_neg (by decide), if_pos rfl, decide_eq_true_eq]
  exact ⟨fun w => ⟨by omega, m⟩, fun w => by omega⟩
theorem r_w {c v : Nat} {n : Nat → Nat} (hc : c = 119) (hv : v < 100) : t_can c v n = true ↔ (0 ≤ v ∧ v ≤ 99) ∧ ¬ nI v = -1 := by
  subst hc
  have m := q_m1_n v (by omega)
  unfold t_can
  rw [if_neg (by decide), if_neg (by decide), if_neg (by decide), if_neg (by decide), if_neg (by decide)]
  exact ⟨fun w => ⟨by omega, m⟩, fun w => rfl⟩
theorem r_r {c v : Nat} {n : Nat → Nat} (hc : c = 114) (hv : v < 100) (n3 : n 3 = v) (n1 : n 1 < 100) : t_can c v n = true ↔ (0 ≤ v ∧ v ≤ 7) ∧ ¬ nI v = (if n 0 = n 2 then nI (n 1) else -1) := by
  subst hc
  have m := q_m1_n v (by omega)
  have e : nI v = nI (n 1) ↔ v = n 1 := nI_eq (by omega) (by omega)
  unfold t_can
  rw [if_neg (by decide), if_neg (by decide), if_neg (by decide), if_neg (by decide), if_pos rfl, decide_eq_true_eq, n3]
  by_cases c : n 0 = n 2
  · rw [if_pos c, e]
    exact ⟨fun w => ⟨by omega, fun u => w.2 ⟨c, u.symm⟩⟩, fun w => ⟨by omega, fun u => w.2 u.2.symm⟩⟩
  · rw [if_neg c]
    exact ⟨fun w => ⟨by omega, m⟩, fun w => ⟨by omega, fun u => c u.1⟩⟩
/-- a cell is taken: column, row -/
def m_gr (a b : Int32) : Int32 := if a ≤ b then b else a
theorem m_cell {t : Nat → Nat} {L : Nat} {g : am_H} {e : Nat} {r : List Nat} {q1 : Nat × Nat} {T : Nat → Int32} {fx fy : Int32} {h : am_H} (H : m_nm t L g e r q1 0 T fx fy h 0) (r0 : r.getD 0 0 = 99) (r1 : r.getD 1 0 = 99) :
    (match t_fb t L e 2 0 with
    | some p => ∃ h' : am_H, am_den 183 [.ref 211, .int 0] h = some (some (.int 0), h') ∧ m_bk g h' p
    | none => ∃ h' : am_H, am_den 183 [.ref 211, .int 0] h = some (some (.int 1), h') ∧ m_nm t L g e r q1 0 T (m_gr fx (nI (t_va t L e 0))) (m_gr fy (nI (t_va t L e 1))) h' 2) := by
  have o0 : (0 : Int32) = 0 ∨ (0 : Int32) = 1 := Or.inl rfl
  have o1 : (1 : Int32) = 0 ∨ (1 : Int32) = 1 := Or.inr rfl
  have y : ¬ (1 : Int32) = 0 := by decide
  have a01 : (0 : Int32) + 1 = 1 := by decide
  have ok := H.1.1.1
  obtain ⟨A0, B0⟩ := m_nu H (by decide) 0 7 (-1) (by decide) (by decide) (fun c => r_c r0 (t_v_lt c))
  show (match (if t_K t L (t_nx t L e 0) = 3 then (if t_K t L (t_nx t L e 1) = 3 then none else some (t_nx t L e 1)) else some (t_nx t L e 0) : Option Nat) with
    | some p => _
    | none => _)
  by_cases k0 : t_K t L (t_nx t L e 0) = 3
  · rw [if_pos k0]
    obtain ⟨h1, d1, H1, -⟩ := B0 k0
    have ok1 := H1.1.1.1
    have d1' := den_takeSeven h ok 0 1 h1 d1 o1
    obtain ⟨A1, B1⟩ := m_nu H1 (by decide) 0 7 (-1) (by decide) (by decide) (fun c => r_c r1 (t_v_lt c))
    by_cases k1 : t_K t L (t_nx t L e 1) = 3
    · rw [if_pos k1]
      obtain ⟨h2, d2, H2, -⟩ := B1 k1
      have d2' := den_takeSeven h1 ok1 1 1 h2 d2 o1
      have ok2 := H2.1.1.1
      obtain ⟨S, N, G, E, X, Y⟩ := H2
      have n0 : h2.1 222 0 = nI (t_va t L e 0) := (N 0 (by decide)).2
      have n1 : h2.1 222 1 = nI (t_va t L e 1) := (N 1 (by decide)).2
      have x0 : am_ix 0 6 = true := by decide
      have x1 : am_ix 1 6 = true := by decide
      have z0 : (0 : Int32).toNatClampNeg = 0 := rfl
      have z1 : (1 : Int32).toNatClampNeg = 1 := rfl
      let h3 : am_H := am_sI h2 211 21 (m_gr fx (nI (t_va t L e 0)))
      let h4 : am_H := am_sI h3 211 22 (m_gr fy (nI (t_va t L e 1)))
      have ok3 : am_okH h3 := ok2
      have n13 : h3.1 222 1 = nI (t_va t L e 1) := (c_ne _ _ _ _ _ _ (by decide)).trans n1
      have Y3 : h3.1 211 22 = fy := by rw [c_rw, if_neg (by decide)]; exact Y
      have s1 : am_ev 183 0 [some (.ref 211), some (.int 0)] [] h = am_ev 183 20 [some (.ref 211), some (.int 0)] [] h2 := by
        simp only [e183_0, e183_1, e183_2, e183_5, e183_8, e183_9, e183_10, e183_11, e183_12, e183_15, e183_18, e183_19, e183_21, e183_22, e183_25, e183_26, e183_29, e183_30, e183_31, e183_34, e183_37, e183_38, e183_39, e183_42, e183_43, e183_46, e183_47, e183_48, e183_49, e183_50, e183_53, e183_56, e183_57, am_bd_some, Option.toList_some, Option.toList_none, List.cons_append, List.nil_append, am_w8_0, am_w8_1, am_w8_2, am_w8_3, am_w8_4, eq_self, or_true, true_or, am_kd_sI, am_kd_sL, am_kd_sR, am_tc_sI, am_tc_sL, am_tc_sR, am_len_sI, am_len_sL, am_len_sR, am_rfs, if_true, if_false, am_rdL_sI, am_rR_sL, am_rt_cq, am_kd_cq, am_tc_cq, am_len_cq, am_rd_sL, am_rd_sR, am_rdL_sR, okK_211 ok, d1', y, a01, okK_211 ok1, d2', not_false_eq_true]
      have s2 : am_ev 183 20 [some (.ref 211), some (.int 0)] [] h2 = am_ev 183 37 [some (.ref 211), some (.int 0)] [] h3 := by
        simp only [e183_0, e183_1, e183_2, e183_5, e183_8, e183_9, e183_10, e183_11, e183_12, e183_15, e183_18, e183_19, e183_20, e183_21, e183_22, e183_25, e183_26, e183_29, e183_30, e183_31, e183_34, e183_38, e183_39, e183_42, e183_43, e183_46, e183_47, e183_48, e183_49, e183_50, e183_53, e183_56, e183_57, am_bd_some, Option.toList_some, Option.toList_none, List.cons_append, List.nil_append, am_w8_0, am_w8_1, am_w8_2, am_w8_3, am_w8_4, eq_self, or_true, true_or, am_kd_sI, am_kd_sL, am_kd_sR, am_tc_sI, am_tc_sL, am_tc_sR, am_len_sI, am_len_sL, am_len_sR, am_rfs, if_true, if_false, am_rdL_sI, am_rR_sL, am_rt_cq, am_kd_cq, am_tc_cq, am_len_cq, am_rd_sL, am_rd_sR, am_rdL_sR, okK_211 ok2, X, okR_211_20 ok2, okT_222 ok2, okL_222 ok2, x0, z0, n0, den_greater]
        rfl
      have s3 : am_ev 183 37 [some (.ref 211), some (.int 0)] [] h3 = some (some (.int 1), h4) := by
        simp only [e183_0, e183_1, e183_2, e183_5, e183_8, e183_9, e183_10, e183_11, e183_12, e183_15, e183_18, e183_19, e183_20, e183_21, e183_22, e183_25, e183_26, e183_29, e183_30, e183_31, e183_34, e183_37, e183_38, e183_39, e183_42, e183_43, e183_46, e183_47, e183_48, e183_49, e183_50, e183_53, e183_56, e183_57, am_bd_some, Option.toList_some, Option.toList_none, List.cons_append, List.nil_append, am_w8_0, am_w8_1, am_w8_2, am_w8_3, am_w8_4, eq_self, or_true, true_or, am_kd_sI, am_kd_sL, am_kd_sR, am_tc_sI, am_tc_sL, am_tc_sR, am_len_sI, am_len_sL, am_len_sR, am_rfs, if_true, if_false, am_rdL_sI, am_rR_sL, am_rt_cq, am_kd_cq, am_tc_cq, am_len_cq, am_rd_sL, am_rd_sR, am_rdL_sR, okK_211 ok3, Y3, okR_211_20 ok3, okT_222 ok3, okL_222 ok3, a01, x1, z1, n13, den_greater, o1]
        rfl
      refine ⟨h4, (s1.trans s2).trans s3, ((S.sI 211 21 _ (by omega)).sI 211 22 _ (by omega)), fun j hj => ⟨(N j hj).1, ?_⟩, ?_, fun j => ?_, ?_, c_eq _ _ _ _⟩
      · rw [c_ne _ _ _ _ _ _ (by decide), c_ne _ _ _ _ _ _ (by decide)]; exact (N j hj).2
      · rw [c_rw, if_neg (by decide), c_rw, if_neg (by decide)]; exact G
      · rw [c_ne _ _ _ _ _ _ (by decide), c_ne _ _ _ _ _ _ (by decide)]; exact E j
      · rw [c_rw, if_neg (by decide), c_eq]
    · rw [if_neg k1]
      obtain ⟨h2, d2, b2⟩ := A1 k1
      have d2' := den_takeSeven h1 ok1 1 0 h2 d2 o0
      refine ⟨h2, ?_, b2⟩
      show am_ev 183 0 [some (.ref 211), some (.int 0)] [] h = _
      simp only [e183_0, e183_1, e183_2, e183_5, e183_8, e183_9, e183_10, e183_11, e183_12, e183_15, e183_18, e183_19, e183_20, e183_21, e183_22, e183_25, e183_26, e183_29, e183_30, e183_31, e183_34, e183_37, e183_38, e183_39, e183_42, e183_43, e183_46, e183_47, e183_48, e183_49, e183_50, e183_53, e183_56, e183_57, am_bd_some, Option.toList_some, Option.toList_none, List.cons_append, List.nil_append, am_w8_0, am_w8_1, am_w8_2, am_w8_3, am_w8_4, eq_self, or_true, true_or, am_kd_sI, am_kd_sL, am_kd_sR, am_tc_sI, am_tc_sL, am_tc_sR, am_len_sI, am_len_sL, am_len_sR, am_rfs, if_true, if_false, am_rdL_sI, am_rR_sL, am_rt_cq, am_kd_cq, am_tc_cq, am_len_cq, am_rd_sL, am_rd_sR, am_rdL_sR, okK_211 ok, d1', y, a01, okK_211 ok1, d2', not_true, o0]
  · rw [if_neg k0]
    obtain ⟨h1, d1, b1⟩ := A0 k0
    have d1' := den_takeSeven h ok 0 0 h1 d1 o0
    refine ⟨h1, ?_, b1⟩
    show am_ev 183 0 [some (.ref 211), some (.int 0)] [] h = _
    simp only [e183_0, e183_1, e183_2, e183_5, e183_8, e183_9, e183_10, e183_11, e183_12, e183_15, e183_18, e183_19, e183_20, e183_21, e183_22, e183_25, e183_26, e183_29, e183_30, e183_31, e183_34, e183_37, e183_38, e183_39, e183_42, e183_43, e183_46, e183_47, e183_48, e183_49, e183_50, e183_53, e183_56, e183_57, am_bd_some, Option.toList_some, Option.toList_none, List.cons_append, List.nil_append, am_w8_0, am_w8_1, am_w8_2, am_w8_3, am_w8_4, eq_self, or_true, true_or, am_kd_sI, am_kd_sL, am_kd_sR, am_tc_sI, am_tc_sL, am_tc_sR, am_len_sI, am_len_sL, am_len_sR, am_rfs, if_true, if_false, am_rdL_sI, am_rR_sL, am_rt_cq, am_kd_cq, am_tc_cq, am_len_cq, am_rd_sL, am_rd_sR, am_rdL_sR, okK_211 ok, d1', o0]
