/-! part 29: feed -/
def q_run (t lc lk : Nat) : List Int32 → Nat → am_H → am_H
  | [], _, h => h
  | b :: r, n, h => q_run t lc lk r (n + 1) (am_sI (am_sI h t n b) lc lk (nI (n + 1)))
theorem q_run_2 (t lc lk : Nat) : ∀ (bs : List Int32) (n : Nat) (h : am_H), (q_run t lc lk bs n h).2 = h.2 := by
  intro bs
  induction bs with
  | nil => intro n h; rfl
  | cons b r ih => intro n h; rw [q_run, ih]; rfl
theorem q_run_ap (t lc lk : Nat) : ∀ (bs cs : List Int32) (n : Nat) (h : am_H), q_run t lc lk (bs ++ cs) n h = q_run t lc lk cs (n + bs.length) (q_run t lc lk bs n h) := by
  intro bs
  induction bs with
  | nil => intro cs n h; rfl
  | cons b r ih =>
    intro cs n h
    rw [List.cons_append, q_run, ih, q_run, List.length_cons]
    congr 1
    omega
theorem q_run_o (t lc lk : Nat) (a k : Nat) (h1 : ¬ (a = lc ∧ k = lk)) : ∀ (bs : List Int32) (n : Nat) (h : am_H), ¬ (a = t ∧ n ≤ k ∧ k < n + bs.length) → (q_run t lc lk bs n h).1 a k = h.1 a k := by
  intro bs
  induction bs with
  | nil => intro n h _; rfl
  | cons b r ih =>
    intro n h hn
    rw [List.length_cons] at hn
    rw [q_run, ih (n + 1) _ (by omega), am_rd_sI, if_neg h1, am_rd_sI, if_neg (by omega)]
theorem q_run_n (t lc lk : Nat) (ht : t ≠ lc) : ∀ (bs : List Int32) (n : Nat) (h : am_H), bs ≠ [] → (q_run t lc lk bs n h).1 lc lk = nI (n + bs.length) := by
  intro bs
  induction bs with
  | nil => intro n h hb; exact absurd rfl hb
  | cons b r ih =>
    intro n h _
    rw [q_run]
    cases r with
    | nil => rw [q_run, am_rd_sI, if_pos ⟨rfl, rfl⟩]; rfl
    | cons c r => rw [ih (n + 1) _ (by intro q; cases q)]; congr 1; simp only [List.length_cons]; omega
theorem q_run_i (t lc lk : Nat) (ht : t ≠ lc) : ∀ (bs : List Int32) (n : Nat) (h : am_H) (k : Nat), n ≤ k → k < n + bs.length → (q_run t lc lk bs n h).1 t k = bs.getD (k - n) 0 := by
  intro bs
  induction bs with
  | nil => intro n h k h1 h2; simp only [List.length_nil] at h2; omega
  | cons b r ih =>
    intro n h k h1 h2
    rw [List.length_cons] at h2
    rw [q_run]
    by_cases c : k = n
    · subst c
      rw [q_run_o t lc lk t k (fun q => ht q.1) r (k + 1) _ (by omega), am_rd_sI, if_neg (fun q => ht q.1), am_rd_sI, if_pos ⟨rfl, rfl⟩, Nat.sub_self]
      rfl
    · rw [ih (n + 1) _ k (by omega) (by omega), show k - n = (k - (n + 1)) + 1 by omega]
      rfl
def q_sh (v s : Int32) : Int32 := am_byte (am_byte (v >>> (s &&& 31)))
def q_b4 (v : Int32) : List Int32 := [q_sh v 24, q_sh v 16, q_sh v 8, q_sh v 0]
theorem q_ap_1 (v s : Int32) (n : Nat) (h : am_H) (ok : am_okH h) (hn : n < 600) (e : h.1 1 1 = nI n) (hs : ¬ s < 0) : am_ev 13 3 [some (.ref 1), some (.int v), some (.int s)] [] h = am_ev 13 3 [some (.ref 1), some (.int v), some (.int (s + -8))] [] (am_sI (am_sI h 2 n (q_sh v s)) 1 1 (nI (n + 1))) := by
  have h1 : ¬ (600 : Int32) ≤ nI n := fun q => nI_ge (b := 600) (a := n) hn (by decide) q
  have x1 : am_ix (nI n) 600 = true := am_ix_nI hn (by decide)
  have z1 : (nI n).toNatClampNeg = n := nI_clamp (by omega)
  have e2 : (am_sI h 2 n (q_sh v s)).1 1 1 = nI n := e
  unfold q_sh at e2
  rw [e13_3]
  simp only [e13_0, e13_2, e13_4, e13_7, e13_8, e13_11, e13_14, e13_17, e13_18, e13_21, e13_22, e13_25, e13_26, e13_27, e13_28, e13_29, e13_29z, e13_30, e13_31, e13_31i, e13_32, e13_35, e13_36, e13_37, e13_40, e13_43, e13_46, am_bd_some, Option.toList_some, Option.toList_none, List.cons_append, List.nil_append, am_w8_0, am_w8_1, am_w8_2, am_w8_3, am_w8_4, eq_self, or_true, true_or, am_kd_sI, am_kd_sL, am_kd_sR, am_tc_sI, am_tc_sL, am_tc_sR, am_len_sI, am_len_sL, am_len_sR, am_rfs, if_true, if_false, hs, okK_1 ok, okR_1_0 ok, okT_2 ok, okL_2 ok, e, h1, x1, z1, e2, nI_1, q_sh]
theorem den_append (v : Int32) (n : Nat) (h : am_H) (ok : am_okH h) (hn : n + 4 ≤ 600) (e : h.1 1 1 = nI n) : am_den 13 [.ref 1, .int v] h = some (none, q_run 2 1 1 (q_b4 v) n h) := by
  show am_ev 13 0 [some (.ref 1), some (.int v), none] [] h = _
  have e0 : am_ev 13 0 [some (.ref 1), some (.int v), none] [] h = am_ev 13 3 [some (.ref 1), some (.int v), some (.int 24)] [] h := by
    simp only [e13_0, e13_2]
  have s1 : (24 : Int32) + -8 = 16 := by decide
  have s2 : (16 : Int32) + -8 = 8 := by decide
  have s3 : (8 : Int32) + -8 = 0 := by decide
  have s4 : (0 : Int32) + -8 < 0 := by decide
  rw [e0, q_ap_1 v 24 n h ok (by omega) e (by decide), s1, q_ap_1 v 16 (n + 1) (am_sI (am_sI h 2 n (q_sh v 24)) 1 1 (nI (n + 1))) ok (by omega) rfl (by decide), s2, q_ap_1 v 8 (n + 1 + 1) (am_sI (am_sI (am_sI (am_sI h 2 n (q_sh v 24)) 1 1 (nI (n + 1))) 2 (n + 1) (q_sh v 16)) 1 1 (nI (n + 1 + 1))) ok (by omega) rfl (by decide), s3, q_ap_1 v 0 (n + 1 + 1 + 1) (am_sI (am_sI (am_sI (am_sI (am_sI (am_sI h 2 n (q_sh v 24)) 1 1 (nI (n + 1))) 2 (n + 1) (q_sh v 16)) 1 1 (nI (n + 1 + 1))) 2 (n + 1 + 1) (q_sh v 8)) 1 1 (nI (n + 1 + 1 + 1))) ok (by omega) rfl (by decide), e13_3]
  simp only [e13_0, e13_2, e13_4, e13_7, e13_8, e13_11, e13_14, e13_17, e13_18, e13_21, e13_22, e13_25, e13_26, e13_27, e13_28, e13_29, e13_29z, e13_30, e13_31, e13_31i, e13_32, e13_35, e13_36, e13_37, e13_40, e13_43, e13_46, s4, if_true, q_b4, q_run]
theorem q_fr_1 (v s : Int32) (n : Nat) (h : am_H) (ok : am_okH h) (hn : n < 2400) (e : h.1 213 0 = nI n) (hs : ¬ s < 0) : am_ev 166 3 [some (.ref 211), some (.int v), some (.int s)] [] h = am_ev 166 3 [some (.ref 211), some (.int v), some (.int (s + -8))] [] (am_sI (am_sI h 212 n (q_sh v s)) 213 0 (nI (n + 1))) := by
  have x1 : am_ix (nI n) 2400 = true := am_ix_nI hn (by decide)
  have z1 : (nI n).toNatClampNeg = n := nI_clamp (by omega)
  have x0 : am_ix 0 4 = true := by decide
  have z0 : (0 : Int32).toNatClampNeg = 0 := by decide
  have e2 : (am_sI h 212 n (q_sh v s)).1 213 0 = nI n := e
  unfold q_sh at e2
  rw [e166_3]
  simp only [e166_0, e166_2, e166_4, e166_7, e166_8, e166_11, e166_12, e166_15, e166_16, e166_17, e166_18, e166_19, e166_20, e166_21, e166_21z, e166_22, e166_23, e166_26, e166_27, e166_28, e166_29, e166_30, e166_31, e166_32, e166_35, e166_38, am_bd_some, Option.toList_some, Option.toList_none, List.cons_append, List.nil_append, am_w8_0, am_w8_1, am_w8_2, am_w8_3, am_w8_4, eq_self, or_true, true_or, am_kd_sI, am_kd_sL, am_kd_sR, am_tc_sI, am_tc_sL, am_tc_sR, am_len_sI, am_len_sL, am_len_sR, am_rfs, if_true, if_false, hs, okK_211 ok, okR_211_1 ok, okR_211_2 ok, okT_212 ok, okL_212 ok, okT_213 ok, okL_213 ok, am_rdL_sI, e, x1, z1, x0, z0, e2, nI_1, q_sh]
theorem den_four (v : Int32) (n : Nat) (h : am_H) (ok : am_okH h) (hn : n + 4 ≤ 600) (e : h.1 213 0 = nI n) : am_den 166 [.ref 211, .int v] h = some (none, q_run 212 213 0 (q_b4 v) n h) := by
  show am_ev 166 0 [some (.ref 211), some (.int v), none] [] h = _
  have e0 : am_ev 166 0 [some (.ref 211), some (.int v), none] [] h = am_ev 166 3 [some (.ref 211), some (.int v), some (.int 24)] [] h := by
    simp only [e166_0, e166_2]
  have s1 : (24 : Int32) + -8 = 16 := by decide
  have s2 : (16 : Int32) + -8 = 8 := by decide
  have s3 : (8 : Int32) + -8 = 0 := by decide
  have s4 : (0 : Int32) + -8 < 0 := by decide
  rw [e0, q_fr_1 v 24 n h ok (by omega) e (by decide), s1, q_fr_1 v 16 (n + 1) (am_sI (am_sI h 212 n (q_sh v 24)) 213 0 (nI (n + 1))) ok (by omega) rfl (by decide), s2, q_fr_1 v 8 (n + 1 + 1) (am_sI (am_sI (am_sI (am_sI h 212 n (q_sh v 24)) 213 0 (nI (n + 1))) 212 (n + 1) (q_sh v 16)) 213 0 (nI (n + 1 + 1))) ok (by omega) rfl (by decide), s3, q_fr_1 v 0 (n + 1 + 1 + 1) (am_sI (am_sI (am_sI (am_sI (am_sI (am_sI h 212 n (q_sh v 24)) 213 0 (nI (n + 1))) 212 (n + 1) (q_sh v 16)) 213 0 (nI (n + 1 + 1))) 212 (n + 1 + 1) (q_sh v 8)) 213 0 (nI (n + 1 + 1 + 1))) ok (by omega) rfl (by decide), e166_3]
  simp only [e166_0, e166_2, e166_4, e166_7, e166_8, e166_11, e166_12, e166_15, e166_16, e166_17, e166_18, e166_19, e166_20, e166_21, e166_21z, e166_22, e166_23, e166_26, e166_27, e166_28, e166_29, e166_30, e166_31, e166_32, e166_35, e166_38, s4, if_true, q_b4, q_run]
theorem q_b4_l (v : Int32) : (q_b4 v).length = 4 := rfl
theorem q_b4_n (v : Int32) : q_b4 v ≠ [] := by intro q; cases q
theorem am_okH.run {h : am_H} (ok : am_okH h) (t lc lk : Nat) (bs : List Int32) (n : Nat) : am_okH (q_run t lc lk bs n h) := ok.of (congrArg Prod.snd (q_run_2 t lc lk bs n h))
def q_b20 (a b c d e : Int32) : List Int32 := q_b4 a ++ (q_b4 b ++ (q_b4 c ++ (q_b4 d ++ q_b4 e)))
theorem ly_0 : ly_p0 := by
  intro a b c d e h R
  obtain ⟨A, H⟩ := R
  have H' := H
  obtain ⟨ok, h0, ⟨⟨a1, a2, a3, a4⟩, rb, rc, rd⟩, -⟩ := H'
  have e1 : h.1 1 1 = nI A.1 := a2
  have e2 : h.1 213 0 = nI A.1 := a3
  have x0 : am_ix 0 4 = true := by decide
  have z0 : (0 : Int32).toNatClampNeg = 0 := by decide
  have e20 : nI A.1 + 20 = nI (A.1 + 20) := nI_add A.1 20
  have le20 : nI (A.1 + 20) ≤ 600 ↔ A.1 + 20 ≤ 600 := nI_leI (a := A.1 + 20) (b := 600) (by omega) (by decide)
  by_cases c1 : A.1 + 20 ≤ 600
  · have t1 := le20.mpr c1
    generalize hn : A.1 = n at *
    -- class
    have k1 := den_append a n h ok (by omega) e1
    have o1 := ok.run 2 1 1 (q_b4 a) n
    have m1 : (q_run 2 1 1 (q_b4 a) n h).1 1 1 = nI (n + 4) := q_run_n 2 1 1 (by decide) _ n h (q_b4_n a)
    have k2 := den_append b (n + 4) _ o1 (by omega) m1
    have o2 := o1.run 2 1 1 (q_b4 b) (n + 4)
    have m2 := q_run_n 2 1 1 (by decide) _ (n + 4) (q_run 2 1 1 (q_b4 a) n h) (q_b4_n b)
    rw [q_b4_l, Nat.add_assoc] at m2
    have k3 := den_append c (n + 8) _ o2 (by omega) m2
    have o3 := o2.run 2 1 1 (q_b4 c) (n + 8)
    have m3 := q_run_n 2 1 1 (by decide) _ (n + 8) (q_run 2 1 1 (q_b4 b) (n + 4) (q_run 2 1 1 (q_b4 a) n h)) (q_b4_n c)
    rw [q_b4_l, Nat.add_assoc] at m3
    have k4 := den_append d (n + 12) _ o3 (by omega) m3
    have o4 := o3.run 2 1 1 (q_b4 d) (n + 12)
    have m4 := q_run_n 2 1 1 (by decide) _ (n + 12) (q_run 2 1 1 (q_b4 c) (n + 8) (q_run 2 1 1 (q_b4 b) (n + 4) (q_run 2 1 1 (q_b4 a) n h))) (q_b4_n d)
    rw [q_b4_l, Nat.add_assoc] at m4
    have k5 := den_append e (n + 16) _ o4 (by omega) m4
    have o5 := o4.run 2 1 1 (q_b4 e) (n + 16)
    have m5 := q_run_n 2 1 1 (by decide) _ (n + 16) (q_run 2 1 1 (q_b4 d) (n + 12) (q_run 2 1 1 (q_b4 c) (n + 8) (q_run 2 1 1 (q_b4 b) (n + 4) (q_run 2 1 1 (q_b4 a) n h)))) (q_b4_n e)
    rw [q_b4_l, Nat.add_assoc] at m5
    have al : q_run 2 1 1 (q_b4 e) (n + 16) (q_run 2 1 1 (q_b4 d) (n + 12) (q_run 2 1 1 (q_b4 c) (n + 8) (q_run 2 1 1 (q_b4 b) (n + 4) (q_run 2 1 1 (q_b4 a) n h)))) = q_run 2 1 1 (q_b20 a b c d e) n h := by
      unfold q_b20
      rw [q_run_ap, q_run_ap, q_run_ap, q_run_ap]
      rfl
    have dc : am_den 12 [.ref 0, .int a, .int b, .int c, .int d, .int e] h = some (some (.int (nI (n + 20))), q_run 2 1 1 (q_b20 a b c d e) n h) := by
      show am_ev 12 0 [some (.ref 0), some (.int a), some (.int b), some (.int c), some (.int d), some (.int e)] [] h = _
      simp only [e12_0, e12_1, e12_4, e12_7, e12_9, e12_10, e12_13, e12_16, e12_17, e12_18, e12_19, e12_22, e12_23, e12_26, e12_27, e12_30, e12_31, e12_34, e12_35, e12_38, e12_39, e12_42, e12_43, e12_46, e12_48, e12_51, e12_52, e12_55, e12_57, e12_60, e12_61, e12_64, e12_67, am_bd_some, Option.toList_some, Option.toList_none, List.cons_append, List.nil_append, am_w8_0, am_w8_1, am_w8_2, am_w8_3, am_w8_4, eq_self, or_true, true_or, am_kd_sI, am_kd_sL, am_kd_sR, am_tc_sI, am_tc_sL, am_tc_sR, am_len_sI, am_len_sL, am_len_sR, am_rfs, if_true, if_false, okK_0 ok, okR_0_0 ok, okK_1 ok, e1, e20, t1, k1, okK_0 o1, okR_0_0 o1, okK_1 o1, k2, okK_0 o2, okR_0_0 o2, okK_1 o2, k3, okK_0 o3, okR_0_0 o3, okK_1 o3, k4, okK_0 o4, okR_0_0 o4, okK_1 o4, k5, okK_0 o5, okR_0_0 o5, okK_1 o5, m5]
      rw [al]
    have ok1 := ok.run 2 1 1 (q_b20 a b c d e) n
    have l20 : (q_b20 a b c d e).length = 20 := rfl
    have f0 : (q_run 2 1 1 (q_b20 a b c d e) n h).1 211 0 = 0 := by rw [q_run_o 2 1 1 211 0 (by decide) _ _ _ (fun q => absurd q.1 (by decide))]; exact h0
    have f1 : (q_run 2 1 1 (q_b20 a b c d e) n h).1 213 0 = nI n := by rw [q_run_o 2 1 1 213 0 (by decide) _ _ _ (fun q => absurd q.1 (by decide))]; exact e2
    generalize hg : q_run 2 1 1 (q_b20 a b c d e) n h = g at *
    have k1' := den_four a n g ok1 (by omega) f1
    have o1' := ok1.run 212 213 0 (q_b4 a) n
    have m1' : (q_run 212 213 0 (q_b4 a) n g).1 213 0 = nI (n + 4) := q_run_n 212 213 0 (by decide) _ n g (q_b4_n a)
    have k2' := den_four b (n + 4) _ o1' (by omega) m1'
    have o2' := o1'.run 212 213 0 (q_b4 b) (n + 4)
    have m2' := q_run_n 212 213 0 (by decide) _ (n + 4) (q_run 212 213 0 (q_b4 a) n g) (q_b4_n b)
    rw [q_b4_l, Nat.add_assoc] at m2'
    have k3' := den_four c (n + 8) _ o2' (by omega) m2'
    have o3' := o2'.run 212 213 0 (q_b4 c) (n + 8)
    have m3' := q_run_n 212 213 0 (by decide) _ (n + 8) (q_run 212 213 0 (q_b4 b) (n + 4) (q_run 212 213 0 (q_b4 a) n g)) (q_b4_n c)
    rw [q_b4_l, Nat.add_assoc] at m3'
    have k4' := den_four d (n + 12) _ o3' (by omega) m3'
    have o4' := o3'.run 212 213 0 (q_b4 d) (n + 12)
    have m4' := q_run_n 212 213 0 (by decide) _ (n + 12) (q_run 212 213 0 (q_b4 c) (n + 8) (q_run 212 213 0 (q_b4 b) (n + 4) (q_run 212 213 0 (q_b4 a) n g))) (q_b4_n d)
    rw [q_b4_l, Nat.add_assoc] at m4'
    have k5' := den_four e (n + 16) _ o4' (by omega) m4'
    have o5' := o4'.run 212 213 0 (q_b4 e) (n + 16)
    have m5' := q_run_n 212 213 0 (by decide) _ (n + 16) (q_run 212 213 0 (q_b4 d) (n + 12) (q_run 212 213 0 (q_b4 c) (n + 8) (q_run 212 213 0 (q_b4 b) (n + 4) (q_run 212 213 0 (q_b4 a) n g)))) (q_b4_n e)
    rw [q_b4_l, Nat.add_assoc] at m5'
    have al' : q_run 212 213 0 (q_b4 e) (n + 16) (q_run 212 213 0 (q_b4 d) (n + 12) (q_run 212 213 0 (q_b4 c) (n + 8) (q_run 212 213 0 (q_b4 b) (n + 4) (q_run 212 213 0 (q_b4 a) n g)))) = q_run 212 213 0 (q_b20 a b c d e) n g := by
      unfold q_b20
      rw [q_run_ap, q_run_ap, q_run_ap, q_run_ap]
      rfl
    have dm : am_den 165 [.ref 211, .int a, .int b, .int c, .int d, .int e] g = some (some (.int (nI (n + 20))), q_run 212 213 0 (q_b20 a b c d e) n g) := by
      show am_ev 165 0 [some (.ref 211), some (.int a), some (.int b), some (.int c), some (.int d), some (.int e)] [] g = _
      simp only [e165_0, e165_1, e165_2, e165_5, e165_6, e165_9, e165_10, e165_11, e165_13, e165_14, e165_17, e165_20, e165_21, e165_22, e165_23, e165_24, e165_27, e165_28, e165_29, e165_32, e165_33, e165_34, e165_37, e165_38, e165_40, e165_43, e165_44, e165_46, e165_49, e165_50, e165_53, e165_54, e165_55, am_bd_some, Option.toList_some, Option.toList_none, List.cons_append, List.nil_append, am_w8_0, am_w8_1, am_w8_2, am_w8_3, am_w8_4, eq_self, or_true, true_or, am_kd_sI, am_kd_sL, am_kd_sR, am_tc_sI, am_tc_sL, am_tc_sR, am_len_sI, am_len_sL, am_len_sR, am_rfs, if_true, if_false, okK_211 ok1, okR_211_2 ok1, okT_213 ok1, okL_213 ok1, am_sI_id f0, x0, z0, f1, e20, t1, k1', okK_211 o1', k2', okK_211 o2', k3', okK_211 o3', k4', okK_211 o4', k5', okK_211 o5', okR_211_2 o5', okT_213 o5', okL_213 o5', m5']
      rw [al']
    have ok2 := ok1.run 212 213 0 (q_b20 a b c d e) n
    have g2 : g.2 = h.2 := by rw [← hg]; exact q_run_2 _ _ _ _ _ _
    refine ⟨nI (n + 20), g, q_run 212 213 0 (q_b20 a b c d e) n g, ok1, by rw [g2], dc, dm, ⟨(n + 20, A.2), ?_⟩, by rw [q_run_2, g2]⟩
    have gr : ∀ o k, ¬ (o = 1 ∧ k = 1) → ¬ (o = 2 ∧ n ≤ k ∧ k < n + 20) → g.1 o k = h.1 o k := fun o k q1 q2 => by rw [← hg]; exact q_run_o 2 1 1 o k q1 _ n h q2
    have qr : ∀ o k, ¬ (o = 213 ∧ k = 0) → ¬ (o = 212 ∧ n ≤ k ∧ k < n + 20) → (q_run 212 213 0 (q_b20 a b c d e) n g).1 o k = g.1 o k := fun o k q1 q2 => q_run_o 212 213 0 o k q1 _ n g q2
    have gn : g.1 1 1 = nI (n + 20) := by rw [← hg]; exact q_run_n 2 1 1 (by decide) _ n h (by intro q; cases q)
    have qn : (q_run 212 213 0 (q_b20 a b c d e) n g).1 213 0 = nI (n + 20) := q_run_n 212 213 0 (by decide) _ n g (by intro q; cases q)
    have r2 : (q_run 212 213 0 (q_b20 a b c d e) n g).2 = h.2 := by rw [q_run_2, g2]
    generalize hq : q_run 212 213 0 (q_b20 a b c d e) n g = g' at *
    have tot : ∀ o k, ¬ (o = 1 ∧ k = 1) → ¬ (o = 2 ∧ n ≤ k ∧ k < n + 20) → ¬ (o = 213 ∧ k = 0) → ¬ (o = 212 ∧ n ≤ k ∧ k < n + 20) → g'.1 o k = h.1 o k := fun o k q1 q2 q3 q4 => (qr o k q3 q4).trans (gr o k q1 q2)
    have tl : ∀ o k, g'.2.1 o k = h.2.1 o k := fun o k => by rw [r2]
    have base : q_RV A (q_cv h 1) (q_cl h 1) (q_mv h 0) := H.2.2.1
    refine H.now ok2 ((tot 211 0 (by omega) (by omega) (by omega) (by omega)).trans h0) ?_ (fun o k p1 p2 => ⟨tot o k (by omega) (by omega) (by omega) (by omega), tl o k⟩) (fun o k p1 p2 => tot (212 + o) k (by omega) (by omega) (fun q => ?_) (fun q => ?_)) (fun k => tot 236 k (by omega) (by omega) (by omega) (by omega))
    · have cg : q_RW A (q_cv g' 1) (q_cl g' 1) (q_mv g' 0) := by
        refine q_RW.cg (cv := q_cv h 1) (cl := q_cl h 1) (mv := q_mv h 0) H.2.2.1.2 (tot 1 2 (by omega) (by omega) (by omega) (by omega)) (tot 1 3 (by omega) (by omega) (by omega) (by omega)) (fun o k p1 p2 => ?_) (tl 8 6) (tl 24 6) (fun o k p1 p2 p3 => tot (212 + o) _ (by omega) (by omega) (by omega) (by omega))
        have ho := q_lim_lt p2
        exact tot (1 + o) k (by omega) (by omega) (by omega) (by omega)
      refine ⟨⟨c1, ?_, ?_, fun k hk => ?_⟩, cg⟩
      · exact (qr 1 1 (by omega) (by omega)).trans gn
      · exact qn
      · show am_byte (g'.1 2 k) = am_byte (g'.1 212 (600 * 0 + k))
        rw [Nat.mul_zero, Nat.zero_add]
        have hk2 : k < n + 20 := hk
        by_cases c2 : k < n
        · rw [tot 2 k (by omega) (by omega) (by omega) (by omega), tot 212 k (by omega) (by omega) (by omega) (by omega)]
          have := a4 k c2
          have e3 : q_mv h 0 0 k = h.1 212 k := by
            show h.1 212 (600 * 0 + k) = _
            rw [Nat.mul_zero, Nat.zero_add]
          rw [e3] at this
          exact this
        · rw [qr 2 k (by omega) (by omega), ← hg, q_run_i 2 1 1 (by decide) (q_b20 a b c d e) n h k (by omega) hk2, ← hq, q_run_i 212 213 0 (by decide) (q_b20 a b c d e) n g k (by omega) hk2]
    · obtain rfl : o = 1 := by omega
      have : q_wd 1 = 1 := rfl
      omega
    · obtain rfl : o = 0 := by omega
      have : q_wd 0 = 600 := rfl
      omega
  · have t1 : ¬ nI (A.1 + 20) ≤ 600 := fun q => c1 (le20.mp q)
    refine ⟨-1, h, h, ok, rfl, ?_, ?_, ⟨A, H⟩, rfl⟩
    · show am_ev 12 0 [some (.ref 0), some (.int a), some (.int b), some (.int c), some (.int d), some (.int e)] [] h = _
      simp only [e12_0, e12_1, e12_4, e12_7, e12_9, e12_10, e12_13, e12_16, e12_17, e12_18, e12_19, e12_22, e12_23, e12_26, e12_27, e12_30, e12_31, e12_34, e12_35, e12_38, e12_39, e12_42, e12_43, e12_46, e12_48, e12_51, e12_52, e12_55, e12_57, e12_60, e12_61, e12_64, e12_67, am_bd_some, Option.toList_some, Option.toList_none, List.cons_append, List.nil_append, am_w8_0, am_w8_1, am_w8_2, am_w8_3, am_w8_4, eq_self, or_true, true_or, am_kd_sI, am_kd_sL, am_kd_sR, am_tc_sI, am_tc_sL, am_tc_sR, am_len_sI, am_len_sL, am_len_sR, am_rfs, if_true, if_false, okK_0 ok, okR_0_0 ok, okK_1 ok, e1, e20, t1]
    · show am_ev 165 0 [some (.ref 211), some (.int a), some (.int b), some (.int c), some (.int d), some (.int e)] [] h = _
      simp only [e165_0, e165_1, e165_2, e165_5, e165_6, e165_9, e165_10, e165_11, e165_13, e165_14, e165_17, e165_20, e165_21, e165_22, e165_23, e165_24, e165_27, e165_28, e165_29, e165_32, e165_33, e165_34, e165_37, e165_38, e165_40, e165_43, e165_44, e165_46, e165_49, e165_50, e165_53, e165_54, e165_55, am_bd_some, Option.toList_some, Option.toList_none, List.cons_append, List.nil_append, am_w8_0, am_w8_1, am_w8_2, am_w8_3, am_w8_4, eq_self, or_true, true_or, am_kd_sI, am_kd_sL, am_kd_sR, am_tc_sI, am_tc_sL, am_tc_sR, am_len_sI, am_len_sL, am_len_sR, am_rfs, if_true, if_false, okK_211 ok, okR_211_2 ok, okT_213 ok, okL_213 ok, am_sI_id h0, x0, z0, e2, e20, t1]
