/-! part 32: image, again: the pairs -/
theorem q_byte2 (v : Int32) : am_byte (am_byte v) = am_byte v := by
  unfold am_byte
  simp
theorem q_tc2_rd (d s : Nat) (h : am_H) (a k : Nat) : (q_tc2 d s h).1 a k = if d ≤ a ∧ k < q_full.getD (a - d) 0 ∧ (a = d → 1 ≤ k) then h.1 (s + (a - d)) k else h.1 a k := rfl
theorem q_tc2_o (d s : Nat) (h : am_H) (a k : Nat) (ha : a < d ∨ d + 39 ≤ a) : (q_tc2 d s h).1 a k = h.1 a k := by
  rw [q_tc2_rd, if_neg (fun q => ?_)]
  have e : q_full.getD (a - d) 0 = 0 := q_gz (by show 39 ≤ a - d; omega)
  have := q.2.1
  omega
theorem q_tc2_i (d s : Nat) (h : am_H) (o k : Nat) (hk : k < q_full.getD o 0) (h0 : o = 0 → 1 ≤ k) : (q_tc2 d s h).1 (d + o) k = h.1 (s + o) k := by
  rw [q_tc2_rd, Nat.add_sub_cancel_left, if_pos ⟨Nat.le_add_right _ _, hk, fun q => h0 (by omega)⟩]
theorem q_tc2_L7 (d s : Nat) (h : am_H) : (q_tc2 d s h).2.1 (d + 7) 6 = h.2.1 (s + 7) 6 := by
  unfold q_tc2
  rw [q_bL_o _ _ _ _ _ (by omega), q_bL_6]
  rfl
theorem q_tc2_L23 (d s : Nat) (h : am_H) (hn : s + 23 ≠ d + 7) : (q_tc2 d s h).2.1 (d + 23) 6 = h.2.1 (s + 23) 6 := by
  unfold q_tc2
  rw [q_bL_6, q_bL_o _ _ _ _ _ hn]
  rfl
theorem q_tc2_Lo (d s : Nat) (h : am_H) (a k : Nat) (h1 : a ≠ d + 7) (h2 : a ≠ d + 23) : (q_tc2 d s h).2.1 a k = h.2.1 a k := by
  unfold q_tc2
  rw [q_bL_o _ _ _ _ _ h2, q_bL_o _ _ _ _ _ h1]
  rfl
theorem q_tc2_r (d s : Nat) (h : am_H) : (q_tc2 d s h).2.2 = h.2.2 := rfl
theorem q_lim_full {o k : Nat} (h2 : 2 ≤ o) (h : k < q_lim o) : k < q_full.getD o 0 := by
  have ho := q_lim_lt h
  have : ∀ o, o < 39 → 2 ≤ o → q_lim o = q_full.getD o 0 := by decide
  rw [← this o ho h2]
  exact h
theorem q_RS.copy {A : q_All} {f t : Nat} {h h' : am_H} (H : q_RS A f h) (hc : ∀ o k, o < 39 → k < q_full.getD o 0 → (o = 0 → 1 ≤ k) → h'.1 (q_at t + o) k = h.1 (q_at f + o) k) (l7 : h'.2.1 (q_at t + 7) 6 = h.2.1 (q_at f + 7) 6) (l23 : h'.2.1 (q_at t + 23) 6 = h.2.1 (q_at f + 23) 6) (hm : ∀ a k, 1 ≤ a → a < 9 → k < q_wd a → h'.1 (212 + a) (q_wd a * t + k) = h.1 (212 + a) (q_wd a * f + k)) (hm0 : ∀ k, k < 600 → h'.1 212 (600 * t + k) = q_bb (h.1 212 (600 * f + k))) : q_RS A t h' := by
  obtain ⟨⟨a1, a2, a3, a4⟩, H2⟩ := H
  refine ⟨⟨a1, ?_, ?_, fun k hk => ?_⟩, q_RW.cg (cv := q_cv h (q_at f)) (cl := q_cl h (q_at f)) (mv := q_mv h f) H2 ?_ ?_ (fun o k p1 p2 => ?_) l7 l23 (fun a k p1 p2 p3 => hm a k (by omega) p2 p3)⟩
  · exact (hc 0 1 (by decide) (by decide) (fun _ => by decide)).trans a2
  · exact (hm 1 0 (by decide) (by decide) (by decide)).trans a3
  · have e1 : q_cv h' (q_at t) 1 k = q_cv h (q_at f) 1 k := hc 1 k (by decide) (by show k < 600; omega) (fun q => by omega)
    have e2 : q_mv h' t 0 k = q_bb (q_mv h f 0 k) := hm0 k (by omega)
    rw [e1, e2, q_bb, q_byte2, q_byte2]
    exact a4 k hk
  · exact hc 0 2 (by decide) (by decide) (fun _ => by decide)
  · exact hc 0 3 (by decide) (by decide) (fun _ => by decide)
  · exact hc o k (q_lim_lt p2) (q_lim_full p1 p2) (fun q => by omega)
theorem q_ca_in (f t : Nat) (h : am_H) (a k : Nat) (h1 : 1 ≤ a) (h9 : a < 9) (hk : k < q_wd a) : (q_ca f t h).1 (212 + a) (q_wd a * t + k) = h.1 (212 + a) (q_wd a * f + k) := by
  have : a = 1 ∨ a = 2 ∨ a = 3 ∨ a = 4 ∨ a = 5 ∨ a = 6 ∨ a = 7 ∨ a = 8 := by omega
  rcases this with rfl | rfl | rfl | rfl | rfl | rfl | rfl | rfl
  · exact q_ca_1 f t h k hk
  · exact q_ca_2 f t h k hk
  · exact q_ca_3 f t h k hk
  · exact q_ca_4 f t h k hk
  · exact q_ca_5 f t h k hk
  · exact q_ca_6 f t h k hk
  · exact q_ca_7 f t h k hk
  · exact q_ca_8 f t h k hk
theorem q_ca_oth (f t j : Nat) (h : am_H) (a k : Nat) (h9 : a < 9) (hk : k < q_wd a) (hj : j ≠ t) : (q_ca f t h).1 (212 + a) (q_wd a * j + k) = h.1 (212 + a) (q_wd a * j + k) := by
  refine q_ca_o f t h _ _ (fun b hb e => ?_)
  obtain rfl : a = b := by omega
  rcases Nat.lt_or_gt_of_ne hj with q | q
  · have : q_wd a * (j + 1) ≤ q_wd a * t := Nat.mul_le_mul_left _ q
    rw [Nat.mul_succ] at this
    omega
  · have : q_wd a * (t + 1) ≤ q_wd a * j := Nat.mul_le_mul_left _ q
    rw [Nat.mul_succ] at this
    omega
/-- a slot that nobody writes -/
theorem q_RS.keep {A : q_All} {j : Nat} {h h' : am_H} (H : q_RS A j h) (hc : ∀ o k, o < 39 → h'.1 (q_at j + o) k = h.1 (q_at j + o) k ∧ h'.2.1 (q_at j + o) k = h.2.1 (q_at j + o) k) (hm : ∀ a k, a < 9 → k < q_wd a → h'.1 (212 + a) (q_wd a * j + k) = h.1 (212 + a) (q_wd a * j + k)) : q_RS A j h' := q_RV.cg H (fun o k ho _ _ => (hc o k ho).1) (fun k _ => congrArg am_byte (hc 1 k (by decide)).1) (fun o k ho => (hc o k ho).2) (fun a k _ h9 hk => hm a k h9 hk) (fun k hk => congrArg am_byte (hm 0 k (by decide) hk))
theorem den_cimage_0 (h : am_H) (ok : am_okH h) : am_den 62 [.ref 0, .int 0] h = some (some (.int 1), am_sI (q_tc2 41 1 h) 158 0 1) := by
  have x : am_ix 0 3 = true := by decide
  have z : (0 : Int32).toNatClampNeg = 0 := by decide
  have g1 : ¬ (0 : Int32) < 0 := by decide
  have g2 : (0 : Int32) < 3 := by decide
  have d := den_tcopy 41 1 h (q_to_41 ok) (q_to_1 ok) (by decide)
  have ok2 : am_okH (q_tc2 41 1 h) := ok
  show am_ev 62 0 [some (.ref 0), some (.int 0)] [] h = _
  simp only [e62_0, e62_1, e62_4, e62_5, e62_6, e62_9, e62_10, e62_11, e62_12, e62_15, e62_16f, e62_16d, e62_16b, e62_16l, e62_16t, e62_17, e62_18, e62_21, e62_24, e62_25, e62_28, e62_29, e62_30, e62_30z, e62_31, e62_32, am_bd_some, Option.toList_some, Option.toList_none, List.cons_append, List.nil_append, am_w8_0, am_w8_1, am_w8_2, am_w8_3, am_w8_4, eq_self, or_true, true_or, am_kd_sI, am_kd_sL, am_kd_sR, am_tc_sI, am_tc_sL, am_tc_sR, am_len_sI, am_len_sL, am_len_sR, am_rfs, if_true, if_false, am_rdL_sI, am_rR_sL, am_rt_cq, am_kd_cq, am_tc_cq, am_len_cq, am_rd_sL, am_rd_sR, am_rdL_sR, g1, g2, okK_0 ok, okR_0_0 ok, okR_0_1 ok, okT_40 ok, okL_40 ok, okR_40_0 ok, okK_41 ok, x, z, d, okK_0 ok2, okR_0_2 ok2, okT_158 ok2, okL_158 ok2]
theorem den_mimage_0 (h : am_H) (ok : am_okH h) (h0 : h.1 211 0 = 0) : am_den 294 [.ref 211, .int 0] h = some (some (.int 1), am_sI (q_ca 0 1 h) 236 0 1) := by
  have x : am_ix 0 3 = true := by decide
  have z : (0 : Int32).toNatClampNeg = 0 := by decide
  have g1 : (0 : Int32) ≤ 0 ∧ (0 : Int32) ≤ 2 := by decide
  have p : (0 : Int32) + 1 = 1 := by decide
  have y1 : (1 : Int32) = 0 ↔ False := by decide
  have d : am_den 295 [.ref 211, .int 0, .int 1] h = some (none, q_ca 0 1 h) := den_all 0 1 h ok (by decide) (by decide) (by decide)
  have ok2 : am_okH (q_ca 0 1 h) := ok
  show am_ev 294 0 [some (.ref 211), some (.int 0)] [] h = _
  simp only [e294_0, e294_1, e294_2, e294_5, e294_6, e294_7, e294_8, e294_11, e294_14, e294_15, e294_16, e294_17, e294_18, e294_19, e294_20, e294_21, e294_24, e294_25, e294_28, e294_29, e294_30, e294_30z, e294_31, e294_32, am_bd_some, Option.toList_some, Option.toList_none, List.cons_append, List.nil_append, am_w8_0, am_w8_1, am_w8_2, am_w8_3, am_w8_4, eq_self, or_true, true_or, am_kd_sI, am_kd_sL, am_kd_sR, am_tc_sI, am_tc_sL, am_tc_sR, am_len_sI, am_len_sL, am_len_sR, am_rfs, if_true, if_false, am_rdL_sI, am_rR_sL, am_rt_cq, am_kd_cq, am_tc_cq, am_len_cq, am_rd_sL, am_rd_sR, am_rdL_sR, okK_211 ok, am_sI_id h0, den_in, g1, and_self, y1, not_false_eq_true, p, d, x, z, okK_211 ok2, okR_211_59 ok2, okT_236 ok2, okL_236 ok2]
theorem den_cagain_0 (h : am_H) (ok : am_okH h) : am_den 64 [.ref 0, .int 0] h = if h.1 158 0 = 0 then some (some (.int 0), h) else some (some (.int 1), q_tc2 1 41 h) := by
  have x : am_ix 0 3 = true := by decide
  have z : (0 : Int32).toNatClampNeg = 0 := by decide
  have g1 : ¬ (0 : Int32) < 0 := by decide
  have g2 : ¬ (3 : Int32) ≤ 0 := by decide
  have d := den_tcopy 1 41 h (q_to_1 ok) (q_to_41 ok) (by decide)
  show am_ev 64 0 [some (.ref 0), some (.int 0)] [] h = _
  simp only [e64_0, e64_1, e64_4, e64_5, e64_6, e64_9, e64_10, e64_13, e64_14, e64_14z, e64_15, e64_18, e64_19, e64_20, e64_21, e64_24, e64_25, e64_28, e64_29f, e64_29d, e64_29b, e64_29l, e64_29t, e64_30, e64_33, e64_34, am_bd_some, Option.toList_some, Option.toList_none, List.cons_append, List.nil_append, am_w8_0, am_w8_1, am_w8_2, am_w8_3, am_w8_4, eq_self, or_true, true_or, am_kd_sI, am_kd_sL, am_kd_sR, am_tc_sI, am_tc_sL, am_tc_sR, am_len_sI, am_len_sL, am_len_sR, am_rfs, if_true, if_false, am_rdL_sI, am_rR_sL, am_rt_cq, am_kd_cq, am_tc_cq, am_len_cq, am_rd_sL, am_rd_sR, am_rdL_sR, g1, g2, okK_0 ok, okR_0_0 ok, okR_0_1 ok, okR_0_2 ok, okT_158 ok, okL_158 ok, okT_40 ok, okL_40 ok, okR_40_0 ok, okK_1 ok, okK_41 ok, x, z, d]
  by_cases c : h.1 158 0 = 0
  · simp [c]
  · simp [c]
theorem den_magain_0 (h : am_H) (ok : am_okH h) (h0 : h.1 211 0 = 0) : am_den 297 [.ref 211, .int 0] h = if h.1 236 0 = 0 then some (some (.int 0), h) else some (some (.int 1), q_ca 1 0 h) := by
  have x : am_ix 0 3 = true := by decide
  have z : (0 : Int32).toNatClampNeg = 0 := by decide
  have g1 : (0 : Int32) ≤ 0 ∧ (0 : Int32) ≤ 2 := by decide
  have p : (0 : Int32) + 1 = 1 := by decide
  have y1 : (1 : Int32) = 0 ↔ False := by decide
  have d : am_den 295 [.ref 211, .int 1, .int 0] h = some (none, q_ca 1 0 h) := den_all 1 0 h ok (by decide) (by decide) (by decide)
  show am_ev 297 0 [some (.ref 211), some (.int 0)] [] h = _
  simp only [e297_0, e297_1, e297_2, e297_5, e297_6, e297_7, e297_8, e297_11, e297_14, e297_15, e297_18, e297_19, e297_19z, e297_20, e297_23, e297_24, e297_25, e297_26, e297_27, e297_28, e297_29, e297_30, e297_33, e297_34, am_bd_some, Option.toList_some, Option.toList_none, List.cons_append, List.nil_append, am_w8_0, am_w8_1, am_w8_2, am_w8_3, am_w8_4, eq_self, or_true, true_or, am_kd_sI, am_kd_sL, am_kd_sR, am_tc_sI, am_tc_sL, am_tc_sR, am_len_sI, am_len_sL, am_len_sR, am_rfs, if_true, if_false, am_rdL_sI, am_rR_sL, am_rt_cq, am_kd_cq, am_tc_cq, am_len_cq, am_rd_sL, am_rd_sR, am_rdL_sR, okK_211 ok, am_sI_id h0, den_in, g1, and_self, y1, p, d, x, z, okR_211_59 ok, okT_236 ok, okL_236 ok]
  by_cases c : h.1 236 0 = 0
  · simp [c]
  · simp [c]
theorem den_cimage_1 (h : am_H) (ok : am_okH h) : am_den 62 [.ref 0, .int 1] h = some (some (.int 1), am_sI (q_tc2 80 1 h) 158 1 1) := by
  have x : am_ix 1 3 = true := by decide
  have z : (1 : Int32).toNatClampNeg = 1 := by decide
  have g1 : ¬ (1 : Int32) < 0 := by decide
  have g2 : (1 : Int32) < 3 := by decide
  have d := den_tcopy 80 1 h (q_to_80 ok) (q_to_1 ok) (by decide)
  have ok2 : am_okH (q_tc2 80 1 h) := ok
  show am_ev 62 0 [some (.ref 0), some (.int 1)] [] h = _
  simp only [e62_0, e62_1, e62_4, e62_5, e62_6, e62_9, e62_10, e62_11, e62_12, e62_15, e62_16f, e62_16d, e62_16b, e62_16l, e62_16t, e62_17, e62_18, e62_21, e62_24, e62_25, e62_28, e62_29, e62_30, e62_30z, e62_31, e62_32, am_bd_some, Option.toList_some, Option.toList_none, List.cons_append, List.nil_append, am_w8_0, am_w8_1, am_w8_2, am_w8_3, am_w8_4, eq_self, or_true, true_or, am_kd_sI, am_kd_sL, am_kd_sR, am_tc_sI, am_tc_sL, am_tc_sR, am_len_sI, am_len_sL, am_len_sR, am_rfs, if_true, if_false, am_rdL_sI, am_rR_sL, am_rt_cq, am_kd_cq, am_tc_cq, am_len_cq, am_rd_sL, am_rd_sR, am_rdL_sR, g1, g2, okK_0 ok, okR_0_0 ok, okR_0_1 ok, okT_40 ok, okL_40 ok, okR_40_1 ok, okK_80 ok, x, z, d, okK_0 ok2, okR_0_2 ok2, okT_158 ok2, okL_158 ok2]
theorem den_mimage_1 (h : am_H) (ok : am_okH h) (h0 : h.1 211 0 = 0) : am_den 294 [.ref 211, .int 1] h = some (some (.int 1), am_sI (q_ca 0 2 h) 236 1 1) := by
  have x : am_ix 1 3 = true := by decide
  have z : (1 : Int32).toNatClampNeg = 1 := by decide
  have g1 : (0 : Int32) ≤ 1 ∧ (1 : Int32) ≤ 2 := by decide
  have p : (1 : Int32) + 1 = 2 := by decide
  have y1 : (1 : Int32) = 0 ↔ False := by decide
  have d : am_den 295 [.ref 211, .int 0, .int 2] h = some (none, q_ca 0 2 h) := den_all 0 2 h ok (by decide) (by decide) (by decide)
  have ok2 : am_okH (q_ca 0 2 h) := ok
  show am_ev 294 0 [some (.ref 211), some (.int 1)] [] h = _
  simp only [e294_0, e294_1, e294_2, e294_5, e294_6, e294_7, e294_8, e294_11, e294_14, e294_15, e294_16, e294_17, e294_18, e294_19, e294_20, e294_21, e294_24, e294_25, e294_28, e294_29, e294_30, e294_30z, e294_31, e294_32, am_bd_some, Option.toList_some, Option.toList_none, List.cons_append, List.nil_append, am_w8_0, am_w8_1, am_w8_2, am_w8_3, am_w8_4, eq_self, or_true, true_or, am_kd_sI, am_kd_sL, am_kd_sR, am_tc_sI, am_tc_sL, am_tc_sR, am_len_sI, am_len_sL, am_len_sR, am_rfs, if_true, if_false, am_rdL_sI, am_rR_sL, am_rt_cq, am_kd_cq, am_tc_cq, am_len_cq, am_rd_sL, am_rd_sR, am_rdL_sR, okK_211 ok, am_sI_id h0, den_in, g1, and_self, y1, not_false_eq_true, p, d, x, z, okK_211 ok2, okR_211_59 ok2, okT_236 ok2, okL_236 ok2]
theorem den_cagain_1 (h : am_H) (ok : am_okH h) : am_den 64 [.ref 0, .int 1] h = if h.1 158 1 = 0 then some (some (.int 0), h) else some (some (.int 1), q_tc2 1 80 h) := by
  have x : am_ix 1 3 = true := by decide
  have z : (1 : Int32).toNatClampNeg = 1 := by decide
  have g1 : ¬ (1 : Int32) < 0 := by decide
  have g2 : ¬ (3 : Int32) ≤ 1 := by decide
  have d := den_tcopy 1 80 h (q_to_1 ok) (q_to_80 ok) (by decide)
  show am_ev 64 0 [some (.ref 0), some (.int 1)] [] h = _
  simp only [e64_0, e64_1, e64_4, e64_5, e64_6, e64_9, e64_10, e64_13, e64_14, e64_14z, e64_15, e64_18, e64_19, e64_20, e64_21, e64_24, e64_25, e64_28, e64_29f, e64_29d, e64_29b, e64_29l, e64_29t, e64_30, e64_33, e64_34, am_bd_some, Option.toList_some, Option.toList_none, List.cons_append, List.nil_append, am_w8_0, am_w8_1, am_w8_2, am_w8_3, am_w8_4, eq_self, or_true, true_or, am_kd_sI, am_kd_sL, am_kd_sR, am_tc_sI, am_tc_sL, am_tc_sR, am_len_sI, am_len_sL, am_len_sR, am_rfs, if_true, if_false, am_rdL_sI, am_rR_sL, am_rt_cq, am_kd_cq, am_tc_cq, am_len_cq, am_rd_sL, am_rd_sR, am_rdL_sR, g1, g2, okK_0 ok, okR_0_0 ok, okR_0_1 ok, okR_0_2 ok, okT_158 ok, okL_158 ok, okT_40 ok, okL_40 ok, okR_40_1 ok, okK_1 ok, okK_80 ok, x, z, d]
  by_cases c : h.1 158 1 = 0
  · simp [c]
  · simp [c]
theorem den_magain_1 (h : am_H) (ok : am_okH h) (h0 : h.1 211 0 = 0) : am_den 297 [.ref 211, .int 1] h = if h.1 236 1 = 0 then some (some (.int 0), h) else some (some (.int 1), q_ca 2 0 h) := by
  have x : am_ix 1 3 = true := by decide
  have z : (1 : Int32).toNatClampNeg = 1 := by decide
  have g1 : (0 : Int32) ≤ 1 ∧ (1 : Int32) ≤ 2 := by decide
  have p : (1 : Int32) + 1 = 2 := by decide
  have y1 : (1 : Int32) = 0 ↔ False := by decide
  have d : am_den 295 [.ref 211, .int 2, .int 0] h = some (none, q_ca 2 0 h) := den_all 2 0 h ok (by decide) (by decide) (by decide)
  show am_ev 297 0 [some (.ref 211), some (.int 1)] [] h = _
  simp only [e297_0, e297_1, e297_2, e297_5, e297_6, e297_7, e297_8, e297_11, e297_14, e297_15, e297_18, e297_19, e297_19z, e297_20, e297_23, e297_24, e297_25, e297_26, e297_27, e297_28, e297_29, e297_30, e297_33, e297_34, am_bd_some, Option.toList_some, Option.toList_none, List.cons_append, List.nil_append, am_w8_0, am_w8_1, am_w8_2, am_w8_3, am_w8_4, eq_self, or_true, true_or, am_kd_sI, am_kd_sL, am_kd_sR, am_tc_sI, am_tc_sL, am_tc_sR, am_len_sI, am_len_sL, am_len_sR, am_rfs, if_true, if_false, am_rdL_sI, am_rR_sL, am_rt_cq, am_kd_cq, am_tc_cq, am_len_cq, am_rd_sL, am_rd_sR, am_rdL_sR, okK_211 ok, am_sI_id h0, den_in, g1, and_self, y1, p, d, x, z, okR_211_59 ok, okT_236 ok, okL_236 ok]
  by_cases c : h.1 236 1 = 0
  · simp [c]
  · simp [c]
theorem den_cimage_2 (h : am_H) (ok : am_okH h) : am_den 62 [.ref 0, .int 2] h = some (some (.int 1), am_sI (q_tc2 119 1 h) 158 2 1) := by
  have x : am_ix 2 3 = true := by decide
  have z : (2 : Int32).toNatClampNeg = 2 := by decide
  have g1 : ¬ (2 : Int32) < 0 := by decide
  have g2 : (2 : Int32) < 3 := by decide
  have d := den_tcopy 119 1 h (q_to_119 ok) (q_to_1 ok) (by decide)
  have ok2 : am_okH (q_tc2 119 1 h) := ok
  show am_ev 62 0 [some (.ref 0), some (.int 2)] [] h = _
  simp only [e62_0, e62_1, e62_4, e62_5, e62_6, e62_9, e62_10, e62_11, e62_12, e62_15, e62_16f, e62_16d, e62_16b, e62_16l, e62_16t, e62_17, e62_18, e62_21, e62_24, e62_25, e62_28, e62_29, e62_30, e62_30z, e62_31, e62_32, am_bd_some, Option.toList_some, Option.toList_none, List.cons_append, List.nil_append, am_w8_0, am_w8_1, am_w8_2, am_w8_3, am_w8_4, eq_self, or_true, true_or, am_kd_sI, am_kd_sL, am_kd_sR, am_tc_sI, am_tc_sL, am_tc_sR, am_len_sI, am_len_sL, am_len_sR, am_rfs, if_true, if_false, am_rdL_sI, am_rR_sL, am_rt_cq, am_kd_cq, am_tc_cq, am_len_cq, am_rd_sL, am_rd_sR, am_rdL_sR, g1, g2, okK_0 ok, okR_0_0 ok, okR_0_1 ok, okT_40 ok, okL_40 ok, okR_40_2 ok, okK_119 ok, x, z, d, okK_0 ok2, okR_0_2 ok2, okT_158 ok2, okL_158 ok2]
theorem den_mimage_2 (h : am_H) (ok : am_okH h) (h0 : h.1 211 0 = 0) : am_den 294 [.ref 211, .int 2] h = some (some (.int 1), am_sI (q_ca 0 3 h) 236 2 1) := by
  have x : am_ix 2 3 = true := by decide
  have z : (2 : Int32).toNatClampNeg = 2 := by decide
  have g1 : (0 : Int32) ≤ 2 ∧ (2 : Int32) ≤ 2 := by decide
  have p : (2 : Int32) + 1 = 3 := by decide
  have y1 : (1 : Int32) = 0 ↔ False := by decide
  have d : am_den 295 [.ref 211, .int 0, .int 3] h = some (none, q_ca 0 3 h) := den_all 0 3 h ok (by decide) (by decide) (by decide)
  have ok2 : am_okH (q_ca 0 3 h) := ok
  show am_ev 294 0 [some (.ref 211), some (.int 2)] [] h = _
  simp only [e294_0, e294_1, e294_2, e294_5, e294_6, e294_7, e294_8, e294_11, e294_14, e294_15, e294_16, e294_17, e294_18, e294_19, e294_20, e294_21, e294_24, e294_25, e294_28, e294_29, e294_30, e294_30z, e294_31, e294_32, am_bd_some, Option.toList_some, Option.toList_none, List.cons_append, List.nil_append, am_w8_0, am_w8_1, am_w8_2, am_w8_3, am_w8_4, eq_self, or_true, true_or, am_kd_sI, am_kd_sL, am_kd_sR, am_tc_sI, am_tc_sL, am_tc_sR, am_len_sI, am_len_sL, am_len_sR, am_rfs, if_true, if_false, am_rdL_sI, am_rR_sL, am_rt_cq, am_kd_cq, am_tc_cq, am_len_cq, am_rd_sL, am_rd_sR, am_rdL_sR, okK_211 ok, am_sI_id h0, den_in, g1, and_self, y1, not_false_eq_true, p, d, x, z, okK_211 ok2, okR_211_59 ok2, okT_236 ok2, okL_236 ok2]
theorem den_cagain_2 (h : am_H) (ok : am_okH h) : am_den 64 [.ref 0, .int 2] h = if h.1 158 2 = 0 then some (some (.int 0), h) else some (some (.int 1), q_tc2 1 119 h) := by
  have x : am_ix 2 3 = true := by decide
  have z : (2 : Int32).toNatClampNeg = 2 := by decide
  have g1 : ¬ (2 : Int32) < 0 := by decide
  have g2 : ¬ (3 : Int32) ≤ 2 := by decide
  have d := den_tcopy 1 119 h (q_to_1 ok) (q_to_119 ok) (by decide)
  show am_ev 64 0 [some (.ref 0), some (.int 2)] [] h = _
  simp only [e64_0, e64_1, e64_4, e64_5, e64_6, e64_9, e64_10, e64_13, e64_14, e64_14z, e64_15, e64_18, e64_19, e64_20, e64_21, e64_24, e64_25, e64_28, e64_29f, e64_29d, e64_29b, e64_29l, e64_29t, e64_30, e64_33, e64_34, am_bd_some, Option.toList_some, Option.toList_none, List.cons_append, List.nil_append, am_w8_0, am_w8_1, am_w8_2, am_w8_3, am_w8_4, eq_self, or_true, true_or, am_kd_sI, am_kd_sL, am_kd_sR, am_tc_sI, am_tc_sL, am_tc_sR, am_len_sI, am_len_sL, am_len_sR, am_rfs, if_true, if_false, am_rdL_sI, am_rR_sL, am_rt_cq, am_kd_cq, am_tc_cq, am_len_cq, am_rd_sL, am_rd_sR, am_rdL_sR, g1, g2, okK_0 ok, okR_0_0 ok, okR_0_1 ok, okR_0_2 ok, okT_158 ok, okL_158 ok, okT_40 ok, okL_40 ok, okR_40_2 ok, okK_1 ok, okK_119 ok, x, z, d]
  by_cases c : h.1 158 2 = 0
  · simp [c]
  · simp [c]
theorem den_magain_2 (h : am_H) (ok : am_okH h) (h0 : h.1 211 0 = 0) : am_den 297 [.ref 211, .int 2] h = if h.1 236 2 = 0 then some (some (.int 0), h) else some (some (.int 1), q_ca 3 0 h) := by
  have x : am_ix 2 3 = true := by decide
  have z : (2 : Int32).toNatClampNeg = 2 := by decide
  have g1 : (0 : Int32) ≤ 2 ∧ (2 : Int32) ≤ 2 := by decide
  have p : (2 : Int32) + 1 = 3 := by decide
  have y1 : (1 : Int32) = 0 ↔ False := by decide
  have d : am_den 295 [.ref 211, .int 3, .int 0] h = some (none, q_ca 3 0 h) := den_all 3 0 h ok (by decide) (by decide) (by decide)
  show am_ev 297 0 [some (.ref 211), some (.int 2)] [] h = _
  simp only [e297_0, e297_1, e297_2, e297_5, e297_6, e297_7, e297_8, e297_11, e297_14, e297_15, e297_18, e297_19, e297_19z, e297_20, e297_23, e297_24, e297_25, e297_26, e297_27, e297_28, e297_29, e297_30, e297_33, e297_34, am_bd_some, Option.toList_some, Option.toList_none, List.cons_append, List.nil_append, am_w8_0, am_w8_1, am_w8_2, am_w8_3, am_w8_4, eq_self, or_true, true_or, am_kd_sI, am_kd_sL, am_kd_sR, am_tc_sI, am_tc_sL, am_tc_sR, am_len_sI, am_len_sL, am_len_sR, am_rfs, if_true, if_false, am_rdL_sI, am_rR_sL, am_rt_cq, am_kd_cq, am_tc_cq, am_len_cq, am_rd_sL, am_rd_sR, am_rdL_sR, okK_211 ok, am_sI_id h0, den_in, g1, and_self, y1, p, d, x, z, okR_211_59 ok, okT_236 ok, okL_236 ok]
  by_cases c : h.1 236 2 = 0
  · simp [c]
  · simp [c]
theorem den_cimage_n (a : Int32) (h : am_H) (ha : ¬ (0 ≤ a ∧ a ≤ 2)) : am_den 62 [.ref 0, .int a] h = some (some (.int 0), h) ∧ am_den 64 [.ref 0, .int a] h = some (some (.int 0), h) := by
  have q : a < 0 ∨ (¬ a < 0 ∧ 3 ≤ a) := by
    by_cases c : a < 0
    · exact Or.inl c
    · refine Or.inr ⟨c, ?_⟩
      have : ¬ a ≤ 2 := fun q => ha ⟨Int32.not_lt.mp c, q⟩
      have h1 := Int32.lt_iff_toInt_lt.mp (Int32.not_le.mp this)
      refine Int32.le_iff_toInt_le.mpr ?_
      have e2 : (2 : Int32).toInt = 2 := by decide
      have e3 : (3 : Int32).toInt = 3 := by decide
      omega
  constructor
  · show am_ev 62 0 [some (.ref 0), some (.int a)] [] h = _
    rcases q with q | ⟨q, q2⟩
    · simp only [e62_0, e62_1, e62_4, e62_5, e62_6, e62_9, e62_10, e62_11, e62_12, e62_15, e62_16f, e62_16d, e62_16b, e62_16l, e62_16t, e62_17, e62_18, e62_21, e62_24, e62_25, e62_28, e62_29, e62_30, e62_30z, e62_31, e62_32, am_bd_some, Option.toList_some, Option.toList_none, List.cons_append, List.nil_append, am_w8_0, am_w8_1, am_w8_2, am_w8_3, am_w8_4, eq_self, or_true, true_or, am_kd_sI, am_kd_sL, am_kd_sR, am_tc_sI, am_tc_sL, am_tc_sR, am_len_sI, am_len_sL, am_len_sR, am_rfs, if_true, if_false, am_rdL_sI, am_rR_sL, am_rt_cq, am_kd_cq, am_tc_cq, am_len_cq, am_rd_sL, am_rd_sR, am_rdL_sR, q]
    · have q3 : ¬ a < 3 := Int32.not_lt.mpr q2
      simp only [e62_0, e62_1, e62_4, e62_5, e62_6, e62_9, e62_10, e62_11, e62_12, e62_15, e62_16f, e62_16d, e62_16b, e62_16l, e62_16t, e62_17, e62_18, e62_21, e62_24, e62_25, e62_28, e62_29, e62_30, e62_30z, e62_31, e62_32, am_bd_some, Option.toList_some, Option.toList_none, List.cons_append, List.nil_append, am_w8_0, am_w8_1, am_w8_2, am_w8_3, am_w8_4, eq_self, or_true, true_or, am_kd_sI, am_kd_sL, am_kd_sR, am_tc_sI, am_tc_sL, am_tc_sR, am_len_sI, am_len_sL, am_len_sR, am_rfs, if_true, if_false, am_rdL_sI, am_rR_sL, am_rt_cq, am_kd_cq, am_tc_cq, am_len_cq, am_rd_sL, am_rd_sR, am_rdL_sR, q, q3]
  · show am_ev 64 0 [some (.ref 0), some (.int a)] [] h = _
    rcases q with q | ⟨q, q2⟩
    · simp only [e64_0, e64_1, e64_4, e64_5, e64_6, e64_9, e64_10, e64_13, e64_14, e64_14z, e64_15, e64_18, e64_19, e64_20, e64_21, e64_24, e64_25, e64_28, e64_29f, e64_29d, e64_29b, e64_29l, e64_29t, e64_30, e64_33, e64_34, am_bd_some, Option.toList_some, Option.toList_none, List.cons_append, List.nil_append, am_w8_0, am_w8_1, am_w8_2, am_w8_3, am_w8_4, eq_self, or_true, true_or, am_kd_sI, am_kd_sL, am_kd_sR, am_tc_sI, am_tc_sL, am_tc_sR, am_len_sI, am_len_sL, am_len_sR, am_rfs, if_true, if_false, am_rdL_sI, am_rR_sL, am_rt_cq, am_kd_cq, am_tc_cq, am_len_cq, am_rd_sL, am_rd_sR, am_rdL_sR, q]
    · simp only [e64_0, e64_1, e64_4, e64_5, e64_6, e64_9, e64_10, e64_13, e64_14, e64_14z, e64_15, e64_18, e64_19, e64_20, e64_21, e64_24, e64_25, e64_28, e64_29f, e64_29d, e64_29b, e64_29l, e64_29t, e64_30, e64_33, e64_34, am_bd_some, Option.toList_some, Option.toList_none, List.cons_append, List.nil_append, am_w8_0, am_w8_1, am_w8_2, am_w8_3, am_w8_4, eq_self, or_true, true_or, am_kd_sI, am_kd_sL, am_kd_sR, am_tc_sI, am_tc_sL, am_tc_sR, am_len_sI, am_len_sL, am_len_sR, am_rfs, if_true, if_false, am_rdL_sI, am_rR_sL, am_rt_cq, am_kd_cq, am_tc_cq, am_len_cq, am_rd_sL, am_rd_sR, am_rdL_sR, q, q2]
theorem den_mimage_n (a : Int32) (h : am_H) (ok : am_okH h) (h0 : h.1 211 0 = 0) (ha : ¬ (0 ≤ a ∧ a ≤ 2)) : am_den 294 [.ref 211, .int a] h = some (some (.int 0), h) ∧ am_den 297 [.ref 211, .int a] h = some (some (.int 0), h) := by
  have y1 : (0 : Int32) = 0 ↔ True := by decide
  constructor
  · show am_ev 294 0 [some (.ref 211), some (.int a)] [] h = _
    simp only [e294_0, e294_1, e294_2, e294_5, e294_6, e294_7, e294_8, e294_11, e294_14, e294_15, e294_16, e294_17, e294_18, e294_19, e294_20, e294_21, e294_24, e294_25, e294_28, e294_29, e294_30, e294_30z, e294_31, e294_32, am_bd_some, Option.toList_some, Option.toList_none, List.cons_append, List.nil_append, am_w8_0, am_w8_1, am_w8_2, am_w8_3, am_w8_4, eq_self, or_true, true_or, am_kd_sI, am_kd_sL, am_kd_sR, am_tc_sI, am_tc_sL, am_tc_sR, am_len_sI, am_len_sL, am_len_sR, am_rfs, if_true, if_false, am_rdL_sI, am_rR_sL, am_rt_cq, am_kd_cq, am_tc_cq, am_len_cq, am_rd_sL, am_rd_sR, am_rdL_sR, okK_211 ok, am_sI_id h0, den_in, ha, y1, not_true]
  · show am_ev 297 0 [some (.ref 211), some (.int a)] [] h = _
    simp only [e297_0, e297_1, e297_2, e297_5, e297_6, e297_7, e297_8, e297_11, e297_14, e297_15, e297_18, e297_19, e297_19z, e297_20, e297_23, e297_24, e297_25, e297_26, e297_27, e297_28, e297_29, e297_30, e297_33, e297_34, am_bd_some, Option.toList_some, Option.toList_none, List.cons_append, List.nil_append, am_w8_0, am_w8_1, am_w8_2, am_w8_3, am_w8_4, eq_self, or_true, true_or, am_kd_sI, am_kd_sL, am_kd_sR, am_tc_sI, am_tc_sL, am_tc_sR, am_len_sI, am_len_sL, am_len_sR, am_rfs, if_true, if_false, am_rdL_sI, am_rR_sL, am_rt_cq, am_kd_cq, am_tc_cq, am_len_cq, am_rd_sL, am_rd_sR, am_rdL_sR, okK_211 ok, am_sI_id h0, den_in, ha, y1, not_true]
theorem q_img {A : q_All} {h : am_H} (k T : Nat) (hk : k < 3) (hT : q_at (k + 1) = T) (hT2 : T = 41 ∨ T = 80 ∨ T = 119) (H : q_Rel A h) : q_Rel A (am_sI (q_ca 0 (k + 1) (am_sI (q_tc2 T 1 h) 158 k 1)) 236 k 1) := by
  obtain ⟨ok, h0, H0, HS⟩ := H
  have r1 : ∀ a j, a < 212 → (am_sI (q_ca 0 (k + 1) (am_sI (q_tc2 T 1 h) 158 k 1)) 236 k 1).1 a j = if a = 158 ∧ j = k then 1 else (q_tc2 T 1 h).1 a j := fun a j ha => by
    rw [am_rd_sI, if_neg (by omega), q_ca_o _ _ _ _ _ (fun b hb e => by omega), am_rd_sI]
  have r2 : ∀ a j, a < 9 → (am_sI (q_ca 0 (k + 1) (am_sI (q_tc2 T 1 h) 158 k 1)) 236 k 1).1 (212 + a) j = (q_ca 0 (k + 1) (am_sI (q_tc2 T 1 h) 158 k 1)).1 (212 + a) j := fun a j ha => by
    rw [am_rd_sI, if_neg (by omega)]
  have r3 : ∀ a j, a < 9 → (am_sI (q_tc2 T 1 h) 158 k 1).1 (212 + a) j = h.1 (212 + a) j := fun a j ha => by
    rw [am_rd_sI, if_neg (by omega), q_tc2_o _ _ _ _ _ (by omega)]
  have rl : ∀ a j, (am_sI (q_ca 0 (k + 1) (am_sI (q_tc2 T 1 h) 158 k 1)) 236 k 1).2.1 a j = (q_tc2 T 1 h).2.1 a j := fun a j => rfl
  have r6 : ∀ j, (am_sI (q_ca 0 (k + 1) (am_sI (q_tc2 T 1 h) 158 k 1)) 236 k 1).1 236 j = if j = k then 1 else h.1 236 j := fun j => by
    rw [am_rd_sI]
    by_cases c : j = k
    · rw [if_pos ⟨rfl, c⟩, if_pos c]
    · rw [if_neg (fun q => c q.2), if_neg c, q_ca_o _ _ _ _ _ (fun b hb e => by omega), am_rd_sI, if_neg (by omega), q_tc2_o _ _ _ _ _ (by omega)]
  generalize hg : am_sI (q_ca 0 (k + 1) (am_sI (q_tc2 T 1 h) 158 k 1)) 236 k 1 = g at *
  have okg : am_okH g := by rw [← hg]; exact ok
  have keep : ∀ (B : q_All) (j : Nat), j < 4 → j ≠ k + 1 → q_RS B j h → q_RS B j g := by
    intro B j hj hjk HB
    have dis : ∀ o, o < 39 → (q_at j + o < T ∨ T + 39 ≤ q_at j + o) ∧ q_at j + o < 158 := by
      have hk3 : k = 0 ∨ k = 1 ∨ k = 2 := by omega
      have hj4 : j = 0 ∨ j = 1 ∨ j = 2 ∨ j = 3 := by omega
      have a0 : q_at 0 = 1 := rfl
      have a1 : q_at 1 = 41 := rfl
      have a2 : q_at 2 = 80 := rfl
      have a3 : q_at 3 = 119 := rfl
      intro o ho
      rcases hk3 with rfl | rfl | rfl <;> rcases hj4 with rfl | rfl | rfl | rfl <;> simp only [a0, a1, a2, a3] at hT ⊢ <;> omega
    refine HB.keep (fun o i ho => ⟨?_, ?_⟩) (fun a i ha hi => ?_)
    · rw [r1 _ _ (by have := (dis o ho).2; omega), if_neg (by have := (dis o ho).2; omega), q_tc2_o _ _ _ _ _ (dis o ho).1]
    · have := dis o ho
      rw [rl, q_tc2_Lo _ _ _ _ _ (by omega) (by omega)]
    · rw [r2 _ _ ha, q_ca_oth 0 (k + 1) j _ a i ha hi hjk, r3 _ _ ha]
  have new : q_RS A (k + 1) g := by
    refine q_RS.copy (f := 0) H0 (fun o i ho h1 h2 => ?_) ?_ ?_ (fun a i h1 h9 hi => ?_) (fun i hi => ?_)
    · rw [hT, r1 _ _ (by omega), if_neg (by omega), q_tc2_i _ _ _ _ _ h1 h2]
      rfl
    · rw [hT, rl, q_tc2_L7]
      rfl
    · rw [hT, rl, q_tc2_L23 _ _ _ (by omega)]
      rfl
    · rw [r2 _ _ h9, q_ca_in 0 (k + 1) _ a i h1 h9 hi, r3 _ _ h9]
    · have e1 := r2 0 (600 * (k + 1) + i) (by decide)
      rw [show 212 + 0 = 212 from rfl] at e1
      rw [e1, q_ca_0 0 (k + 1) _ i hi]
      have e2 := r3 0 (600 * 0 + i) (by decide)
      rw [show 212 + 0 = 212 from rfl] at e2
      rw [e2]
  refine ⟨okg, ?_, keep A 0 (by decide) (by omega) H0, fun j hj => ?_⟩
  · rw [r1 211 0 (by decide), if_neg (by omega), q_tc2_o _ _ _ _ _ (by omega)]
    exact h0
  · rw [r1 158 j (by decide), r6]
    by_cases c : j = k
    · subst c
      rw [if_pos ⟨rfl, rfl⟩, if_pos rfl]
      exact ⟨rfl, Or.inr ⟨rfl, A, new⟩⟩
    · rw [if_neg (fun q => c q.2), if_neg c, q_tc2_o _ _ _ _ _ (by omega)]
      obtain ⟨g1, g2⟩ := HS j hj
      exact ⟨g1, g2.imp_right (fun q => ⟨q.1, q.2.imp (fun B hB => keep B (j + 1) (by omega) (by omega) hB)⟩)⟩
theorem q_agn {A B : q_All} {h : am_H} (k T : Nat) (hk : k < 3) (hT : q_at (k + 1) = T) (hT2 : T = 41 ∨ T = 80 ∨ T = 119) (H : q_Rel A h) (HB : q_RS B (k + 1) h) : q_Rel B (q_ca (k + 1) 0 (q_tc2 1 T h)) := by
  have r1 : ∀ a j, a < 212 → (q_ca (k + 1) 0 (q_tc2 1 T h)).1 a j = (q_tc2 1 T h).1 a j := fun a j ha => q_ca_o _ _ _ _ _ (fun b hb e => by omega)
  have r3 : ∀ a j, a < 9 → (q_tc2 1 T h).1 (212 + a) j = h.1 (212 + a) j := fun a j ha => q_tc2_o _ _ _ _ _ (by omega)
  have rl : ∀ a j, (q_ca (k + 1) 0 (q_tc2 1 T h)).2.1 a j = (q_tc2 1 T h).2.1 a j := fun a j => rfl
  have okg : am_okH (q_ca (k + 1) 0 (q_tc2 1 T h)) := H.1
  refine H.now okg ?_ ?_ (fun a j p1 p2 => ⟨?_, ?_⟩) (fun a j p1 p2 => ?_) (fun j => ?_)
  · rw [r1 211 0 (by decide), q_tc2_o _ _ _ _ _ (by omega)]
    exact H.2.1
  · refine q_RS.copy (f := k + 1) HB (fun o i ho h1 h2 => ?_) ?_ ?_ (fun a i h1 h9 hi => ?_) (fun i hi => ?_)
    · show _ = h.1 (q_at (k + 1) + o) i
      rw [show q_at 0 = 1 from rfl, hT, r1 _ _ (by omega), q_tc2_i _ _ _ _ _ h1 h2]
    · rw [show q_at 0 = 1 from rfl, hT, rl, q_tc2_L7]
    · rw [show q_at 0 = 1 from rfl, hT, rl, q_tc2_L23 _ _ _ (by omega)]
    · rw [q_ca_in (k + 1) 0 _ a i h1 h9 hi, r3 _ _ h9]
    · rw [q_ca_0 (k + 1) 0 _ i hi]
      have e2 := r3 0 (600 * (k + 1) + i) (by decide)
      rw [show 212 + 0 = 212 from rfl] at e2
      rw [e2]
  · rw [r1 _ _ (by omega), q_tc2_o _ _ _ _ _ (by omega)]
  · rw [rl, q_tc2_Lo _ _ _ _ _ (by omega) (by omega)]
  · rw [q_ca_o _ _ _ _ _ (fun b hb e => ?_), r3 _ _ p1]
    obtain rfl : a = b := by omega
    rw [Nat.mul_zero]
    omega
  · rw [q_ca_o _ _ _ _ _ (fun b hb e => by omega), q_tc2_o _ _ _ _ _ (by omega)]
theorem ly_37 : ly_p37 := by
  intro a h R
  obtain ⟨A, H⟩ := R
  have ok := H.1
  have h0 := H.2.1
  by_cases c : 0 ≤ a ∧ a ≤ 2
  · obtain ⟨k, hk, rfl⟩ := q_rg 2 (by decide) c
    have hk3 : k = 0 ∨ k = 1 ∨ k = 2 := by omega
    rcases hk3 with rfl | rfl | rfl
    · exact ⟨1, am_sI (q_tc2 41 1 h) 158 0 1, am_sI (q_ca 0 1 (am_sI (q_tc2 41 1 h) 158 0 1)) 236 0 1, ok, rfl, den_cimage_0 h ok, den_mimage_0 (am_sI (q_tc2 41 1 h) 158 0 1) ok (by rw [am_rd_sI, if_neg (by decide), q_tc2_o _ _ _ _ _ (by decide)]; exact h0), ⟨A, q_img 0 41 (by decide) rfl (by decide) H⟩, rfl⟩
    · exact ⟨1, am_sI (q_tc2 80 1 h) 158 1 1, am_sI (q_ca 0 2 (am_sI (q_tc2 80 1 h) 158 1 1)) 236 1 1, ok, rfl, den_cimage_1 h ok, den_mimage_1 (am_sI (q_tc2 80 1 h) 158 1 1) ok (by rw [am_rd_sI, if_neg (by decide), q_tc2_o _ _ _ _ _ (by decide)]; exact h0), ⟨A, q_img 1 80 (by decide) rfl (by decide) H⟩, rfl⟩
    · exact ⟨1, am_sI (q_tc2 119 1 h) 158 2 1, am_sI (q_ca 0 3 (am_sI (q_tc2 119 1 h) 158 2 1)) 236 2 1, ok, rfl, den_cimage_2 h ok, den_mimage_2 (am_sI (q_tc2 119 1 h) 158 2 1) ok (by rw [am_rd_sI, if_neg (by decide), q_tc2_o _ _ _ _ _ (by decide)]; exact h0), ⟨A, q_img 2 119 (by decide) rfl (by decide) H⟩, rfl⟩
  · exact ⟨0, h, h, ok, rfl, (den_cimage_n a h c).1, (den_mimage_n a h ok h0 c).1, ⟨A, H⟩, rfl⟩
theorem ly_38 : ly_p38 := by
  intro a h R
  obtain ⟨A, H⟩ := R
  have ok := H.1
  have h0 := H.2.1
  by_cases c : 0 ≤ a ∧ a ≤ 2
  · obtain ⟨k, hk, rfl⟩ := q_rg 2 (by decide) c
    have hk3 : k = 0 ∨ k = 1 ∨ k = 2 := by omega
    rcases hk3 with rfl | rfl | rfl
    · obtain ⟨g1, g2⟩ := H.2.2.2 0 (by decide)
      have dc := den_cagain_0 h ok
      rcases g2 with g2 | ⟨g2, B, hB⟩
      · have dm := den_magain_0 h ok h0
        rw [if_pos g2] at dc
        rw [if_pos (g1.symm.trans g2)] at dm
        exact ⟨0, h, h, ok, rfl, dc, dm, ⟨A, H⟩, rfl⟩
      · have n1 : ¬ h.1 158 0 = 0 := fun q => by rw [g2] at q; exact absurd q (by decide)
        have e6 : (q_tc2 1 41 h).1 236 0 = h.1 236 0 := q_tc2_o _ _ _ _ _ (by decide)
        have dm := den_magain_0 (q_tc2 1 41 h) ok (by rw [q_tc2_o _ _ _ _ _ (by decide)]; exact h0)
        rw [if_neg n1] at dc
        rw [if_neg (by rw [e6, ← g1]; exact n1)] at dm
        exact ⟨1, q_tc2 1 41 h, q_ca 1 0 (q_tc2 1 41 h), ok, rfl, dc, dm, ⟨B, q_agn 0 41 (by decide) rfl (by decide) H hB⟩, rfl⟩
    · obtain ⟨g1, g2⟩ := H.2.2.2 1 (by decide)
      have dc := den_cagain_1 h ok
      rcases g2 with g2 | ⟨g2, B, hB⟩
      · have dm := den_magain_1 h ok h0
        rw [if_pos g2] at dc
        rw [if_pos (g1.symm.trans g2)] at dm
        exact ⟨0, h, h, ok, rfl, dc, dm, ⟨A, H⟩, rfl⟩
      · have n1 : ¬ h.1 158 1 = 0 := fun q => by rw [g2] at q; exact absurd q (by decide)
        have e6 : (q_tc2 1 80 h).1 236 1 = h.1 236 1 := q_tc2_o _ _ _ _ _ (by decide)
        have dm := den_magain_1 (q_tc2 1 80 h) ok (by rw [q_tc2_o _ _ _ _ _ (by decide)]; exact h0)
        rw [if_neg n1] at dc
        rw [if_neg (by rw [e6, ← g1]; exact n1)] at dm
        exact ⟨1, q_tc2 1 80 h, q_ca 2 0 (q_tc2 1 80 h), ok, rfl, dc, dm, ⟨B, q_agn 1 80 (by decide) rfl (by decide) H hB⟩, rfl⟩
    · obtain ⟨g1, g2⟩ := H.2.2.2 2 (by decide)
      have dc := den_cagain_2 h ok
      rcases g2 with g2 | ⟨g2, B, hB⟩
      · have dm := den_magain_2 h ok h0
        rw [if_pos g2] at dc
        rw [if_pos (g1.symm.trans g2)] at dm
        exact ⟨0, h, h, ok, rfl, dc, dm, ⟨A, H⟩, rfl⟩
      · have n1 : ¬ h.1 158 2 = 0 := fun q => by rw [g2] at q; exact absurd q (by decide)
        have e6 : (q_tc2 1 119 h).1 236 2 = h.1 236 2 := q_tc2_o _ _ _ _ _ (by decide)
        have dm := den_magain_2 (q_tc2 1 119 h) ok (by rw [q_tc2_o _ _ _ _ _ (by decide)]; exact h0)
        rw [if_neg n1] at dc
        rw [if_neg (by rw [e6, ← g1]; exact n1)] at dm
        exact ⟨1, q_tc2 1 119 h, q_ca 3 0 (q_tc2 1 119 h), ok, rfl, dc, dm, ⟨B, q_agn 2 119 (by decide) rfl (by decide) H hB⟩, rfl⟩
  · exact ⟨0, h, h, ok, rfl, (den_cimage_n a h c).2, (den_mimage_n a h ok h0 c).2, ⟨A, H⟩, rfl⟩
