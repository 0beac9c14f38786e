/-! part 36: run -/
def q_sm (g : Nat → Nat) (a : Nat) : Nat → Nat
  | 0 => 0
  | n + 1 => q_sm g a n + g (a + n)
theorem q_sm_le (g : Nat → Nat) (a m : Nat) (hg : ∀ j, j < m → g j ≤ 99) : ∀ n, a + n ≤ m → q_sm g a n ≤ 99 * n := by
  intro n
  induction n with
  | zero => intro _; exact Nat.zero_le _
  | succ n ih =>
    intro h
    have h1 := ih (by omega)
    have h2 := hg (a + n) (by omega)
    show q_sm g a n + g (a + n) ≤ _
    omega
theorem q_mx0 {a : Nat} (h : a < 2 ^ 31) : (if (0 : Int32) < nI a then nI a else 0) = nI a := by
  by_cases c : a = 0
  · subst c
    rw [nI_0]
    rfl
  · have q : (0 : Int32) < nI a := (nI_ltI (a := 0) (b := a) (by decide) h).mpr (by omega)
    rw [if_pos q]
theorem q_tg_l (h : am_H) (o : Nat) (b : q_Bk) (f : q_bo h o) (bk : B_ok b) (e : B_cls h.1 o b) (a c : Nat) (hc : c ≤ B_f b) : ∀ r i : Nat, a + i + r = c → am_ev 141 9 [some (.ref o), some (.int (nI a)), some (.int (nI c)), some (.int (nI (q_sm (B_field b) a i))), some (.int (nI (a + i)))] [] h = some (some (.int (nI (q_sm (B_field b) a (c - a)))), h) := by
  obtain ⟨f0, r0, r1, r2, r3, r4, k0, k1, k2, k3, k4⟩ := f
  have n3 : B_f b ≤ 10 := bk.2.2.1
  obtain ⟨e0, e1, e2, e3, e4, e5⟩ := e
  intro r
  induction r with
  | zero =>
    intro i hi
    have h1 : nI c ≤ nI (a + i) := nI_le (by omega) (by omega)
    rw [e141_9]
    simp only [e141_0, e141_1, e141_2, e141_3, e141_4, e141_7, e141_11, e141_12, e141_15, e141_17, e141_18, e141_21, e141_24, e141_25, e141_26, e141_29, e141_31, e141_32, e141_33, e141_34, e141_37, e141_40, e141_41, h1, if_true]
    rw [show c - a = i by omega]
  | succ r ih =>
    intro i hi
    have h1 : ¬ nI c ≤ nI (a + i) := nI_ge (by omega) (by omega)
    have h2 : ¬ nI (B_f b) ≤ nI (a + i) := nI_ge (by omega) (by omega)
    have x1 : am_ix (nI (a + i)) 10 = true := am_ix_nI (by omega) (by decide)
    have z1 : (nI (a + i)).toNatClampNeg = a + i := nI_clamp (by omega)
    have v1 := e5 (a + i) (by omega)
    have s1 : nI (q_sm (B_field b) a i) + nI (B_field b (a + i)) = nI (q_sm (B_field b) a (i + 1)) := nI_add _ _
    rw [e141_9]
    simp only [e141_0, e141_1, e141_2, e141_3, e141_4, e141_7, e141_11, e141_12, e141_15, e141_17, e141_18, e141_21, e141_24, e141_25, e141_26, e141_29, e141_31, e141_32, e141_33, e141_34, e141_37, e141_40, e141_41, am_bd_some, Option.toList_some, Option.toList_none, List.cons_append, List.nil_append, am_w8_0, am_w8_1, am_w8_2, am_w8_3, am_w8_4, eq_self, or_true, true_or, am_kd_sI, am_kd_sL, am_kd_sR, am_tc_sI, am_tc_sL, am_tc_sR, am_len_sI, am_len_sL, am_len_sR, am_rfs, if_true, if_false, am_rdL_sI, am_rR_sL, am_rt_cq, am_kd_cq, am_tc_cq, am_len_cq, am_rd_sL, am_rd_sR, am_rdL_sR, f0, r4, q_tc k4, q_ln k4, e2, h1, h2, x1, z1, v1, s1, nI_1]
    exact ih (i + 1) (by omega)
theorem den_together (h : am_H) (o : Nat) (b : q_Bk) (f : q_bo h o) (bk : B_ok b) (e : B_cls h.1 o b) (a c : Nat) (hac : a ≤ c) (hc : c ≤ B_f b) : am_den 141 [.ref o, .int (nI a), .int (nI c)] h = some (some (.int (nI (q_sm (B_field b) a (c - a)))), h) := by
  have n3 : B_f b ≤ 10 := bk.2.2.1
  have e9 := q_tg_l h o b f bk e a c hc (c - a) 0 (by omega)
  rw [Nat.add_zero] at e9
  show am_ev 141 0 [some (.ref o), some (.int (nI a)), some (.int (nI c)), none, none] [] h = _
  simp only [e141_0, e141_1, e141_2, e141_3, e141_4, e141_7, e141_11, e141_12, e141_15, e141_17, e141_18, e141_21, e141_24, e141_25, e141_26, e141_29, e141_31, e141_32, e141_33, e141_34, e141_37, e141_40, e141_41, am_bd_some, Option.toList_some, Option.toList_none, List.cons_append, List.nil_append, am_w8_0, am_w8_1, am_w8_2, am_w8_3, am_w8_4, eq_self, or_true, true_or, am_kd_sI, am_kd_sL, am_kd_sR, am_tc_sI, am_tc_sL, am_tc_sR, am_len_sI, am_len_sL, am_len_sR, am_rfs, if_true, if_false, am_rdL_sI, am_rR_sL, am_rt_cq, am_kd_cq, am_tc_cq, am_len_cq, am_rd_sL, am_rd_sR, am_rdL_sR, q_mx0 (show a < 2 ^ 31 by omega)]
  exact e9
theorem q_so_l (h : am_H) (ok : am_okH h) (i0 : Nat) (hi0 : i0 < 2) (b : q_Bk) (bk : B_ok b) (e : h.1 211 45 = nI i0) (mb : B_mod (fun a k => h.1 (212 + a) k) (39 * i0) b) (a c : Nat) (hc : c ≤ B_f b) : ∀ r i : Nat, a + i + r = c → am_ev 254 5 [some (.ref 211), some (.int (nI a)), some (.int (nI c)), some (.int (nI (q_sm (B_field b) a i))), some (.int (nI (a + i)))] [] h = some (some (.int (nI (q_sm (B_field b) a (c - a)))), h) := by
  have n3 : B_f b ≤ 10 := bk.2.2.1
  obtain ⟨e0, e1, e2, e3, e4, e5⟩ := mb
  intro r
  induction r with
  | zero =>
    intro i hi
    have h1 : nI c ≤ nI (a + i) := nI_le (by omega) (by omega)
    rw [e254_5]
    simp only [e254_0, e254_1, e254_2, e254_3, e254_7, e254_8, e254_11, e254_12, e254_13, e254_15, e254_17, e254_18, e254_21, e254_22, e254_23, e254_26, e254_29, e254_30, h1, if_true]
    rw [show c - a = i by omega]
  | succ r ih =>
    intro i hi
    have h1 : ¬ nI c ≤ nI (a + i) := nI_ge (by omega) (by omega)
    have o1 : (29 : Int32) + nI (a + i) = nI (29 + (a + i)) := nI_add 29 _
    have f3 := den_ofBook h ok i0 (29 + (a + i)) hi0 (by omega) e
    have g3 : h.1 219 (39 * i0 + (29 + (a + i))) = nI (B_field b (a + i)) := by
      rw [← Nat.add_assoc]
      exact e5 (a + i) (by omega)
    rw [g3] at f3
    have s1 : nI (q_sm (B_field b) a i) + nI (B_field b (a + i)) = nI (q_sm (B_field b) a (i + 1)) := nI_add _ _
    rw [e254_5]
    simp only [e254_0, e254_1, e254_2, e254_3, e254_7, e254_8, e254_11, e254_12, e254_13, e254_15, e254_17, e254_18, e254_21, e254_22, e254_23, e254_26, e254_29, e254_30, am_bd_some, Option.toList_some, Option.toList_none, List.cons_append, List.nil_append, am_w8_0, am_w8_1, am_w8_2, am_w8_3, am_w8_4, eq_self, or_true, true_or, am_kd_sI, am_kd_sL, am_kd_sR, am_tc_sI, am_tc_sL, am_tc_sR, am_len_sI, am_len_sL, am_len_sR, am_rfs, if_true, if_false, am_rdL_sI, am_rR_sL, am_rt_cq, am_kd_cq, am_tc_cq, am_len_cq, am_rd_sL, am_rd_sR, am_rdL_sR, okK_211 ok, h1, o1, f3, s1, nI_1]
    exact ih (i + 1) (by omega)
theorem den_sumOf (h : am_H) (ok : am_okH h) (i0 : Nat) (hi0 : i0 < 2) (b : q_Bk) (bk : B_ok b) (e : h.1 211 45 = nI i0) (mb : B_mod (fun a k => h.1 (212 + a) k) (39 * i0) b) (a c : Nat) (hac : a ≤ c) (hc : c ≤ B_f b) : am_den 254 [.ref 211, .int (nI a), .int (nI c)] h = some (some (.int (nI (q_sm (B_field b) a (c - a)))), h) := by
  have n3 : B_f b ≤ 10 := bk.2.2.1
  have e9 := q_so_l h ok i0 hi0 b bk e mb a c hc (c - a) 0 (by omega)
  rw [Nat.add_zero] at e9
  show am_ev 254 0 [some (.ref 211), some (.int (nI a)), some (.int (nI c)), none, none] [] h = _
  simp only [e254_0, e254_1, e254_2, e254_3, e254_7, e254_8, e254_11, e254_12, e254_13, e254_15, e254_17, e254_18, e254_21, e254_22, e254_23, e254_26, e254_29, e254_30, am_bd_some, Option.toList_some, Option.toList_none, List.cons_append, List.nil_append, am_w8_0, am_w8_1, am_w8_2, am_w8_3, am_w8_4, eq_self, or_true, true_or, am_kd_sI, am_kd_sL, am_kd_sR, am_tc_sI, am_tc_sL, am_tc_sR, am_len_sI, am_len_sL, am_len_sR, am_rfs, if_true, if_false, am_rdL_sI, am_rR_sL, am_rt_cq, am_kd_cq, am_tc_cq, am_len_cq, am_rd_sL, am_rd_sR, am_rdL_sR]
  exact e9
/-- the first run of m fields that is worth most: from f on, with the best so far -/
def q_rn (g : Nat → Nat) (m : Nat) : Nat → Nat → Nat → Nat
  | 0, _, best => best
  | n + 1, f, best => q_rn g m n (f + 1) (if q_sm g best m < q_sm g f m then f else best)
theorem q_rn_c (h : am_H) (ok : am_okH h) (o : Nat) (b : q_Bk) (f : q_bo h o) (bk : B_ok b) (e : B_cls h.1 o b) (m : Nat) (hm : 1 ≤ m) (d wr : Int32) : ∀ (r i best : Nat) (z8 : Option Value), i + r + m = B_f b + 1 → best ≤ i → best + m ≤ B_f b → am_ev 143 55 [some (.ref 0), some (.int d), some (.int (nI m)), some (.int wr), some (.ref o), some (.int (nI best)), some (.int (nI (q_sm (B_field b) best m))), some (.int (nI i)), z8] [] h = some (some (.int (if wr = 0 then nI (q_rn (B_field b) m r i best) else nI (q_sm (B_field b) (q_rn (B_field b) m r i best) m))), h) := by
  have n3 : B_f b ≤ 10 := bk.2.2.1
  have e2 : h.1 o 2 = nI (B_f b) := e.2.2.1
  have hg : ∀ j, j < B_f b → B_field b j ≤ 99 := bk.2.2.2.2.2
  intro r
  induction r with
  | zero =>
    intro i best z8 hi hb hb2
    have h1 : nI (B_f b) < nI (i + m) := nI_lt (by omega) (by omega)
    rw [e143_55]
    by_cases c : wr = 0
    · simp only [e143_0, e143_1, e143_4, e143_5, e143_6, e143_9, e143_12, e143_13, e143_14, e143_17, e143_18, e143_19, e143_22, e143_25, e143_26f, e143_26d, e143_26b, e143_26l, e143_26t, e143_27, e143_30, e143_33, e143_34, e143_35, e143_36, e143_39, e143_42, e143_43f, e143_43d, e143_43b, e143_43l, e143_43t, e143_44, e143_46, e143_47, e143_49, e143_50, e143_52, e143_53, e143_57, e143_58, e143_59, e143_61, e143_64, e143_67, e143_69, e143_71, e143_73, e143_74, e143_75, e143_78, e143_80, e143_82, e143_84, e143_87, e143_89, e143_91, e143_93, e143_95, e143_98, e143_101, e143_102, e143_105, e143_107, e143_110, e143_112, am_bd_some, Option.toList_some, Option.toList_none, List.cons_append, List.nil_append, am_w8_0, am_w8_1, am_w8_2, am_w8_3, am_w8_4, eq_self, or_true, true_or, am_kd_sI, am_kd_sL, am_kd_sR, am_tc_sI, am_tc_sL, am_tc_sR, am_len_sI, am_len_sL, am_len_sR, am_rfs, if_true, if_false, am_rdL_sI, am_rR_sL, am_rt_cq, am_kd_cq, am_tc_cq, am_len_cq, am_rd_sL, am_rd_sR, am_rdL_sR, f.1, e2, nI_add, h1, c, q_rn]
    · simp only [e143_0, e143_1, e143_4, e143_5, e143_6, e143_9, e143_12, e143_13, e143_14, e143_17, e143_18, e143_19, e143_22, e143_25, e143_26f, e143_26d, e143_26b, e143_26l, e143_26t, e143_27, e143_30, e143_33, e143_34, e143_35, e143_36, e143_39, e143_42, e143_43f, e143_43d, e143_43b, e143_43l, e143_43t, e143_44, e143_46, e143_47, e143_49, e143_50, e143_52, e143_53, e143_57, e143_58, e143_59, e143_61, e143_64, e143_67, e143_69, e143_71, e143_73, e143_74, e143_75, e143_78, e143_80, e143_82, e143_84, e143_87, e143_89, e143_91, e143_93, e143_95, e143_98, e143_101, e143_102, e143_105, e143_107, e143_110, e143_112, am_bd_some, Option.toList_some, Option.toList_none, List.cons_append, List.nil_append, am_w8_0, am_w8_1, am_w8_2, am_w8_3, am_w8_4, eq_self, or_true, true_or, am_kd_sI, am_kd_sL, am_kd_sR, am_tc_sI, am_tc_sL, am_tc_sR, am_len_sI, am_len_sL, am_len_sR, am_rfs, if_true, if_false, am_rdL_sI, am_rR_sL, am_rt_cq, am_kd_cq, am_tc_cq, am_len_cq, am_rd_sL, am_rd_sR, am_rdL_sR, f.1, e2, nI_add, h1, c, q_rn]
  | succ r ih =>
    intro i best z8 hi hb hb2
    have h1 : ¬ nI (B_f b) < nI (i + m) := nI_nlt (by omega) (by omega)
    have dt := den_together h o b f bk e i (i + m) (by omega) (by omega)
    rw [Nat.add_sub_cancel_left] at dt
    have l1 := q_sm_le (B_field b) i (B_f b) hg m (by omega)
    have l2 := q_sm_le (B_field b) best (B_f b) hg m hb2
    have cm : nI (q_sm (B_field b) i m) ≤ nI (q_sm (B_field b) best m) ↔ q_sm (B_field b) i m ≤ q_sm (B_field b) best m := nI_leI (by omega) (by omega)
    rw [e143_55]
    by_cases c : q_sm (B_field b) best m < q_sm (B_field b) i m
    · have c2 : ¬ nI (q_sm (B_field b) i m) ≤ nI (q_sm (B_field b) best m) := fun q => by have := cm.mp q; omega
      simp only [e143_0, e143_1, e143_4, e143_5, e143_6, e143_9, e143_12, e143_13, e143_14, e143_17, e143_18, e143_19, e143_22, e143_25, e143_26f, e143_26d, e143_26b, e143_26l, e143_26t, e143_27, e143_30, e143_33, e143_34, e143_35, e143_36, e143_39, e143_42, e143_43f, e143_43d, e143_43b, e143_43l, e143_43t, e143_44, e143_46, e143_47, e143_49, e143_50, e143_52, e143_53, e143_57, e143_58, e143_59, e143_61, e143_64, e143_67, e143_69, e143_71, e143_73, e143_74, e143_75, e143_78, e143_80, e143_82, e143_84, e143_87, e143_89, e143_91, e143_93, e143_95, e143_98, e143_101, e143_102, e143_105, e143_107, e143_110, e143_112, am_bd_some, Option.toList_some, Option.toList_none, List.cons_append, List.nil_append, am_w8_0, am_w8_1, am_w8_2, am_w8_3, am_w8_4, eq_self, or_true, true_or, am_kd_sI, am_kd_sL, am_kd_sR, am_tc_sI, am_tc_sL, am_tc_sR, am_len_sI, am_len_sL, am_len_sR, am_rfs, if_true, if_false, am_rdL_sI, am_rR_sL, am_rt_cq, am_kd_cq, am_tc_cq, am_len_cq, am_rd_sL, am_rd_sR, am_rdL_sR, f.1, e2, nI_add, h1, dt, c2, nI_1, q_rn, if_pos c]
      exact ih (i + 1) i _ (by omega) (by omega) (by omega)
    · have c2 : nI (q_sm (B_field b) i m) ≤ nI (q_sm (B_field b) best m) := cm.mpr (by omega)
      simp only [e143_0, e143_1, e143_4, e143_5, e143_6, e143_9, e143_12, e143_13, e143_14, e143_17, e143_18, e143_19, e143_22, e143_25, e143_26f, e143_26d, e143_26b, e143_26l, e143_26t, e143_27, e143_30, e143_33, e143_34, e143_35, e143_36, e143_39, e143_42, e143_43f, e143_43d, e143_43b, e143_43l, e143_43t, e143_44, e143_46, e143_47, e143_49, e143_50, e143_52, e143_53, e143_57, e143_58, e143_59, e143_61, e143_64, e143_67, e143_69, e143_71, e143_73, e143_74, e143_75, e143_78, e143_80, e143_82, e143_84, e143_87, e143_89, e143_91, e143_93, e143_95, e143_98, e143_101, e143_102, e143_105, e143_107, e143_110, e143_112, am_bd_some, Option.toList_some, Option.toList_none, List.cons_append, List.nil_append, am_w8_0, am_w8_1, am_w8_2, am_w8_3, am_w8_4, eq_self, or_true, true_or, am_kd_sI, am_kd_sL, am_kd_sR, am_tc_sI, am_tc_sL, am_tc_sR, am_len_sI, am_len_sL, am_len_sR, am_rfs, if_true, if_false, am_rdL_sI, am_rR_sL, am_rt_cq, am_kd_cq, am_tc_cq, am_len_cq, am_rd_sL, am_rd_sR, am_rdL_sR, f.1, e2, nI_add, h1, dt, c2, nI_1, q_rn, if_neg c]
      exact ih (i + 1) best _ (by omega) (by omega) hb2
theorem q_rn_m (h : am_H) (ok : am_okH h) (i0 : Nat) (hi0 : i0 < 2) (b : q_Bk) (bk : B_ok b) (e : h.1 211 45 = nI i0) (mb : B_mod (fun a k => h.1 (212 + a) k) (39 * i0) b) (m : Nat) (hm : 1 ≤ m) (d wr : Int32) : ∀ (r i best : Nat), i + r + m = B_f b + 1 → best ≤ i → best + m ≤ B_f b → am_ev 290 40 [some (.ref 211), some (.int d), some (.int (nI m)), some (.int wr), some (.int (nI best)), some (.int (nI i))] [] h = some (some (.int (if wr = 0 then nI (q_rn (B_field b) m r i best) else nI (q_sm (B_field b) (q_rn (B_field b) m r i best) m))), h) := by
  have n3 : B_f b ≤ 10 := bk.2.2.1
  have hg : ∀ j, j < B_f b → B_field b j ≤ 99 := bk.2.2.2.2.2
  have f2 := den_ofBook h ok i0 2 hi0 (by decide) e
  have g2 : h.1 219 (39 * i0 + 2) = nI (B_f b) := mb.2.2.1
  rw [g2, show nI 2 = 2 from rfl] at f2
  intro r
  induction r with
  | zero =>
    intro i best hi hb hb2
    have h1 : nI (B_f b) < nI (i + m) := nI_lt (by omega) (by omega)
    have ds := den_sumOf h ok i0 hi0 b bk e mb best (best + m) (by omega) hb2
    rw [Nat.add_sub_cancel_left] at ds
    rw [e290_40]
    by_cases c : wr = 0
    · simp only [e290_0, e290_1, e290_2, e290_5, e290_6, e290_7, e290_9, e290_12, e290_15, e290_16, e290_17, e290_20, e290_23, e290_24, e290_25, e290_26, e290_29, e290_32, e290_33, e290_34, e290_35, e290_37, e290_38, e290_42, e290_43, e290_44, e290_45, e290_46, e290_49, e290_52, e290_53, e290_55, e290_57, e290_58, e290_59, e290_62, e290_63, e290_65, e290_67, e290_68, e290_69, e290_72, e290_75, e290_77, e290_80, e290_82, e290_84, e290_87, e290_90, e290_91, e290_94, e290_95, e290_97, e290_99, e290_100, e290_101, e290_104, e290_107, e290_109, am_bd_some, Option.toList_some, Option.toList_none, List.cons_append, List.nil_append, am_w8_0, am_w8_1, am_w8_2, am_w8_3, am_w8_4, eq_self, or_true, true_or, am_kd_sI, am_kd_sL, am_kd_sR, am_tc_sI, am_tc_sL, am_tc_sR, am_len_sI, am_len_sL, am_len_sR, am_rfs, if_true, if_false, am_rdL_sI, am_rR_sL, am_rt_cq, am_kd_cq, am_tc_cq, am_len_cq, am_rd_sL, am_rd_sR, am_rdL_sR, okK_211 ok, f2, nI_add, h1, c, q_rn]
    · simp only [e290_0, e290_1, e290_2, e290_5, e290_6, e290_7, e290_9, e290_12, e290_15, e290_16, e290_17, e290_20, e290_23, e290_24, e290_25, e290_26, e290_29, e290_32, e290_33, e290_34, e290_35, e290_37, e290_38, e290_42, e290_43, e290_44, e290_45, e290_46, e290_49, e290_52, e290_53, e290_55, e290_57, e290_58, e290_59, e290_62, e290_63, e290_65, e290_67, e290_68, e290_69, e290_72, e290_75, e290_77, e290_80, e290_82, e290_84, e290_87, e290_90, e290_91, e290_94, e290_95, e290_97, e290_99, e290_100, e290_101, e290_104, e290_107, e290_109, am_bd_some, Option.toList_some, Option.toList_none, List.cons_append, List.nil_append, am_w8_0, am_w8_1, am_w8_2, am_w8_3, am_w8_4, eq_self, or_true, true_or, am_kd_sI, am_kd_sL, am_kd_sR, am_tc_sI, am_tc_sL, am_tc_sR, am_len_sI, am_len_sL, am_len_sR, am_rfs, if_true, if_false, am_rdL_sI, am_rR_sL, am_rt_cq, am_kd_cq, am_tc_cq, am_len_cq, am_rd_sL, am_rd_sR, am_rdL_sR, okK_211 ok, f2, nI_add, h1, c, ds, q_rn]
  | succ r ih =>
    intro i best hi hb hb2
    have h1 : ¬ nI (B_f b) < nI (i + m) := nI_nlt (by omega) (by omega)
    have dt := den_sumOf h ok i0 hi0 b bk e mb i (i + m) (by omega) (by omega)
    rw [Nat.add_sub_cancel_left] at dt
    have ds := den_sumOf h ok i0 hi0 b bk e mb best (best + m) (by omega) hb2
    rw [Nat.add_sub_cancel_left] at ds
    have l1 := q_sm_le (B_field b) i (B_f b) hg m (by omega)
    have l2 := q_sm_le (B_field b) best (B_f b) hg m hb2
    have cm : nI (q_sm (B_field b) i m) ≤ nI (q_sm (B_field b) best m) ↔ q_sm (B_field b) i m ≤ q_sm (B_field b) best m := nI_leI (by omega) (by omega)
    rw [e290_40]
    by_cases c : q_sm (B_field b) best m < q_sm (B_field b) i m
    · have c2 : ¬ nI (q_sm (B_field b) i m) ≤ nI (q_sm (B_field b) best m) := fun q => by have := cm.mp q; omega
      simp only [e290_0, e290_1, e290_2, e290_5, e290_6, e290_7, e290_9, e290_12, e290_15, e290_16, e290_17, e290_20, e290_23, e290_24, e290_25, e290_26, e290_29, e290_32, e290_33, e290_34, e290_35, e290_37, e290_38, e290_42, e290_43, e290_44, e290_45, e290_46, e290_49, e290_52, e290_53, e290_55, e290_57, e290_58, e290_59, e290_62, e290_63, e290_65, e290_67, e290_68, e290_69, e290_72, e290_75, e290_77, e290_80, e290_82, e290_84, e290_87, e290_90, e290_91, e290_94, e290_95, e290_97, e290_99, e290_100, e290_101, e290_104, e290_107, e290_109, am_bd_some, Option.toList_some, Option.toList_none, List.cons_append, List.nil_append, am_w8_0, am_w8_1, am_w8_2, am_w8_3, am_w8_4, eq_self, or_true, true_or, am_kd_sI, am_kd_sL, am_kd_sR, am_tc_sI, am_tc_sL, am_tc_sR, am_len_sI, am_len_sL, am_len_sR, am_rfs, if_true, if_false, am_rdL_sI, am_rR_sL, am_rt_cq, am_kd_cq, am_tc_cq, am_len_cq, am_rd_sL, am_rd_sR, am_rdL_sR, okK_211 ok, f2, nI_add, h1, dt, ds, c2, nI_1, q_rn, if_pos c]
      exact ih (i + 1) i (by omega) (by omega) (by omega)
    · have c2 : nI (q_sm (B_field b) i m) ≤ nI (q_sm (B_field b) best m) := cm.mpr (by omega)
      simp only [e290_0, e290_1, e290_2, e290_5, e290_6, e290_7, e290_9, e290_12, e290_15, e290_16, e290_17, e290_20, e290_23, e290_24, e290_25, e290_26, e290_29, e290_32, e290_33, e290_34, e290_35, e290_37, e290_38, e290_42, e290_43, e290_44, e290_45, e290_46, e290_49, e290_52, e290_53, e290_55, e290_57, e290_58, e290_59, e290_62, e290_63, e290_65, e290_67, e290_68, e290_69, e290_72, e290_75, e290_77, e290_80, e290_82, e290_84, e290_87, e290_90, e290_91, e290_94, e290_95, e290_97, e290_99, e290_100, e290_101, e290_104, e290_107, e290_109, am_bd_some, Option.toList_some, Option.toList_none, List.cons_append, List.nil_append, am_w8_0, am_w8_1, am_w8_2, am_w8_3, am_w8_4, eq_self, or_true, true_or, am_kd_sI, am_kd_sL, am_kd_sR, am_tc_sI, am_tc_sL, am_tc_sR, am_len_sI, am_len_sL, am_len_sR, am_rfs, if_true, if_false, am_rdL_sI, am_rR_sL, am_rt_cq, am_kd_cq, am_tc_cq, am_len_cq, am_rd_sL, am_rd_sR, am_rdL_sR, okK_211 ok, f2, nI_add, h1, dt, ds, c2, nI_1, q_rn, if_neg c]
      exact ih (i + 1) best (by omega) (by omega) hb2
def q_runB (b : q_Bk) (m wr : Int32) : Int32 := if 1 ≤ m ∧ m ≤ nI (B_f b) then (if wr = 0 then nI (q_rn (B_field b) m.toNatClampNeg (B_f b - m.toNatClampNeg) 1 0) else nI (q_sm (B_field b) (q_rn (B_field b) m.toNatClampNeg (B_f b - m.toNatClampNeg) 1 0) m.toNatClampNeg)) else -1
def q_run2 (A : q_All) (d m wr : Int32) : Int32 := if 0 ≤ d ∧ d < nI (A.2.1 2) then q_runB (A.2.2.2.2.1 d.toNatClampNeg) m wr else -1
theorem q_m_nat {m : Int32} {F : Nat} (hF : F ≤ 10) (h : 1 ≤ m ∧ m ≤ nI F) : ∃ j : Nat, 1 ≤ j ∧ j ≤ F ∧ m = nI j := by
  obtain ⟨j, hj, rfl⟩ := nI_of (Int32.not_lt.mpr (Int32.le_trans (by decide) h.1))
  exact ⟨j, (nI_leI (a := 1) (by decide) hj).mp h.1, (nI_leI hj (by omega)).mp h.2, rfl⟩
theorem den_crun {A : q_All} {h : am_H} (H : q_Rel A h) (d m wr : Int32) : am_den 143 [.ref 0, .int d, .int m, .int wr] h = some (some (.int (q_run2 A d m wr)), h) := by
  have ok := H.1
  obtain ⟨c1, c2, c3⟩ := H.cnt 2 (by decide)
  have dh := den_has h ok 2 (by decide) (A.2.1 2) c1 c2 d
  rw [show nI 2 = 2 from rfl] at dh
  show am_ev 143 0 [some (.ref 0), some (.int d), some (.int m), some (.int wr), none, none, none, none, none] [] h = _
  unfold q_run2
  by_cases c : 0 ≤ d ∧ d < nI (A.2.1 2)
  · obtain ⟨i, hi, rfl⟩ := q_in2 c1 c
    obtain ⟨f, r⟩ := q_bo_now ok i (by omega)
    obtain ⟨d1, d2, -⟩ := H.bk i hi
    have n3 : B_f (A.2.2.2.2.1 i) ≤ 10 := d1.2.2.1
    have z : (nI i).toNatClampNeg = i := nI_clamp (by omega)
    have x : am_ix (nI i) 2 = true := am_ix_nI (by omega) (by decide)
    have y1 : (1 : Int32) = 0 ↔ False := by decide
    have e2 : h.1 (13 + 16 * i) 2 = nI (B_f (A.2.2.2.2.1 i)) := d2.2.2.1
    rw [if_pos c] at dh ⊢
    unfold q_runB
    by_cases c2 : 1 ≤ m ∧ m ≤ nI (B_f (A.2.2.2.2.1 i))
    · rw [z, if_pos c2]
      have m1 := Int32.not_lt.mpr c2.1
      have m2 := c2.2
      obtain ⟨j, j1, j2, rfl⟩ := q_m_nat n3 c2
      have zj : (nI j).toNatClampNeg = j := nI_clamp (by omega)
      have dt := den_together h (13 + 16 * i) _ f d1 d2 0 (0 + j) (by omega) (by omega)
      rw [Nat.add_sub_cancel_left] at dt
      have l1 := q_sm_le (B_field (A.2.2.2.2.1 i)) 0 (B_f (A.2.2.2.2.1 i)) d1.2.2.2.2.2 j (by omega)
      have k1 : ¬ nI (B_f (A.2.2.2.2.1 i)) < nI (0 + j) := nI_nlt (by omega) (by omega)
      have k2 : ¬ nI (q_sm (B_field (A.2.2.2.2.1 i)) 0 j) ≤ -1 := fun q => absurd (Int32.le_trans (nI_pos' (by omega)) q) (by decide)
      have lp := q_rn_c h ok (13 + 16 * i) _ f d1 d2 j j1 (nI i) wr (B_f (A.2.2.2.2.1 i) - j) 1 0 (some (.int (nI (q_sm (B_field (A.2.2.2.2.1 i)) 0 j)))) (by omega) (by omega) (by omega)
      have s0 : am_ev 143 0 [some (.ref 0), some (.int (nI i)), some (.int (nI j)), some (.int wr), none, none, none, none, none] [] h = am_ev 143 55 [some (.ref 0), some (.int (nI i)), some (.int (nI j)), some (.int wr), some (.ref (13 + 16 * i)), some (.int (-1)), some (.int (-1)), some (.int (nI 0)), none] [] h := by
        simp only [e143_0, e143_1, e143_4, e143_5, e143_6, e143_9, e143_12, e143_13, e143_14, e143_17, e143_18, e143_19, e143_22, e143_25, e143_26f, e143_26d, e143_26b, e143_26l, e143_26t, e143_27, e143_30, e143_33, e143_34, e143_35, e143_36, e143_39, e143_42, e143_43f, e143_43d, e143_43b, e143_43l, e143_43t, e143_44, e143_46, e143_47, e143_49, e143_50, e143_52, e143_53, e143_57, e143_58, e143_59, e143_61, e143_64, e143_67, e143_69, e143_71, e143_73, e143_74, e143_75, e143_78, e143_80, e143_82, e143_84, e143_87, e143_89, e143_91, e143_93, e143_95, e143_98, e143_101, e143_102, e143_105, e143_107, e143_110, e143_112, am_bd_some, Option.toList_some, Option.toList_none, List.cons_append, List.nil_append, am_w8_0, am_w8_1, am_w8_2, am_w8_3, am_w8_4, eq_self, or_true, true_or, am_kd_sI, am_kd_sL, am_kd_sR, am_tc_sI, am_tc_sL, am_tc_sR, am_len_sI, am_len_sL, am_len_sR, am_rfs, if_true, if_false, am_rdL_sI, am_rR_sL, am_rt_cq, am_kd_cq, am_tc_cq, am_len_cq, am_rd_sL, am_rd_sR, am_rdL_sR, okK_0 ok, okR_0_0 ok, okK_1 ok, okR_1_7 ok, okT_6 ok, okL_6 ok, dh, y1, z, x, r, f.1, e2, m1, m2, nI_0]
      rw [s0, e143_55]
      simp only [e143_0, e143_1, e143_4, e143_5, e143_6, e143_9, e143_12, e143_13, e143_14, e143_17, e143_18, e143_19, e143_22, e143_25, e143_26f, e143_26d, e143_26b, e143_26l, e143_26t, e143_27, e143_30, e143_33, e143_34, e143_35, e143_36, e143_39, e143_42, e143_43f, e143_43d, e143_43b, e143_43l, e143_43t, e143_44, e143_46, e143_47, e143_49, e143_50, e143_52, e143_53, e143_57, e143_58, e143_59, e143_61, e143_64, e143_67, e143_69, e143_71, e143_73, e143_74, e143_75, e143_78, e143_80, e143_82, e143_84, e143_87, e143_89, e143_91, e143_93, e143_95, e143_98, e143_101, e143_102, e143_105, e143_107, e143_110, e143_112, am_bd_some, Option.toList_some, Option.toList_none, List.cons_append, List.nil_append, am_w8_0, am_w8_1, am_w8_2, am_w8_3, am_w8_4, eq_self, or_true, true_or, am_kd_sI, am_kd_sL, am_kd_sR, am_tc_sI, am_tc_sL, am_tc_sR, am_len_sI, am_len_sL, am_len_sR, am_rfs, if_true, if_false, am_rdL_sI, am_rR_sL, am_rt_cq, am_kd_cq, am_tc_cq, am_len_cq, am_rd_sL, am_rd_sR, am_rdL_sR, f.1, e2, nI_add, k1, dt, k2, nI_1, zj]
      exact lp
    · rw [z, if_neg c2]
      by_cases m1 : m < 1
      · simp only [e143_0, e143_1, e143_4, e143_5, e143_6, e143_9, e143_12, e143_13, e143_14, e143_17, e143_18, e143_19, e143_22, e143_25, e143_26f, e143_26d, e143_26b, e143_26l, e143_26t, e143_27, e143_30, e143_33, e143_34, e143_35, e143_36, e143_39, e143_42, e143_43f, e143_43d, e143_43b, e143_43l, e143_43t, e143_44, e143_46, e143_47, e143_49, e143_50, e143_52, e143_53, e143_57, e143_58, e143_59, e143_61, e143_64, e143_67, e143_69, e143_71, e143_73, e143_74, e143_75, e143_78, e143_80, e143_82, e143_84, e143_87, e143_89, e143_91, e143_93, e143_95, e143_98, e143_101, e143_102, e143_105, e143_107, e143_110, e143_112, am_bd_some, Option.toList_some, Option.toList_none, List.cons_append, List.nil_append, am_w8_0, am_w8_1, am_w8_2, am_w8_3, am_w8_4, eq_self, or_true, true_or, am_kd_sI, am_kd_sL, am_kd_sR, am_tc_sI, am_tc_sL, am_tc_sR, am_len_sI, am_len_sL, am_len_sR, am_rfs, if_true, if_false, am_rdL_sI, am_rR_sL, am_rt_cq, am_kd_cq, am_tc_cq, am_len_cq, am_rd_sL, am_rd_sR, am_rdL_sR, okK_0 ok, okR_0_0 ok, okK_1 ok, okR_1_7 ok, okT_6 ok, okL_6 ok, dh, y1, z, x, r, f.1, e2, m1]
      · have m2 : ¬ m ≤ nI (B_f (A.2.2.2.2.1 i)) := fun q => c2 ⟨Int32.not_lt.mp m1, q⟩
        simp only [e143_0, e143_1, e143_4, e143_5, e143_6, e143_9, e143_12, e143_13, e143_14, e143_17, e143_18, e143_19, e143_22, e143_25, e143_26f, e143_26d, e143_26b, e143_26l, e143_26t, e143_27, e143_30, e143_33, e143_34, e143_35, e143_36, e143_39, e143_42, e143_43f, e143_43d, e143_43b, e143_43l, e143_43t, e143_44, e143_46, e143_47, e143_49, e143_50, e143_52, e143_53, e143_57, e143_58, e143_59, e143_61, e143_64, e143_67, e143_69, e143_71, e143_73, e143_74, e143_75, e143_78, e143_80, e143_82, e143_84, e143_87, e143_89, e143_91, e143_93, e143_95, e143_98, e143_101, e143_102, e143_105, e143_107, e143_110, e143_112, am_bd_some, Option.toList_some, Option.toList_none, List.cons_append, List.nil_append, am_w8_0, am_w8_1, am_w8_2, am_w8_3, am_w8_4, eq_self, or_true, true_or, am_kd_sI, am_kd_sL, am_kd_sR, am_tc_sI, am_tc_sL, am_tc_sR, am_len_sI, am_len_sL, am_len_sR, am_rfs, if_true, if_false, am_rdL_sI, am_rR_sL, am_rt_cq, am_kd_cq, am_tc_cq, am_len_cq, am_rd_sL, am_rd_sR, am_rdL_sR, okK_0 ok, okR_0_0 ok, okK_1 ok, okR_1_7 ok, okT_6 ok, okL_6 ok, dh, y1, z, x, r, f.1, e2, m1, m2]
  · rw [if_neg c] at dh ⊢
    simp only [e143_0, e143_1, e143_4, e143_5, e143_6, e143_9, e143_12, e143_13, e143_14, e143_17, e143_18, e143_19, e143_22, e143_25, e143_26f, e143_26d, e143_26b, e143_26l, e143_26t, e143_27, e143_30, e143_33, e143_34, e143_35, e143_36, e143_39, e143_42, e143_43f, e143_43d, e143_43b, e143_43l, e143_43t, e143_44, e143_46, e143_47, e143_49, e143_50, e143_52, e143_53, e143_57, e143_58, e143_59, e143_61, e143_64, e143_67, e143_69, e143_71, e143_73, e143_74, e143_75, e143_78, e143_80, e143_82, e143_84, e143_87, e143_89, e143_91, e143_93, e143_95, e143_98, e143_101, e143_102, e143_105, e143_107, e143_110, e143_112, am_bd_some, Option.toList_some, Option.toList_none, List.cons_append, List.nil_append, am_w8_0, am_w8_1, am_w8_2, am_w8_3, am_w8_4, eq_self, or_true, true_or, am_kd_sI, am_kd_sL, am_kd_sR, am_tc_sI, am_tc_sL, am_tc_sR, am_len_sI, am_len_sL, am_len_sR, am_rfs, if_true, if_false, am_rdL_sI, am_rR_sL, am_rt_cq, am_kd_cq, am_tc_cq, am_len_cq, am_rd_sL, am_rd_sR, am_rdL_sR, okK_0 ok, okR_0_0 ok, okK_1 ok, dh]
theorem den_mrun {A : q_All} {h : am_H} (ok : am_okH h) (h0 : h.1 211 0 = 0) (c1 : A.2.1 2 ≤ 2) (c3 : h.1 216 2 = nI (A.2.1 2)) (bk : ∀ i, i < A.2.1 2 → B_ok (A.2.2.2.2.1 i) ∧ B_mod (fun a k => h.1 (212 + a) k) (39 * i) (A.2.2.2.2.1 i)) (d m wr : Int32) : ∃ h' : am_H, q_wk h h' ∧ am_den 290 [.ref 211, .int d, .int m, .int wr] h = some (some (.int (q_run2 A d m wr)), h') := by
  have dh := den_hasBook h ok (A.2.1 2) c1 c3 d
  have y1 : (1 : Int32) = 0 ↔ False := by decide
  show ∃ h', _ ∧ am_ev 290 0 [some (.ref 211), some (.int d), some (.int m), some (.int wr), none, none] [] h = _
  unfold q_run2 q_runB
  by_cases cm : 1 ≤ m ∧ m ≤ 10
  · refine ⟨am_sI h 211 45 d, q_wk1 ok 45 (by decide) d, ?_⟩
    by_cases c : 0 ≤ d ∧ d < nI (A.2.1 2)
    · obtain ⟨i, hi, rfl⟩ := q_in2 c1 c
      obtain ⟨b1, b2⟩ := bk i hi
      have n3 : B_f (A.2.2.2.2.1 i) ≤ 10 := b1.2.2.1
      have z : (nI i).toNatClampNeg = i := nI_clamp (by omega)
      rw [if_pos c] at dh ⊢
      have okd : am_okH (am_sI h 211 45 (nI i)) := ok
      have f2 := den_ofBook (am_sI h 211 45 (nI i)) okd i 2 (by omega) (by decide) rfl
      have g2 : (am_sI h 211 45 (nI i)).1 219 (39 * i + 2) = nI (B_f (A.2.2.2.2.1 i)) := b2.2.2.1
      rw [g2, show nI 2 = 2 from rfl] at f2
      by_cases c2 : 1 ≤ m ∧ m ≤ nI (B_f (A.2.2.2.2.1 i))
      · rw [z, if_pos c2]
        have m2 := c2.2
        obtain ⟨j, j1, j2, rfl⟩ := q_m_nat n3 c2
        have zj : (nI j).toNatClampNeg = j := nI_clamp (by omega)
        have lp := q_rn_m (am_sI h 211 45 (nI i)) okd i (by omega) _ b1 rfl b2 j j1 (nI i) wr (B_f (A.2.2.2.2.1 i) - j) 1 0 (by omega) (by omega) (by omega)
        rw [nI_0, show nI 1 = 1 from rfl] at lp
        simp only [e290_0, e290_1, e290_2, e290_5, e290_6, e290_7, e290_9, e290_12, e290_15, e290_16, e290_17, e290_20, e290_23, e290_24, e290_25, e290_26, e290_29, e290_32, e290_33, e290_34, e290_35, e290_37, e290_38, e290_42, e290_43, e290_44, e290_45, e290_46, e290_49, e290_52, e290_53, e290_55, e290_57, e290_58, e290_59, e290_62, e290_63, e290_65, e290_67, e290_68, e290_69, e290_72, e290_75, e290_77, e290_80, e290_82, e290_84, e290_87, e290_90, e290_91, e290_94, e290_95, e290_97, e290_99, e290_100, e290_101, e290_104, e290_107, e290_109, am_bd_some, Option.toList_some, Option.toList_none, List.cons_append, List.nil_append, am_w8_0, am_w8_1, am_w8_2, am_w8_3, am_w8_4, eq_self, or_true, true_or, am_kd_sI, am_kd_sL, am_kd_sR, am_tc_sI, am_tc_sL, am_tc_sR, am_len_sI, am_len_sL, am_len_sR, am_rfs, if_true, if_false, am_rdL_sI, am_rR_sL, am_rt_cq, am_kd_cq, am_tc_cq, am_len_cq, am_rd_sL, am_rd_sR, am_rdL_sR, okK_211 ok, am_sI_id h0, den_in, cm, and_self, y1, dh, f2, m2, zj]
        exact lp
      · have m2 : ¬ m ≤ nI (B_f (A.2.2.2.2.1 i)) := fun q => c2 ⟨cm.1, q⟩
        rw [z, if_neg c2]
        simp only [e290_0, e290_1, e290_2, e290_5, e290_6, e290_7, e290_9, e290_12, e290_15, e290_16, e290_17, e290_20, e290_23, e290_24, e290_25, e290_26, e290_29, e290_32, e290_33, e290_34, e290_35, e290_37, e290_38, e290_42, e290_43, e290_44, e290_45, e290_46, e290_49, e290_52, e290_53, e290_55, e290_57, e290_58, e290_59, e290_62, e290_63, e290_65, e290_67, e290_68, e290_69, e290_72, e290_75, e290_77, e290_80, e290_82, e290_84, e290_87, e290_90, e290_91, e290_94, e290_95, e290_97, e290_99, e290_100, e290_101, e290_104, e290_107, e290_109, am_bd_some, Option.toList_some, Option.toList_none, List.cons_append, List.nil_append, am_w8_0, am_w8_1, am_w8_2, am_w8_3, am_w8_4, eq_self, or_true, true_or, am_kd_sI, am_kd_sL, am_kd_sR, am_tc_sI, am_tc_sL, am_tc_sR, am_len_sI, am_len_sL, am_len_sR, am_rfs, if_true, if_false, am_rdL_sI, am_rR_sL, am_rt_cq, am_kd_cq, am_tc_cq, am_len_cq, am_rd_sL, am_rd_sR, am_rdL_sR, okK_211 ok, am_sI_id h0, den_in, cm, and_self, y1, dh, f2, m2]
    · rw [if_neg c] at dh ⊢
      simp only [e290_0, e290_1, e290_2, e290_5, e290_6, e290_7, e290_9, e290_12, e290_15, e290_16, e290_17, e290_20, e290_23, e290_24, e290_25, e290_26, e290_29, e290_32, e290_33, e290_34, e290_35, e290_37, e290_38, e290_42, e290_43, e290_44, e290_45, e290_46, e290_49, e290_52, e290_53, e290_55, e290_57, e290_58, e290_59, e290_62, e290_63, e290_65, e290_67, e290_68, e290_69, e290_72, e290_75, e290_77, e290_80, e290_82, e290_84, e290_87, e290_90, e290_91, e290_94, e290_95, e290_97, e290_99, e290_100, e290_101, e290_104, e290_107, e290_109, am_bd_some, Option.toList_some, Option.toList_none, List.cons_append, List.nil_append, am_w8_0, am_w8_1, am_w8_2, am_w8_3, am_w8_4, eq_self, or_true, true_or, am_kd_sI, am_kd_sL, am_kd_sR, am_tc_sI, am_tc_sL, am_tc_sR, am_len_sI, am_len_sL, am_len_sR, am_rfs, if_true, if_false, am_rdL_sI, am_rR_sL, am_rt_cq, am_kd_cq, am_tc_cq, am_len_cq, am_rd_sL, am_rd_sR, am_rdL_sR, okK_211 ok, am_sI_id h0, den_in, cm, and_self, y1, dh]
  · refine ⟨h, q_wk.rf ok, ?_⟩
    have e1 : (if 0 ≤ d ∧ d < nI (A.2.1 2) then (if 1 ≤ m ∧ m ≤ nI (B_f (A.2.2.2.2.1 d.toNatClampNeg)) then (if wr = 0 then nI (q_rn (B_field (A.2.2.2.2.1 d.toNatClampNeg)) m.toNatClampNeg (B_f (A.2.2.2.2.1 d.toNatClampNeg) - m.toNatClampNeg) 1 0) else nI (q_sm (B_field (A.2.2.2.2.1 d.toNatClampNeg)) (q_rn (B_field (A.2.2.2.2.1 d.toNatClampNeg)) m.toNatClampNeg (B_f (A.2.2.2.2.1 d.toNatClampNeg) - m.toNatClampNeg) 1 0) m.toNatClampNeg)) else -1) else (-1 : Int32)) = -1 := by
      by_cases c : 0 ≤ d ∧ d < nI (A.2.1 2)
      · obtain ⟨i, hi, rfl⟩ := q_in2 c1 c
        have n3 : B_f (A.2.2.2.2.1 i) ≤ 10 := (bk i hi).1.2.2.1
        have z : (nI i).toNatClampNeg = i := nI_clamp (by omega)
        rw [if_pos c, z, if_neg (fun q => cm ⟨q.1, Int32.le_trans q.2 (nI_le (b := 10) n3 (by decide))⟩)]
      · rw [if_neg c]
    rw [e1]
    simp only [e290_0, e290_1, e290_2, e290_5, e290_6, e290_7, e290_9, e290_12, e290_15, e290_16, e290_17, e290_20, e290_23, e290_24, e290_25, e290_26, e290_29, e290_32, e290_33, e290_34, e290_35, e290_37, e290_38, e290_42, e290_43, e290_44, e290_45, e290_46, e290_49, e290_52, e290_53, e290_55, e290_57, e290_58, e290_59, e290_62, e290_63, e290_65, e290_67, e290_68, e290_69, e290_72, e290_75, e290_77, e290_80, e290_82, e290_84, e290_87, e290_90, e290_91, e290_94, e290_95, e290_97, e290_99, e290_100, e290_101, e290_104, e290_107, e290_109, am_bd_some, Option.toList_some, Option.toList_none, List.cons_append, List.nil_append, am_w8_0, am_w8_1, am_w8_2, am_w8_3, am_w8_4, eq_self, or_true, true_or, am_kd_sI, am_kd_sL, am_kd_sR, am_tc_sI, am_tc_sL, am_tc_sR, am_len_sI, am_len_sL, am_len_sR, am_rfs, if_true, if_false, am_rdL_sI, am_rR_sL, am_rt_cq, am_kd_cq, am_tc_cq, am_len_cq, am_rd_sL, am_rd_sR, am_rdL_sR, okK_211 ok, am_sI_id h0, den_in, cm]
theorem ly_33 : ly_p33 := by
  intro d m wr hwr h R
  obtain ⟨A, H⟩ := R
  have ok := H.1
  obtain ⟨c1, c2, c3⟩ := H.cnt 2 (by decide)
  obtain ⟨h', w, dm⟩ := den_mrun ok H.2.1 c1 c3 (fun i hi => ⟨(H.bk i hi).1, (H.bk i hi).2.2⟩) d m wr
  exact ⟨q_run2 A d m wr, h, h', ok, rfl, den_crun H d m wr, dm, ⟨A, H.wk w⟩, w.2.1⟩
