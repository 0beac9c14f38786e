/-! part 38: parted: the cuts -/
def q_okc (b : q_Bk) (q a w c : Nat) : Prop := w ≤ q_sm (B_field b) a (c - a) ∧ w ≤ q_pt b q c
noncomputable def q_nc (b : q_Bk) (q a w : Nat) : Nat → Nat → Nat
  | 0, _ => a
  | r + 1, c => @ite _ (q_okc b q a w c) (Classical.propDecidable _) c (q_nc b q a w r (c + 1))
theorem q_nc_p {b : q_Bk} {q a w r c : Nat} (h : q_okc b q a w c) : q_nc b q a w (r + 1) c = c := if_pos h
theorem q_nc_n {b : q_Bk} {q a w r c : Nat} (h : ¬ q_okc b q a w c) : q_nc b q a w (r + 1) c = q_nc b q a w r (c + 1) := if_neg h
theorem q_nc_ex {b : q_Bk} {q a w : Nat} : ∀ r c, (∃ k, c ≤ k ∧ k < c + r ∧ q_okc b q a w k) → c ≤ q_nc b q a w r c ∧ q_nc b q a w r c < c + r ∧ q_okc b q a w (q_nc b q a w r c) := by
  intro r
  induction r with
  | zero => intro c ⟨k, h1, h2, _⟩; omega
  | succ r ih =>
    intro c ⟨k, h1, h2, h3⟩
    by_cases m : q_okc b q a w c
    · rw [q_nc_p m]
      exact ⟨Nat.le_refl _, by omega, m⟩
    · rw [q_nc_n m]
      have : k ≠ c := fun e => m (e ▸ h3)
      obtain ⟨g1, g2, g3⟩ := ih (c + 1) ⟨k, by omega, by omega, h3⟩
      exact ⟨by omega, by omega, g3⟩
/-- there is a cut -/
theorem q_cut_ex {b : q_Bk} {q a w : Nat} (ha : a ≤ B_f b) (h : w ≤ q_pt b (q + 1) a) : ∃ k, a ≤ k ∧ k < a + (B_f b + 1 - a) ∧ q_okc b q a w k := by
  rcases q_fm_ex (fun cut => min (q_sm (B_field b) a (cut - a)) (q_pt b q cut)) (B_f b + 1 - a) a 0 with e | ⟨k, h1, h2, h3⟩
  · have : q_pt b (q + 1) a = 0 := e
    exact ⟨a, Nat.le_refl _, by omega, by omega, by omega⟩
  · have h4 : min (q_sm (B_field b) a (k - a)) (q_pt b q k) = q_pt b (q + 1) a := h3
    exact ⟨k, h1, h2, by omega, by omega⟩
theorem q_nc_c (h : am_H) (ok : am_okH h) (o : Nat) (b : q_Bk) (f : q_bo h o) (bk : B_ok b) (e : B_cls h.1 o b) (q a w : Nat) (hq : q < 5) (hw : w ≤ 990) (rows : q_rw 210 b (q + 1) h) : ∀ (r c : Nat), c + r = B_f b + 1 → a ≤ c → am_ev 142 3 [some (.ref 205), some (.ref o), some (.int (nI (q + 1))), some (.int (nI a)), some (.int (nI w)), some (.int (nI c))] [] h = some (some (.int (nI (q_nc b q a w r c))), h) := by
  have n3 : B_f b ≤ 10 := bk.2.2.1
  have e2 : h.1 o 2 = nI (B_f b) := e.2.2.1
  intro r
  induction r with
  | zero =>
    intro c hc hac
    have h1 : nI (B_f b) < nI c := nI_lt (by omega) (by omega)
    rw [e142_3]
    simp only [e142_0, e142_1, e142_5, e142_6, e142_9, e142_12, e142_13, e142_14, e142_16, e142_19, e142_21, e142_24, e142_25, e142_28, e142_29, e142_31, e142_32, e142_34, e142_35, e142_36, e142_38, e142_41, e142_43, e142_44, e142_47, e142_50, e142_51, am_bd_some, Option.toList_some, Option.toList_none, List.cons_append, List.nil_append, am_w8_0, am_w8_1, am_w8_2, am_w8_3, am_w8_4, eq_self, or_true, true_or, am_kd_sI, am_kd_sL, am_kd_sR, am_tc_sI, am_tc_sL, am_tc_sR, am_len_sI, am_len_sL, am_len_sR, am_rfs, if_true, if_false, am_rdL_sI, am_rR_sL, am_rt_cq, am_kd_cq, am_tc_cq, am_len_cq, am_rd_sL, am_rd_sR, am_rdL_sR, f.1, e2, h1, q_nc]
  | succ r ih =>
    intro c hc hac
    have h1 : ¬ nI (B_f b) < nI c := nI_nlt (by omega) (by omega)
    have dt := den_together h o b f bk e a c hac (by omega)
    have s2 : nI (q + 1) * 11 = nI (11 * (q + 1)) := by rw [Nat.mul_comm]; exact pk_mul (q + 1) 11
    have x1 : am_ix (nI (11 * (q + 1) + c)) 66 = true := am_ix_nI (by omega) (by decide)
    have z1 : (nI (11 * (q + 1) + c)).toNatClampNeg = 11 * (q + 1) + c := nI_clamp (by omega)
    have v1 := rows q (by omega) c (by omega)
    have b1 := q_sm_b b bk a (c - a) (by omega)
    have b2 := q_pt_b b bk q c (by omega)
    have t1 : nI (q_sm (B_field b) a (c - a)) < nI w ↔ q_sm (B_field b) a (c - a) < w := nI_ltI (by omega) (by omega)
    have t2 : nI (q_pt b q c) < nI w ↔ q_pt b q c < w := nI_ltI (by omega) (by omega)
    rw [e142_3]
    simp only [e142_0, e142_1, e142_5, e142_6, e142_9, e142_12, e142_13, e142_14, e142_16, e142_19, e142_21, e142_24, e142_25, e142_28, e142_29, e142_31, e142_32, e142_34, e142_35, e142_36, e142_38, e142_41, e142_43, e142_44, e142_47, e142_50, e142_51, am_bd_some, Option.toList_some, Option.toList_none, List.cons_append, List.nil_append, am_w8_0, am_w8_1, am_w8_2, am_w8_3, am_w8_4, eq_self, or_true, true_or, am_kd_sI, am_kd_sL, am_kd_sR, am_tc_sI, am_tc_sL, am_tc_sR, am_len_sI, am_len_sL, am_len_sR, am_rfs, if_true, if_false, am_rdL_sI, am_rR_sL, am_rt_cq, am_kd_cq, am_tc_cq, am_len_cq, am_rd_sL, am_rd_sR, am_rdL_sR, f.1, e2, h1, dt, okK_205 ok, okR_205_4 ok, okT_210 ok, okL_210 ok, s2, nI_add, x1, z1, v1, t1, t2, nI_1]
    by_cases m : q_okc b q a w c
    · rw [q_nc_p m, if_neg (by have := m.1; omega), if_neg (by have := m.2; omega)]
    · rw [q_nc_n m]
      have lp := ih (c + 1) (by omega) (by omega)
      by_cases m1 : q_sm (B_field b) a (c - a) < w
      · rw [if_pos m1]
        exact lp
      · rw [if_neg m1, if_pos (Nat.lt_of_not_le (fun q2 => m ⟨by omega, q2⟩))]
        exact lp
noncomputable def q_ct (b : q_Bk) (n w : Nat) : Nat → Nat → Nat → Nat
  | 0, _, cut => cut
  | r + 1, i, cut => q_ct b n w r (i + 1) (q_nc b (n - 2 - i) cut w (B_f b + 1 - cut) cut)
theorem q_ct_c (h : am_H) (ok : am_okH h) (o : Nat) (b : q_Bk) (f : q_bo h o) (bk : B_ok b) (e : B_cls h.1 o b) (n w k : Nat) (hn : n ≤ 5) (hk : k + 2 ≤ n) (hw : w ≤ 990) (rows : q_rw 210 b n h) : ∀ (r i cut : Nat), i + r = k + 1 → cut ≤ B_f b → w ≤ q_pt b (n - 1 - i) cut → am_ev 139 80 [some (.ref 205), some (.ref o), some (.int (nI n)), some (.int (nI k)), some (.int (nI w)), some (.int (nI cut)), some (.int (nI i))] [] h = some (some (.int (nI (q_ct b n w r i cut))), h) := by
  have n3 : B_f b ≤ 10 := bk.2.2.1
  intro r
  induction r with
  | zero =>
    intro i cut hi hc hw2
    have h1 : nI k < nI i := nI_lt (by omega) (by omega)
    rw [e139_80]
    simp only [e139_0, e139_1, e139_3, e139_5, e139_6, e139_9, e139_10, e139_12, e139_14, e139_15, e139_18, e139_21, e139_22, e139_25, e139_27, e139_29, e139_30, e139_32, e139_33, e139_34, e139_35, e139_37, e139_39, e139_42, e139_43, e139_46, e139_49, e139_52, e139_55, e139_56, e139_59, e139_60, e139_62, e139_63, e139_64, e139_66, e139_67, e139_68, e139_71, e139_73, e139_74, e139_75, e139_77, e139_78, e139_82, e139_83, e139_86, e139_88, e139_89, e139_90, e139_91, e139_94, e139_95, e139_96, e139_97, e139_98, e139_99, e139_101, e139_102, e139_104, e139_106, e139_109, e139_111, e139_114, e139_117, e139_119, am_bd_some, Option.toList_some, Option.toList_none, List.cons_append, List.nil_append, am_w8_0, am_w8_1, am_w8_2, am_w8_3, am_w8_4, eq_self, or_true, true_or, am_kd_sI, am_kd_sL, am_kd_sR, am_tc_sI, am_tc_sL, am_tc_sR, am_len_sI, am_len_sL, am_len_sR, am_rfs, if_true, if_false, am_rdL_sI, am_rR_sL, am_rt_cq, am_kd_cq, am_tc_cq, am_len_cq, am_rd_sL, am_rd_sR, am_rdL_sR, h1, q_ct]
  | succ r ih =>
    intro i cut hi hc hw2
    have h1 : ¬ nI k < nI i := nI_nlt (by omega) (by omega)
    have s1 : nI n - 1 = nI (n - 1) := pk_sub (b := 1) (by omega)
    have h2 : ¬ nI (n - 1) ≤ nI i := nI_ge (by omega) (by omega)
    have s2 : nI (n - 1) - nI i = nI (n - 2 - i + 1) := by rw [pk_sub (by omega)]; congr 1; omega
    obtain ⟨q1, q2, q3⟩ := q_nc_ex (B_f b + 1 - cut) cut (q_cut_ex (b := b) (q := n - 2 - i) (w := w) hc (by rw [show n - 2 - i + 1 = n - 1 - i by omega]; exact hw2))
    have dn : am_den 142 [.ref 205, .ref o, .int (nI (n - 2 - i + 1)), .int (nI cut), .int (nI w)] h = some (some (.int (nI (q_nc b (n - 2 - i) cut w (B_f b + 1 - cut) cut))), h) := by
      show am_ev 142 0 [some (.ref 205), some (.ref o), some (.int (nI (n - 2 - i + 1))), some (.int (nI cut)), some (.int (nI w)), none] [] h = _
      have lp := q_nc_c h ok o b f bk e (n - 2 - i) cut w (by omega) hw (fun p hp => rows p (by omega)) (B_f b + 1 - cut) cut (by omega) (Nat.le_refl _)
      simp only [e142_0, e142_1, e142_5, e142_6, e142_9, e142_12, e142_13, e142_14, e142_16, e142_19, e142_21, e142_24, e142_25, e142_28, e142_29, e142_31, e142_32, e142_34, e142_35, e142_36, e142_38, e142_41, e142_43, e142_44, e142_47, e142_50, e142_51, am_bd_some, Option.toList_some, Option.toList_none, List.cons_append, List.nil_append, am_w8_0, am_w8_1, am_w8_2, am_w8_3, am_w8_4, eq_self, or_true, true_or, am_kd_sI, am_kd_sL, am_kd_sR, am_tc_sI, am_tc_sL, am_tc_sR, am_len_sI, am_len_sL, am_len_sR, am_rfs, if_true, if_false, am_rdL_sI, am_rR_sL, am_rt_cq, am_kd_cq, am_tc_cq, am_len_cq, am_rd_sL, am_rd_sR, am_rdL_sR]
      exact lp
    rw [e139_80]
    simp only [e139_0, e139_1, e139_3, e139_5, e139_6, e139_9, e139_10, e139_12, e139_14, e139_15, e139_18, e139_21, e139_22, e139_25, e139_27, e139_29, e139_30, e139_32, e139_33, e139_34, e139_35, e139_37, e139_39, e139_42, e139_43, e139_46, e139_49, e139_52, e139_55, e139_56, e139_59, e139_60, e139_62, e139_63, e139_64, e139_66, e139_67, e139_68, e139_71, e139_73, e139_74, e139_75, e139_77, e139_78, e139_82, e139_83, e139_86, e139_88, e139_89, e139_90, e139_91, e139_94, e139_95, e139_96, e139_97, e139_98, e139_99, e139_101, e139_102, e139_104, e139_106, e139_109, e139_111, e139_114, e139_117, e139_119, am_bd_some, Option.toList_some, Option.toList_none, List.cons_append, List.nil_append, am_w8_0, am_w8_1, am_w8_2, am_w8_3, am_w8_4, eq_self, or_true, true_or, am_kd_sI, am_kd_sL, am_kd_sR, am_tc_sI, am_tc_sL, am_tc_sR, am_len_sI, am_len_sL, am_len_sR, am_rfs, if_true, if_false, am_rdL_sI, am_rR_sL, am_rt_cq, am_kd_cq, am_tc_cq, am_len_cq, am_rd_sL, am_rd_sR, am_rdL_sR, h1, s1, h2, s2, okK_205 ok, dn, nI_1]
    exact ih (i + 1) _ (by omega) (by omega) (by rw [show n - 1 - (i + 1) = n - 2 - i by omega]; exact q3.2)
noncomputable def q_prB (b : q_Bk) (n k : Int32) : Int32 := @ite _ ((1 ≤ n ∧ n ≤ 5) ∧ -1 ≤ k ∧ k ≤ n - 2) (Classical.propDecidable _) (if k = -1 then nI (q_pt b (n.toNatClampNeg - 1) 0) else nI (q_ct b n.toNatClampNeg (q_pt b (n.toNatClampNeg - 1) 0) (k.toNatClampNeg + 1) 0 0)) (-1)
theorem den_part_c (h : am_H) (ok : am_okH h) (o : Nat) (ho : o + 5 < 210) (b : q_Bk) (f : q_bo h o) (bk : B_ok b) (e : B_cls h.1 o b) (n : Nat) (hn1 : 1 ≤ n) (hn : n ≤ 5) (k : Int32) (hk : k = -1 ∨ ∃ j : Nat, j + 2 ≤ n ∧ k = nI j) : ∃ h' : am_H, q_fr 210 h h' ∧ am_den 139 [.ref 205, .ref o, .int (nI n), .int k] h = some (some (.int (if k = -1 then nI (q_pt b (n - 1) 0) else nI (q_ct b n (q_pt b (n - 1) 0) (k.toNatClampNeg + 1) 0 0))), h') := by
  obtain ⟨h', z', f1, f2, f3⟩ := q_po_l o ho b bk n hn k none n 0 h none (by omega) ok f e (fun p hp => absurd hp (Nat.not_lt_zero _))
  have ok' := f1.ok ok
  refine ⟨h', f1, ?_⟩
  show am_ev 139 0 [some (.ref 205), some (.ref o), some (.int (nI n)), some (.int k), none, none, none] [] h = _
  have e0 : am_ev 139 0 [some (.ref 205), some (.ref o), some (.int (nI n)), some (.int k), none, none, none] [] h = am_ev 139 3 [some (.ref 205), some (.ref o), some (.int (nI n)), some (.int k), some (.int (nI (0 + 1))), none, none] [] h := by
    simp only [e139_0, e139_1, e139_5, e139_6, e139_9, e139_10, e139_12, e139_14, e139_15, e139_18, e139_21, e139_22, e139_25, e139_27, e139_29, e139_30, e139_32, e139_33, e139_34, e139_35, e139_37, e139_39, e139_42, e139_43, e139_46, e139_49, e139_52, e139_55, e139_56, e139_59, e139_60, e139_62, e139_63, e139_64, e139_66, e139_67, e139_68, e139_71, e139_73, e139_74, e139_75, e139_77, e139_78, e139_80, e139_82, e139_83, e139_86, e139_88, e139_89, e139_90, e139_91, e139_94, e139_95, e139_96, e139_97, e139_98, e139_99, e139_101, e139_102, e139_104, e139_106, e139_109, e139_111, e139_114, e139_117, e139_119, am_bd_some, Option.toList_some, Option.toList_none, List.cons_append, List.nil_append, am_w8_0, am_w8_1, am_w8_2, am_w8_3, am_w8_4, eq_self, or_true, true_or, am_kd_sI, am_kd_sL, am_kd_sR, am_tc_sI, am_tc_sL, am_tc_sR, am_len_sI, am_len_sL, am_len_sR, am_rfs, if_true, if_false, am_rdL_sI, am_rR_sL, am_rt_cq, am_kd_cq, am_tc_cq, am_len_cq, am_rd_sL, am_rd_sR, am_rdL_sR]
    rfl
  have s2 : nI n * 11 = nI (11 * n) := by rw [Nat.mul_comm]; exact pk_mul n 11
  have x1 : am_ix (nI (11 * n)) 66 = true := am_ix_nI (by omega) (by decide)
  have z1 : (nI (11 * n)).toNatClampNeg = 11 * n := nI_clamp (by omega)
  have v1 : h'.1 210 (11 * n) = nI (q_pt b (n - 1) 0) := by
    have := f2 (n - 1) (by omega) 0 (Nat.zero_le _)
    rw [show 11 * (n - 1 + 1) + 0 = 11 * n by omega] at this
    exact this
  rw [e0, f3]
  rcases hk with rfl | ⟨j, hj, rfl⟩
  · simp only [e139_0, e139_1, e139_3, e139_5, e139_6, e139_9, e139_10, e139_12, e139_14, e139_15, e139_18, e139_21, e139_22, e139_25, e139_27, e139_29, e139_30, e139_32, e139_33, e139_34, e139_35, e139_37, e139_39, e139_42, e139_43, e139_46, e139_49, e139_52, e139_55, e139_56, e139_59, e139_60, e139_62, e139_63, e139_64, e139_66, e139_67, e139_68, e139_71, e139_73, e139_74, e139_75, e139_77, e139_78, e139_82, e139_83, e139_86, e139_88, e139_89, e139_90, e139_91, e139_94, e139_95, e139_96, e139_97, e139_98, e139_99, e139_101, e139_102, e139_104, e139_106, e139_109, e139_111, e139_114, e139_117, e139_119, am_bd_some, Option.toList_some, Option.toList_none, List.cons_append, List.nil_append, am_w8_0, am_w8_1, am_w8_2, am_w8_3, am_w8_4, eq_self, or_true, true_or, am_kd_sI, am_kd_sL, am_kd_sR, am_tc_sI, am_tc_sL, am_tc_sR, am_len_sI, am_len_sL, am_len_sR, am_rfs, if_true, if_false, am_rdL_sI, am_rR_sL, am_rt_cq, am_kd_cq, am_tc_cq, am_len_cq, am_rd_sL, am_rd_sR, am_rdL_sR, okK_205 ok', okR_205_4 ok', okT_210 ok', okL_210 ok', s2, x1, z1, v1, not_true]
  · have n1 : ¬ nI j = -1 := fun q => by
      have := nI_pos' (n := j) (by omega)
      rw [q] at this
      exact absurd this (by decide)
    have zj : (nI j).toNatClampNeg = j := nI_clamp (by omega)
    have lp := q_ct_c h' ok' o b (f1.bo f) bk (f1.bc e bk (by omega)) n (q_pt b (n - 1) 0) j hn hj (q_pt_b b bk _ _ (Nat.zero_le _)) f2 (j + 1) 0 0 (by omega) (Nat.zero_le _) (Nat.le_refl _)
    rw [nI_0] at lp
    simp only [e139_0, e139_1, e139_3, e139_5, e139_6, e139_9, e139_10, e139_12, e139_14, e139_15, e139_18, e139_21, e139_22, e139_25, e139_27, e139_29, e139_30, e139_32, e139_33, e139_34, e139_35, e139_37, e139_39, e139_42, e139_43, e139_46, e139_49, e139_52, e139_55, e139_56, e139_59, e139_60, e139_62, e139_63, e139_64, e139_66, e139_67, e139_68, e139_71, e139_73, e139_74, e139_75, e139_77, e139_78, e139_82, e139_83, e139_86, e139_88, e139_89, e139_90, e139_91, e139_94, e139_95, e139_96, e139_97, e139_98, e139_99, e139_101, e139_102, e139_104, e139_106, e139_109, e139_111, e139_114, e139_117, e139_119, am_bd_some, Option.toList_some, Option.toList_none, List.cons_append, List.nil_append, am_w8_0, am_w8_1, am_w8_2, am_w8_3, am_w8_4, eq_self, or_true, true_or, am_kd_sI, am_kd_sL, am_kd_sR, am_tc_sI, am_tc_sL, am_tc_sR, am_len_sI, am_len_sL, am_len_sR, am_rfs, if_true, if_false, am_rdL_sI, am_rR_sL, am_rt_cq, am_kd_cq, am_tc_cq, am_len_cq, am_rd_sL, am_rd_sR, am_rdL_sR, okK_205 ok', okR_205_4 ok', okT_210 ok', okL_210 ok', s2, x1, z1, v1, n1, not_false_eq_true, zj]
    exact lp
theorem q_k_nat {n : Nat} (hn1 : 1 ≤ n) (hn : n ≤ 5) {k : Int32} (h1 : -1 ≤ k) (h2 : k ≤ nI n - 2) : k = -1 ∨ ∃ j : Nat, j + 2 ≤ n ∧ k = nI j := by
  have e2 : (nI n - 2).toInt = (n : Int) - 2 := pk_sub_toInt (a := n) (b := 2) (by omega) (by decide)
  have q2 := Int32.le_iff_toInt_le.mp h2
  have q1 := Int32.le_iff_toInt_le.mp h1
  have e1 : (-1 : Int32).toInt = -1 := by decide
  rw [e1] at q1
  rw [e2] at q2
  by_cases c : k = -1
  · exact Or.inl c
  · have c2 : k.toInt ≠ -1 := fun q => c (Int32.toInt_inj.mp (q.trans e1.symm))
    have c3 : ¬ k < 0 := fun q => by
      have := Int32.lt_iff_toInt_lt.mp q
      have e0 : (0 : Int32).toInt = 0 := by decide
      omega
    obtain ⟨j, hj, rfl⟩ := nI_of c3
    rw [nI_toInt hj] at q2
    exact Or.inr ⟨j, by omega, rfl⟩
noncomputable def q_prQ (A : q_All) (d n k : Int32) : Int32 := if 0 ≤ d ∧ d < nI (A.2.1 2) then q_prB (A.2.2.2.2.1 d.toNatClampNeg) n k else -1
theorem q_prB_p {b : q_Bk} {n k : Int32} (h : (1 ≤ n ∧ n ≤ 5) ∧ -1 ≤ k ∧ k ≤ n - 2) : q_prB b n k = if k = -1 then nI (q_pt b (n.toNatClampNeg - 1) 0) else nI (q_ct b n.toNatClampNeg (q_pt b (n.toNatClampNeg - 1) 0) (k.toNatClampNeg + 1) 0 0) := if_pos h
theorem q_prB_n {b : q_Bk} {n k : Int32} (h : ¬ ((1 ≤ n ∧ n ≤ 5) ∧ -1 ≤ k ∧ k ≤ n - 2)) : q_prB b n k = -1 := if_neg h
theorem den_cparted {A : q_All} {h : am_H} (H : q_Rel A h) (d n k : Int32) : ∃ h' : am_H, q_fr 210 h h' ∧ am_den 138 [.ref 0, .int d, .int n, .int k] h = some (some (.int (q_prQ A d n k)), h') := by
  have ok := H.1
  obtain ⟨c1, c2, c3⟩ := H.cnt 2 (by decide)
  have dh := den_has h ok 2 (by decide) (A.2.1 2) c1 c2 d
  rw [show nI 2 = 2 from rfl] at dh
  show ∃ h' : am_H, q_fr 210 h h' ∧ am_ev 138 0 [some (.ref 0), some (.int d), some (.int n), some (.int k)] [] h = _
  unfold q_prQ
  by_cases c : 0 ≤ d ∧ d < nI (A.2.1 2)
  · obtain ⟨i, hi, rfl⟩ := q_in2 c1 c
    obtain ⟨f, r⟩ := q_bo_now ok i (by omega)
    obtain ⟨d1, d2, -⟩ := H.bk i hi
    have z : (nI i).toNatClampNeg = i := nI_clamp (by omega)
    have x : am_ix (nI i) 2 = true := am_ix_nI (by omega) (by decide)
    have y1 : (1 : Int32) = 0 ↔ False := by decide
    rw [if_pos c] at dh ⊢
    rw [z]
    by_cases cc : (1 ≤ n ∧ n ≤ 5) ∧ -1 ≤ k ∧ k ≤ n - 2
    · rw [q_prB_p cc]
      have m1 := Int32.not_lt.mpr cc.1.1
      have m2 := Int32.not_lt.mpr cc.1.2
      have m3 := Int32.not_lt.mpr cc.2.1
      have m4 := cc.2.2
      obtain ⟨n', n1, n2, rfl⟩ := q_m_nat (F := 5) (by decide) cc.1
      have zn : (nI n').toNatClampNeg = n' := nI_clamp (by omega)
      obtain ⟨h', g1, g2⟩ := den_part_c h ok (13 + 16 * i) (by omega) _ f d1 d2 n' n1 n2 k (q_k_nat n1 n2 cc.2.1 cc.2.2)
      refine ⟨h', g1, ?_⟩
      rw [zn]
      simp only [e138_0, e138_1, e138_4, e138_5, e138_6, e138_9, e138_12, e138_13, e138_14, e138_17, e138_18, e138_19, e138_22, e138_23, e138_24, e138_27, e138_28, e138_29, e138_30, e138_31, e138_34, e138_35, e138_36, e138_37, e138_40, e138_41, e138_44, e138_47, e138_48f, e138_48d, e138_48b, e138_48l, e138_48t, e138_49, e138_50, e138_51, e138_54, am_bd_some, Option.toList_some, Option.toList_none, List.cons_append, List.nil_append, am_w8_0, am_w8_1, am_w8_2, am_w8_3, am_w8_4, eq_self, or_true, true_or, am_kd_sI, am_kd_sL, am_kd_sR, am_tc_sI, am_tc_sL, am_tc_sR, am_len_sI, am_len_sL, am_len_sR, am_rfs, if_true, if_false, am_rdL_sI, am_rR_sL, am_rt_cq, am_kd_cq, am_tc_cq, am_len_cq, am_rd_sL, am_rd_sR, am_rdL_sR, okK_0 ok, okR_0_0 ok, okK_1 ok, okR_1_7 ok, okT_6 ok, okL_6 ok, okR_0_10 ok, okK_205 ok, dh, y1, z, x, r, m1, m2, m3, m4, g2]
    · rw [q_prB_n cc]
      refine ⟨h, q_fr.rf _ _, ?_⟩
      by_cases m1 : n < 1
      · simp only [e138_0, e138_1, e138_4, e138_5, e138_6, e138_9, e138_12, e138_13, e138_14, e138_17, e138_18, e138_19, e138_22, e138_23, e138_24, e138_27, e138_28, e138_29, e138_30, e138_31, e138_34, e138_35, e138_36, e138_37, e138_40, e138_41, e138_44, e138_47, e138_48f, e138_48d, e138_48b, e138_48l, e138_48t, e138_49, e138_50, e138_51, e138_54, am_bd_some, Option.toList_some, Option.toList_none, List.cons_append, List.nil_append, am_w8_0, am_w8_1, am_w8_2, am_w8_3, am_w8_4, eq_self, or_true, true_or, am_kd_sI, am_kd_sL, am_kd_sR, am_tc_sI, am_tc_sL, am_tc_sR, am_len_sI, am_len_sL, am_len_sR, am_rfs, if_true, if_false, am_rdL_sI, am_rR_sL, am_rt_cq, am_kd_cq, am_tc_cq, am_len_cq, am_rd_sL, am_rd_sR, am_rdL_sR, okK_0 ok, okR_0_0 ok, okK_1 ok, dh, y1, m1]
      · by_cases m2 : 5 < n
        · simp only [e138_0, e138_1, e138_4, e138_5, e138_6, e138_9, e138_12, e138_13, e138_14, e138_17, e138_18, e138_19, e138_22, e138_23, e138_24, e138_27, e138_28, e138_29, e138_30, e138_31, e138_34, e138_35, e138_36, e138_37, e138_40, e138_41, e138_44, e138_47, e138_48f, e138_48d, e138_48b, e138_48l, e138_48t, e138_49, e138_50, e138_51, e138_54, am_bd_some, Option.toList_some, Option.toList_none, List.cons_append, List.nil_append, am_w8_0, am_w8_1, am_w8_2, am_w8_3, am_w8_4, eq_self, or_true, true_or, am_kd_sI, am_kd_sL, am_kd_sR, am_tc_sI, am_tc_sL, am_tc_sR, am_len_sI, am_len_sL, am_len_sR, am_rfs, if_true, if_false, am_rdL_sI, am_rR_sL, am_rt_cq, am_kd_cq, am_tc_cq, am_len_cq, am_rd_sL, am_rd_sR, am_rdL_sR, okK_0 ok, okR_0_0 ok, okK_1 ok, dh, y1, m1, m2]
        · by_cases m3 : k < -1
          · simp only [e138_0, e138_1, e138_4, e138_5, e138_6, e138_9, e138_12, e138_13, e138_14, e138_17, e138_18, e138_19, e138_22, e138_23, e138_24, e138_27, e138_28, e138_29, e138_30, e138_31, e138_34, e138_35, e138_36, e138_37, e138_40, e138_41, e138_44, e138_47, e138_48f, e138_48d, e138_48b, e138_48l, e138_48t, e138_49, e138_50, e138_51, e138_54, am_bd_some, Option.toList_some, Option.toList_none, List.cons_append, List.nil_append, am_w8_0, am_w8_1, am_w8_2, am_w8_3, am_w8_4, eq_self, or_true, true_or, am_kd_sI, am_kd_sL, am_kd_sR, am_tc_sI, am_tc_sL, am_tc_sR, am_len_sI, am_len_sL, am_len_sR, am_rfs, if_true, if_false, am_rdL_sI, am_rR_sL, am_rt_cq, am_kd_cq, am_tc_cq, am_len_cq, am_rd_sL, am_rd_sR, am_rdL_sR, okK_0 ok, okR_0_0 ok, okK_1 ok, dh, y1, m1, m2, m3]
          · have m4 : ¬ k ≤ n - 2 := fun q => cc ⟨⟨Int32.not_lt.mp m1, Int32.not_lt.mp m2⟩, Int32.not_lt.mp m3, q⟩
            simp only [e138_0, e138_1, e138_4, e138_5, e138_6, e138_9, e138_12, e138_13, e138_14, e138_17, e138_18, e138_19, e138_22, e138_23, e138_24, e138_27, e138_28, e138_29, e138_30, e138_31, e138_34, e138_35, e138_36, e138_37, e138_40, e138_41, e138_44, e138_47, e138_48f, e138_48d, e138_48b, e138_48l, e138_48t, e138_49, e138_50, e138_51, e138_54, am_bd_some, Option.toList_some, Option.toList_none, List.cons_append, List.nil_append, am_w8_0, am_w8_1, am_w8_2, am_w8_3, am_w8_4, eq_self, or_true, true_or, am_kd_sI, am_kd_sL, am_kd_sR, am_tc_sI, am_tc_sL, am_tc_sR, am_len_sI, am_len_sL, am_len_sR, am_rfs, if_true, if_false, am_rdL_sI, am_rR_sL, am_rt_cq, am_kd_cq, am_tc_cq, am_len_cq, am_rd_sL, am_rd_sR, am_rdL_sR, okK_0 ok, okR_0_0 ok, okK_1 ok, dh, y1, m1, m2, m3, m4]
  · rw [if_neg c] at dh ⊢
    refine ⟨h, q_fr.rf _ _, ?_⟩
    simp only [e138_0, e138_1, e138_4, e138_5, e138_6, e138_9, e138_12, e138_13, e138_14, e138_17, e138_18, e138_19, e138_22, e138_23, e138_24, e138_27, e138_28, e138_29, e138_30, e138_31, e138_34, e138_35, e138_36, e138_37, e138_40, e138_41, e138_44, e138_47, e138_48f, e138_48d, e138_48b, e138_48l, e138_48t, e138_49, e138_50, e138_51, e138_54, am_bd_some, Option.toList_some, Option.toList_none, List.cons_append, List.nil_append, am_w8_0, am_w8_1, am_w8_2, am_w8_3, am_w8_4, eq_self, or_true, true_or, am_kd_sI, am_kd_sL, am_kd_sR, am_tc_sI, am_tc_sL, am_tc_sR, am_len_sI, am_len_sL, am_len_sR, am_rfs, if_true, if_false, am_rdL_sI, am_rR_sL, am_rt_cq, am_kd_cq, am_tc_cq, am_len_cq, am_rd_sL, am_rd_sR, am_rdL_sR, okK_0 ok, okR_0_0 ok, okK_1 ok, dh]
