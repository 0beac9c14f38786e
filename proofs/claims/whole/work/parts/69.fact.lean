/-! part 69: fact -/
theorem q_Rel.lg {A : q_All} {h : am_H} (H : q_Rel A h) (i : Nat) (hi : i < A.2.1 3) : L_ok (A.2.2.2.2.2 i) ∧ L_cls h.1 (19 + 16 * i) (A.2.2.2.2.2 i) ∧ L_mod (fun a k => h.1 (212 + a) k) (49 * i) (A.2.2.2.2.2 i) := by
  obtain ⟨d1, d2, d3⟩ := H.2.2.1.2.2.2.2.2.2 i hi
  have e0 : ∀ o k, q_cv h (q_at 0) o k = h.1 (o + 1) k := fun o k => by
    show h.1 (1 + o) k = _
    rw [Nat.add_comm]
  have e3 : ∀ k, q_mv h 0 8 k = h.1 220 k := fun k => by
    show h.1 220 (98 * 0 + k) = _
    rw [Nat.mul_zero, Nat.zero_add]
  refine ⟨d1, d2.cg d1.1 ?_ (fun k _ => ?_) (fun k _ => ?_) (fun k _ => ?_) (fun k _ => ?_), d3.cg d1.1 (fun k _ => (e3 _).symm)⟩
  · rw [e0]; exact congrArg (fun x => h.1 x 0) (by omega)
  all_goals (rw [e0]; exact congrArg (fun x => h.1 x k) (by omega))
theorem q_lo_now {h : am_H} (ok : am_okH h) (i : Nat) (hi : i < 2) : q_lo h (19 + 16 * i) ∧ h.2.2.1 7 i = some (19 + 16 * i) := by
  obtain ⟨-, -, -, -, -, -, -, -, -, -, -, -, -, -, -, -, -, -, -, x0, x1, -, -, -, f, -, -, -, f2⟩ := q_to_1 ok
  have : i = 0 ∨ i = 1 := by omega
  rcases this with rfl | rfl
  · exact ⟨f, x0⟩
  · exact ⟨f2, x1⟩
def L_ans (l : q_Lg) (k w : Int32) : Int32 := if k = -1 ∧ w = 0 then nI (L_n l) else if 0 ≤ k ∧ k < nI (L_n l) then (if w = 0 then nI (L_did l k.toNatClampNeg) else if w = 1 then nI (L_beast l k.toNatClampNeg) else if w = 2 then nI (L_dog l k.toNatClampNeg) else if w = 3 then L_way l k.toNatClampNeg else -2) else -2
theorem den_lans (h : am_H) (o : Nat) (l : q_Lg) (f : q_lo h o) (lk : L_ok l) (e : L_cls h.1 o l) (k w : Int32) : am_den 145 [.ref o, .int k, .int w] h = some (some (.int (L_ans l k w)), h) := by
  obtain ⟨f0, r0, r1, r2, r3, k0, k1, k2, k3⟩ := f
  obtain ⟨n8, -⟩ := lk
  obtain ⟨e0, e1⟩ := e
  show am_ev 145 0 [some (.ref o), some (.int k), some (.int w)] [] h = _
  unfold L_ans
  by_cases c1 : k = -1 ∧ w = 0
  · rw [if_pos c1, c1.1, c1.2]
    simp only [e145_0, e145_1, e145_2, e145_5, e145_6, e145_9, e145_10, e145_13, e145_14, e145_15, e145_18, e145_19, e145_20, e145_23, e145_26, e145_28, e145_29, e145_30, e145_60, e145_61, e145_64, e145_65, e145_66, e145_67, e145_68, e145_71, e145_72, e145_73, e145_74, e145_75, e145_78, e145_79, e145_80, e145_81, e145_82, e145_85, e145_86, e145_87, e145_88, e145_90, am_bd_some, Option.toList_some, Option.toList_none, List.cons_append, List.nil_append, am_w8_0, am_w8_1, am_w8_2, am_w8_3, am_w8_4, eq_self, or_true, true_or, am_kd_sI, am_kd_sL, am_kd_sR, am_tc_sI, am_tc_sL, am_tc_sR, am_len_sI, am_len_sL, am_len_sR, am_rfs, if_true, if_false, am_rdL_sI, am_rR_sL, am_rt_cq, am_kd_cq, am_tc_cq, am_len_cq, am_rd_sL, am_rd_sR, am_rdL_sR, f0, e0, not_true]
  · rw [if_neg c1]
    by_cases c2 : 0 ≤ k ∧ k < nI (L_n l)
    · rw [if_pos c2]
      have n1 : ¬ k = -1 := fun q => by rw [q] at c2; exact absurd c2.1 (by decide)
      have n2 := Int32.not_lt.mpr c2.1
      have n3 := c2.2
      obtain ⟨j, hj, rfl⟩ := nI_of n2
      have hj2 : j < L_n l := (nI_ltI hj (by omega)).mp c2.2
      have x : am_ix (nI j) 8 = true := am_ix_nI (by omega) (by decide)
      have z : (nI j).toNatClampNeg = j := nI_clamp hj
      obtain ⟨v0, v1, v2, v3⟩ := e1 j hj2
      simp only [e145_0, e145_1, e145_2, e145_5, e145_6, e145_9, e145_10, e145_13, e145_14, e145_15, e145_18, e145_19, e145_20, e145_23, e145_26, e145_28, e145_29, e145_30, e145_60, e145_61, e145_64, e145_65, e145_66, e145_67, e145_68, e145_71, e145_72, e145_73, e145_74, e145_75, e145_78, e145_79, e145_80, e145_81, e145_82, e145_85, e145_86, e145_87, e145_88, e145_90, am_bd_some, Option.toList_some, Option.toList_none, List.cons_append, List.nil_append, am_w8_0, am_w8_1, am_w8_2, am_w8_3, am_w8_4, eq_self, or_true, true_or, am_kd_sI, am_kd_sL, am_kd_sR, am_tc_sI, am_tc_sL, am_tc_sR, am_len_sI, am_len_sL, am_len_sR, am_rfs, if_true, if_false, am_rdL_sI, am_rR_sL, am_rt_cq, am_kd_cq, am_tc_cq, am_len_cq, am_rd_sL, am_rd_sR, am_rdL_sR, f0, e0, n1, n2, n3, not_false_eq_true, r0, r1, r2, r3, q_tc k0, q_tc k1, q_tc k2, q_tc k3, q_ln k0, q_ln k1, q_ln k2, q_ln k3, x, z, v0, v1, v2, v3]
      by_cases w0 : w = 0
      · simp [w0]
      · by_cases w1 : w = 1
        · simp [w1]
        · by_cases w2 : w = 2
          · simp [w2]
          · by_cases w3 : w = 3
            · simp [w3]
            · simp [w0, w1, w2, w3]
    · rw [if_neg c2]
      by_cases k1' : k = -1
      · have w0 : ¬ w = 0 := fun q => c1 ⟨k1', q⟩
        have kk : (-1 : Int32) < 0 := by decide
        rw [k1']
        simp only [e145_0, e145_1, e145_2, e145_5, e145_6, e145_9, e145_10, e145_13, e145_14, e145_15, e145_18, e145_19, e145_20, e145_23, e145_26, e145_28, e145_29, e145_30, e145_60, e145_61, e145_64, e145_65, e145_66, e145_67, e145_68, e145_71, e145_72, e145_73, e145_74, e145_75, e145_78, e145_79, e145_80, e145_81, e145_82, e145_85, e145_86, e145_87, e145_88, e145_90, am_bd_some, Option.toList_some, Option.toList_none, List.cons_append, List.nil_append, am_w8_0, am_w8_1, am_w8_2, am_w8_3, am_w8_4, eq_self, or_true, true_or, am_kd_sI, am_kd_sL, am_kd_sR, am_tc_sI, am_tc_sL, am_tc_sR, am_len_sI, am_len_sL, am_len_sR, am_rfs, if_true, if_false, am_rdL_sI, am_rR_sL, am_rt_cq, am_kd_cq, am_tc_cq, am_len_cq, am_rd_sL, am_rd_sR, am_rdL_sR, f0, e0, not_true, w0, not_false_eq_true, kk]
      · by_cases k2' : k < 0
        · simp only [e145_0, e145_1, e145_2, e145_5, e145_6, e145_9, e145_10, e145_13, e145_14, e145_15, e145_18, e145_19, e145_20, e145_23, e145_26, e145_28, e145_29, e145_30, e145_60, e145_61, e145_64, e145_65, e145_66, e145_67, e145_68, e145_71, e145_72, e145_73, e145_74, e145_75, e145_78, e145_79, e145_80, e145_81, e145_82, e145_85, e145_86, e145_87, e145_88, e145_90, am_bd_some, Option.toList_some, Option.toList_none, List.cons_append, List.nil_append, am_w8_0, am_w8_1, am_w8_2, am_w8_3, am_w8_4, eq_self, or_true, true_or, am_kd_sI, am_kd_sL, am_kd_sR, am_tc_sI, am_tc_sL, am_tc_sR, am_len_sI, am_len_sL, am_len_sR, am_rfs, if_true, if_false, am_rdL_sI, am_rR_sL, am_rt_cq, am_kd_cq, am_tc_cq, am_len_cq, am_rd_sL, am_rd_sR, am_rdL_sR, f0, e0, k1', not_false_eq_true, k2']
        · have k3' : ¬ k < nI (L_n l) := fun q => c2 ⟨Int32.not_lt.mp k2', q⟩
          simp only [e145_0, e145_1, e145_2, e145_5, e145_6, e145_9, e145_10, e145_13, e145_14, e145_15, e145_18, e145_19, e145_20, e145_23, e145_26, e145_28, e145_29, e145_30, e145_60, e145_61, e145_64, e145_65, e145_66, e145_67, e145_68, e145_71, e145_72, e145_73, e145_74, e145_75, e145_78, e145_79, e145_80, e145_81, e145_82, e145_85, e145_86, e145_87, e145_88, e145_90, am_bd_some, Option.toList_some, Option.toList_none, List.cons_append, List.nil_append, am_w8_0, am_w8_1, am_w8_2, am_w8_3, am_w8_4, eq_self, or_true, true_or, am_kd_sI, am_kd_sL, am_kd_sR, am_tc_sI, am_tc_sL, am_tc_sR, am_len_sI, am_len_sL, am_len_sR, am_rfs, if_true, if_false, am_rdL_sI, am_rR_sL, am_rt_cq, am_kd_cq, am_tc_cq, am_len_cq, am_rd_sL, am_rd_sR, am_rdL_sR, f0, e0, k1', not_false_eq_true, k2', k3']
def q_faA (A : q_All) (a k w : Int32) : Int32 := if 0 ≤ a ∧ a < nI (A.2.1 3) then L_ans (A.2.2.2.2.2 a.toNatClampNeg) k w else -2
theorem den_cfact {A : q_All} {h : am_H} (H : q_Rel A h) (a k w : Int32) : ∃ h' : am_H, q_wk h h' ∧ am_den 144 [.ref 0, .int a, .int k, .int w] h = some (some (.int (q_faA A a k w)), h') := by
  have ok := H.1
  obtain ⟨c1, c2, c3⟩ := H.cnt 3 (by decide)
  have dh := den_has h ok 3 (by decide) (A.2.1 3) c1 c2 a
  rw [show nI 3 = 3 from rfl] at dh
  have y : ¬ (1 : Int32) = 0 := by decide
  refine ⟨h, q_wk.rf ok, ?_⟩
  show am_ev 144 0 [some (.ref 0), some (.int a), some (.int k), some (.int w)] [] h = _
  unfold q_faA
  by_cases ca : 0 ≤ a ∧ a < nI (A.2.1 3)
  · rw [if_pos ca] at dh ⊢
    obtain ⟨i, hi, rfl⟩ := q_in2 c1 ca
    obtain ⟨d1, d2, -⟩ := H.lg i hi
    obtain ⟨f, r⟩ := q_lo_now ok i (by omega)
    have z : (nI i).toNatClampNeg = i := nI_clamp (by omega)
    have x : am_ix (nI i) 2 = true := am_ix_nI (by omega) (by decide)
    have da := den_lans h (19 + 16 * i) _ f d1 d2 k w
    rw [z]
    simp only [e144_0, e144_1, e144_4, e144_5, e144_6, e144_9, e144_12, e144_13, e144_16, e144_19, e144_20f, e144_20d, e144_20b, e144_20l, e144_20t, e144_21, e144_22, e144_23, e144_26, e144_29, e144_31, am_bd_some, Option.toList_some, Option.toList_none, List.cons_append, List.nil_append, am_w8_0, am_w8_1, am_w8_2, am_w8_3, am_w8_4, eq_self, or_true, true_or, am_kd_sI, am_kd_sL, am_kd_sR, am_tc_sI, am_tc_sL, am_tc_sR, am_len_sI, am_len_sL, am_len_sR, am_rfs, if_true, if_false, am_rdL_sI, am_rR_sL, am_rt_cq, am_kd_cq, am_tc_cq, am_len_cq, am_rd_sL, am_rd_sR, am_rdL_sR, okK_0 ok, okR_0_0 ok, okK_1 ok, okR_1_8 ok, okT_7 ok, okL_7 ok, dh, y, x, z, r, f.1, da]
  · rw [if_neg ca] at dh ⊢
    simp only [e144_0, e144_1, e144_4, e144_5, e144_6, e144_9, e144_12, e144_13, e144_16, e144_19, e144_20f, e144_20d, e144_20b, e144_20l, e144_20t, e144_21, e144_22, e144_23, e144_26, e144_29, e144_31, am_bd_some, Option.toList_some, Option.toList_none, List.cons_append, List.nil_append, am_w8_0, am_w8_1, am_w8_2, am_w8_3, am_w8_4, eq_self, or_true, true_or, am_kd_sI, am_kd_sL, am_kd_sR, am_tc_sI, am_tc_sL, am_tc_sR, am_len_sI, am_len_sL, am_len_sR, am_rfs, if_true, if_false, am_rdL_sI, am_rR_sL, am_rt_cq, am_kd_cq, am_tc_cq, am_len_cq, am_rd_sL, am_rd_sR, am_rdL_sR, okK_0 ok, okR_0_0 ok, okK_1 ok, dh]
/-- a log in the reference's cells: which one, and its rows -/
def q_mL (h : am_H) (i : Nat) (l : q_Lg) : Prop := i < 2 ∧ h.1 211 49 = nI i ∧ L_mod (fun a k => h.1 (212 + a) k) (49 * i) l
theorem den_facts (h : am_H) (ok : am_okH h) (i : Nat) (l : q_Lg) (m : q_mL h i l) : am_den 258 [.ref 211] h = some (some (.int (nI (L_n l))), h) := by
  obtain ⟨hi, e, lm⟩ := m
  have m1 : (49 : Int32) * nI i = nI (49 * i) := pk_mul 49 i
  have x1 : am_ix (nI (49 * i)) 392 = true := am_ix_nI (by omega) (by decide)
  have z1 : (nI (49 * i)).toNatClampNeg = 49 * i := nI_clamp (by omega)
  have v : h.1 220 (49 * i) = nI (L_n l) := lm.1
  show am_ev 258 0 [some (.ref 211)] [] h = _
  simp only [e258_0, e258_1, e258_4, e258_6, e258_7, e258_10, e258_11, e258_12, am_bd_some, Option.toList_some, Option.toList_none, List.cons_append, List.nil_append, am_w8_0, am_w8_1, am_w8_2, am_w8_3, am_w8_4, eq_self, or_true, true_or, am_kd_sI, am_kd_sL, am_kd_sR, am_tc_sI, am_tc_sL, am_tc_sR, am_len_sI, am_len_sL, am_len_sR, am_rfs, if_true, if_false, am_rdL_sI, am_rR_sL, am_rt_cq, am_kd_cq, am_tc_cq, am_len_cq, am_rd_sL, am_rd_sR, am_rdL_sR, okK_211 ok, okR_211_9 ok, okT_220 ok, okL_220 ok, e, m1, x1, z1, v]
theorem den_factOf (h : am_H) (ok : am_okH h) (i : Nat) (l : q_Lg) (lk : L_ok l) (m : q_mL h i l) (k w : Nat) (hk : k < L_n l) (hw : w < 6) : am_den 259 [.ref 211, .int (nI k), .int (nI w)] h = some (some (.int (h.1 220 (49 * i + (1 + w) + 6 * k))), h) := by
  obtain ⟨hi, e, lm⟩ := m
  have n8 := lk.1
  have m1 : (49 : Int32) * nI i = nI (49 * i) := pk_mul 49 i
  have m2 : (6 : Int32) * nI k = nI (6 * k) := pk_mul 6 k
  have s1 : nI (49 * i) + 1 = nI (49 * i + 1) := nI_1 _
  have s2 : nI (49 * i + 1 + 6 * k + w) = nI (49 * i + (1 + w) + 6 * k) := by congr 1; omega
  have x1 : am_ix (nI (49 * i + (1 + w) + 6 * k)) 392 = true := am_ix_nI (by omega) (by decide)
  have z1 : (nI (49 * i + (1 + w) + 6 * k)).toNatClampNeg = 49 * i + (1 + w) + 6 * k := nI_clamp (by omega)
  show am_ev 259 0 [some (.ref 211), some (.int (nI k)), some (.int (nI w))] [] h = _
  simp only [e259_0, e259_1, e259_4, e259_6, e259_7, e259_10, e259_11, e259_12, e259_13, e259_15, e259_16, e259_17, e259_18, e259_19, e259_20, e259_21, am_bd_some, Option.toList_some, Option.toList_none, List.cons_append, List.nil_append, am_w8_0, am_w8_1, am_w8_2, am_w8_3, am_w8_4, eq_self, or_true, true_or, am_kd_sI, am_kd_sL, am_kd_sR, am_tc_sI, am_tc_sL, am_tc_sR, am_len_sI, am_len_sL, am_len_sR, am_rfs, if_true, if_false, am_rdL_sI, am_rR_sL, am_rt_cq, am_kd_cq, am_tc_cq, am_len_cq, am_rd_sL, am_rd_sR, am_rdL_sR, okK_211 ok, okR_211_9 ok, okT_220 ok, okL_220 ok, e, m1, m2, s1, nI_add, s2, x1, z1]
