/-! part 39: parted of the reference, the pair -/
/-- the book that is asked -/
def q_mbk (h : am_H) (i0 : Nat) (b : q_Bk) : Prop := am_okH h ∧ i0 < 2 ∧ B_ok b ∧ h.1 211 45 = nI i0 ∧ B_mod (fun a k => h.1 (212 + a) k) (39 * i0) b
theorem q_mbk.fr {h h' : am_H} {i0 : Nat} {b : q_Bk} (m : q_mbk h i0 b) {c : Nat} (f : q_fr c h h') (hc : c ≠ 219 ∧ c ≠ 211) : q_mbk h' i0 b := ⟨f.ok m.1, m.2.1, m.2.2.1, by rw [f.2 _ _ (by omega)]; exact m.2.2.2.1, f.bm m.2.2.2.2 m.2.2.1 hc.1⟩
theorem den_partBy (h : am_H) (i0 : Nat) (b : q_Bk) (m : q_mbk h i0 b) (p a c : Nat) (hp : p < 5) (hac : a ≤ c) (hc : c ≤ B_f b) (rows : q_rw 232 b (p + 1) h) : am_den 255 [.ref 211, .int (nI (p + 2)), .int (nI a), .int (nI c)] h = some (some (.int (nI (min (q_sm (B_field b) a (c - a)) (q_pt b p c)))), h) := by
  obtain ⟨ok, hi0, bk, e, mb⟩ := m
  have n3 : B_f b ≤ 10 := bk.2.2.1
  have ds := den_sumOf h ok i0 hi0 b bk e mb a c hac hc
  have s1 : nI (p + 2) - 1 = nI (p + 1) := pk_sub (b := 1) (by omega)
  have s2 : (11 : Int32) * nI (p + 1) = nI (11 * (p + 1)) := pk_mul 11 (p + 1)
  have x1 : am_ix (nI (11 * (p + 1) + c)) 66 = true := am_ix_nI (by omega) (by decide)
  have z1 : (nI (11 * (p + 1) + c)).toNatClampNeg = 11 * (p + 1) + c := nI_clamp (by omega)
  have v1 := rows p (by omega) c (by omega)
  have b1 := q_sm_b b bk a (c - a) (by omega)
  have b2 := q_pt_b b bk p c (by omega)
  have mn := q_imin2 (a := q_sm (B_field b) a (c - a)) (b := q_pt b p c) (by omega) (by omega)
  show am_ev 255 0 [some (.ref 211), some (.int (nI (p + 2))), some (.int (nI a)), some (.int (nI c))] [] h = _
  simp only [e255_0, e255_1, e255_2, e255_3, e255_6, e255_7, e255_10, e255_12, e255_13, e255_14, e255_15, e255_16, e255_17, e255_18, e255_19, e255_22, am_bd_some, Option.toList_some, Option.toList_none, List.cons_append, List.nil_append, am_w8_0, am_w8_1, am_w8_2, am_w8_3, am_w8_4, eq_self, or_true, true_or, am_kd_sI, am_kd_sL, am_kd_sR, am_tc_sI, am_tc_sL, am_tc_sR, am_len_sI, am_len_sL, am_len_sR, am_rfs, if_true, if_false, am_rdL_sI, am_rR_sL, am_rt_cq, am_kd_cq, am_tc_cq, am_len_cq, am_rd_sL, am_rd_sR, am_rdL_sR, okK_211 ok, okR_211_48 ok, okT_232 ok, okL_232 ok, ds, s1, s2, nI_add, x1, z1, v1, den_lesser, mn]
theorem q_fp_c (h : am_H) (i0 : Nat) (b : q_Bk) (m : q_mbk h i0 b) (N : Int32) (p a : Nat) (hp : p < 5) (rows : q_rw 232 b (p + 1) h) : ∀ (r c acc : Nat), c + r = B_f b + 1 → a ≤ c → acc ≤ 990 → am_ev 253 44 [some (.ref 211), some (.int N), some (.int (nI (B_f b))), some (.int (nI (p + 2))), some (.int (nI a)), some (.int (nI acc)), some (.int (nI c))] [] h = am_ev 253 77 [some (.ref 211), some (.int N), some (.int (nI (B_f b))), some (.int (nI (p + 2))), some (.int (nI a)), some (.int (nI (q_fm (fun cut => min (q_sm (B_field b) a (cut - a)) (q_pt b p cut)) r c acc))), some (.int (nI (B_f b + 1)))] [] h := by
  have n3 : B_f b ≤ 10 := m.2.2.1.2.2.1
  have ok := m.1
  intro r
  induction r with
  | zero =>
    intro c acc hc hac hacc
    have h1 : nI (B_f b) < nI c := nI_lt (by omega) (by omega)
    rw [e253_44]
    simp only [e253_0, e253_1, e253_2, e253_5, e253_6, e253_7, e253_8, e253_9, e253_10, e253_13, e253_14, e253_16, e253_18, e253_19, e253_22, e253_23, e253_24, e253_27, e253_28, e253_30, e253_31, e253_34, e253_37, e253_38, e253_40, e253_42, e253_46, e253_47, e253_50, e253_51, e253_52, e253_55, e253_57, e253_58, e253_59, e253_61, e253_63, e253_66, e253_69, e253_71, e253_74, e253_78, e253_81, e253_83, e253_84, e253_85, e253_87, e253_88, e253_90, e253_91, e253_94, e253_97, e253_100, e253_103, am_bd_some, Option.toList_some, Option.toList_none, List.cons_append, List.nil_append, am_w8_0, am_w8_1, am_w8_2, am_w8_3, am_w8_4, eq_self, or_true, true_or, am_kd_sI, am_kd_sL, am_kd_sR, am_tc_sI, am_tc_sL, am_tc_sR, am_len_sI, am_len_sL, am_len_sR, am_rfs, if_true, if_false, am_rdL_sI, am_rR_sL, am_rt_cq, am_kd_cq, am_tc_cq, am_len_cq, am_rd_sL, am_rd_sR, am_rdL_sR, h1, q_fm]
    rw [show c = B_f b + 1 by omega]
  | succ r ih =>
    intro c acc hc hac hacc
    have h1 : ¬ nI (B_f b) < nI c := nI_nlt (by omega) (by omega)
    have h2 : ¬ nI (p + 2) ≤ 1 := fun q => by
      have := (nI_leI (b := 1) (by omega) (by decide)).mp q
      omega
    have dp := den_partBy h i0 b m p a c hp hac (by omega) rows
    have b1 := q_sm_b b m.2.2.1 a (c - a) (by omega)
    have mx := q_imax2 (a := acc) (b := min (q_sm (B_field b) a (c - a)) (q_pt b p c)) (by omega) (by omega)
    rw [e253_44]
    simp only [e253_0, e253_1, e253_2, e253_5, e253_6, e253_7, e253_8, e253_9, e253_10, e253_13, e253_14, e253_16, e253_18, e253_19, e253_22, e253_23, e253_24, e253_27, e253_28, e253_30, e253_31, e253_34, e253_37, e253_38, e253_40, e253_42, e253_46, e253_47, e253_50, e253_51, e253_52, e253_55, e253_57, e253_58, e253_59, e253_61, e253_63, e253_66, e253_69, e253_71, e253_74, e253_78, e253_81, e253_83, e253_84, e253_85, e253_87, e253_88, e253_90, e253_91, e253_94, e253_97, e253_100, e253_103, am_bd_some, Option.toList_some, Option.toList_none, List.cons_append, List.nil_append, am_w8_0, am_w8_1, am_w8_2, am_w8_3, am_w8_4, eq_self, or_true, true_or, am_kd_sI, am_kd_sL, am_kd_sR, am_tc_sI, am_tc_sL, am_tc_sR, am_len_sI, am_len_sL, am_len_sR, am_rfs, if_true, if_false, am_rdL_sI, am_rR_sL, am_rt_cq, am_kd_cq, am_tc_cq, am_len_cq, am_rd_sL, am_rd_sR, am_rdL_sR, okK_211 ok, h1, h2, dp, den_greater, mx, nI_1]
    rw [ih (c + 1) _ (by omega) (by omega) (by omega)]
    rfl
theorem q_fp_i (i0 : Nat) (b : q_Bk) (N : Int32) (p : Nat) (hp : p < 5) : ∀ (r i : Nat) (h : am_H) (z5 z6 : Option Value), i + r = B_f b + 1 → q_mbk h i0 b → q_rw 232 b p h → (∀ j, j < i → h.1 232 (11 * (p + 1) + j) = nI (q_pt b p j)) → ∃ (h' : am_H) (z5' z6' : Option Value), q_fr 232 h h' ∧ q_rw 232 b (p + 1) h' ∧ am_ev 253 16 [some (.ref 211), some (.int N), some (.int (nI (B_f b))), some (.int (nI (p + 1))), some (.int (nI i)), z5, z6] [] h = am_ev 253 8 [some (.ref 211), some (.int N), some (.int (nI (B_f b))), some (.int (nI (p + 2))), some (.int (nI (B_f b + 1))), z5', z6'] [] h' := by
  intro r
  induction r with
  | zero =>
    intro i h z5 z6 hi m rows cur
    have n3 : B_f b ≤ 10 := m.2.2.1.2.2.1
    have h1 : nI (B_f b) < nI i := nI_lt (by omega) (by omega)
    obtain rfl : i = B_f b + 1 := by omega
    refine ⟨h, z5, z6, q_fr.rf _ _, fun p' hp' j hj => ?_, ?_⟩
    · by_cases c : p' = p
      · subst c
        exact cur j (by omega)
      · exact rows p' (by omega) j hj
    · rw [e253_16]
      simp only [e253_0, e253_1, e253_2, e253_5, e253_6, e253_7, e253_9, e253_10, e253_13, e253_14, e253_18, e253_19, e253_22, e253_23, e253_24, e253_27, e253_28, e253_30, e253_31, e253_34, e253_37, e253_38, e253_40, e253_42, e253_44, e253_46, e253_47, e253_50, e253_51, e253_52, e253_55, e253_57, e253_58, e253_59, e253_61, e253_63, e253_66, e253_69, e253_71, e253_74, e253_77, e253_78, e253_81, e253_83, e253_84, e253_85, e253_87, e253_88, e253_90, e253_91, e253_94, e253_97, e253_100, e253_103, am_bd_some, Option.toList_some, Option.toList_none, List.cons_append, List.nil_append, am_w8_0, am_w8_1, am_w8_2, am_w8_3, am_w8_4, eq_self, or_true, true_or, am_kd_sI, am_kd_sL, am_kd_sR, am_tc_sI, am_tc_sL, am_tc_sR, am_len_sI, am_len_sL, am_len_sR, am_rfs, if_true, if_false, am_rdL_sI, am_rR_sL, am_rt_cq, am_kd_cq, am_tc_cq, am_len_cq, am_rd_sL, am_rd_sR, am_rdL_sR, h1, nI_1]
  | succ r ih =>
    intro i h z5 z6 hi m rows cur
    have ok := m.1
    have bk := m.2.2.1
    have n3 : B_f b ≤ 10 := bk.2.2.1
    have h1 : ¬ nI (B_f b) < nI i := nI_nlt (by omega) (by omega)
    have s2 : (11 : Int32) * nI (p + 1) = nI (11 * (p + 1)) := pk_mul 11 (p + 1)
    have x1 : am_ix (nI (11 * (p + 1) + i)) 66 = true := am_ix_nI (by omega) (by decide)
    have z1 : (nI (11 * (p + 1) + i)).toNatClampNeg = 11 * (p + 1) + i := nI_clamp (by omega)
    have fr := q_fr.s 232 (11 * (p + 1) + i) (nI (q_pt b p i)) h
    have go : ∃ z5' z6' : Option Value, am_ev 253 16 [some (.ref 211), some (.int N), some (.int (nI (B_f b))), some (.int (nI (p + 1))), some (.int (nI i)), z5, z6] [] h = am_ev 253 16 [some (.ref 211), some (.int N), some (.int (nI (B_f b))), some (.int (nI (p + 1))), some (.int (nI (i + 1))), z5', z6'] [] (am_sI h 232 (11 * (p + 1) + i) (nI (q_pt b p i))) := by
      cases p with
      | zero =>
        have ds := den_sumOf h ok i0 m.2.1 b bk m.2.2.2.1 m.2.2.2.2 i (B_f b) (by omega) (Nat.le_refl _)
        have q1 : nI (0 + 1) = 1 := rfl
        have q2 : (1 : Int32) ≤ 1 := by decide
        have y : (11 : Int32) * 1 = nI (11 * (0 + 1)) := rfl
        have s : q_pt b 0 i = q_sm (B_field b) i (B_f b - i) := rfl
        refine ⟨some (.int (nI (q_pt b 0 i))), some (.int (nI i)), ?_⟩
        rw [e253_16]
        simp only [e253_0, e253_1, e253_2, e253_5, e253_6, e253_7, e253_8, e253_9, e253_10, e253_13, e253_14, e253_18, e253_19, e253_22, e253_23, e253_24, e253_27, e253_28, e253_30, e253_31, e253_34, e253_37, e253_38, e253_40, e253_42, e253_44, e253_46, e253_47, e253_50, e253_51, e253_52, e253_55, e253_57, e253_58, e253_59, e253_61, e253_63, e253_66, e253_69, e253_71, e253_74, e253_77, e253_78, e253_81, e253_83, e253_84, e253_85, e253_87, e253_88, e253_90, e253_91, e253_94, e253_97, e253_100, e253_103, am_bd_some, Option.toList_some, Option.toList_none, List.cons_append, List.nil_append, am_w8_0, am_w8_1, am_w8_2, am_w8_3, am_w8_4, eq_self, or_true, true_or, am_kd_sI, am_kd_sL, am_kd_sR, am_tc_sI, am_tc_sL, am_tc_sR, am_len_sI, am_len_sL, am_len_sR, am_rfs, if_true, if_false, am_rdL_sI, am_rR_sL, am_rt_cq, am_kd_cq, am_tc_cq, am_len_cq, am_rd_sL, am_rd_sR, am_rdL_sR, okK_211 ok, okR_211_48 ok, okT_232 ok, okL_232 ok, h1, q1, not_true, ds, q2, y, nI_add, x1, z1, nI_1, s]
      | succ p =>
        have q1 : ¬ nI (p + 1 + 1) = 1 := fun q => by
          have := (nI_eq (b := 1) (by omega) (by decide)).mp q
          omega
        have lp := q_fp_c h i0 b m N p i (by omega) rows (B_f b + 1 - i) i 0 (by omega) (Nat.le_refl _) (Nat.zero_le _)
        have s : q_pt b (p + 1) i = q_fm (fun cut => min (q_sm (B_field b) i (cut - i)) (q_pt b p cut)) (B_f b + 1 - i) i 0 := rfl
        rw [← s, nI_0] at lp
        refine ⟨some (.int (nI (q_pt b (p + 1) i))), some (.int (nI (B_f b + 1))), ?_⟩
        rw [e253_16]
        simp only [e253_0, e253_1, e253_2, e253_5, e253_6, e253_7, e253_8, e253_9, e253_10, e253_13, e253_14, e253_18, e253_19, e253_22, e253_23, e253_24, e253_27, e253_28, e253_30, e253_31, e253_34, e253_37, e253_38, e253_40, e253_42, e253_46, e253_47, e253_50, e253_51, e253_52, e253_55, e253_57, e253_58, e253_59, e253_61, e253_63, e253_66, e253_69, e253_71, e253_74, e253_77, e253_78, e253_81, e253_83, e253_84, e253_85, e253_87, e253_88, e253_90, e253_91, e253_94, e253_97, e253_100, e253_103, am_bd_some, Option.toList_some, Option.toList_none, List.cons_append, List.nil_append, am_w8_0, am_w8_1, am_w8_2, am_w8_3, am_w8_4, eq_self, or_true, true_or, am_kd_sI, am_kd_sL, am_kd_sR, am_tc_sI, am_tc_sL, am_tc_sR, am_len_sI, am_len_sL, am_len_sR, am_rfs, if_true, if_false, am_rdL_sI, am_rR_sL, am_rt_cq, am_kd_cq, am_tc_cq, am_len_cq, am_rd_sL, am_rd_sR, am_rdL_sR, okK_211 ok, h1, q1, not_false_eq_true]
        rw [lp]
        simp only [e253_0, e253_1, e253_2, e253_5, e253_6, e253_7, e253_8, e253_9, e253_10, e253_13, e253_14, e253_18, e253_19, e253_22, e253_23, e253_24, e253_27, e253_28, e253_30, e253_31, e253_34, e253_37, e253_38, e253_40, e253_42, e253_46, e253_47, e253_50, e253_51, e253_52, e253_55, e253_57, e253_58, e253_59, e253_61, e253_63, e253_66, e253_69, e253_71, e253_74, e253_77, e253_78, e253_81, e253_83, e253_84, e253_85, e253_87, e253_88, e253_90, e253_91, e253_94, e253_97, e253_100, e253_103, am_bd_some, Option.toList_some, Option.toList_none, List.cons_append, List.nil_append, am_w8_0, am_w8_1, am_w8_2, am_w8_3, am_w8_4, eq_self, or_true, true_or, am_kd_sI, am_kd_sL, am_kd_sR, am_tc_sI, am_tc_sL, am_tc_sR, am_len_sI, am_len_sL, am_len_sR, am_rfs, if_true, if_false, am_rdL_sI, am_rR_sL, am_rt_cq, am_kd_cq, am_tc_cq, am_len_cq, am_rd_sL, am_rd_sR, am_rdL_sR, okK_211 ok, okR_211_48 ok, okT_232 ok, okL_232 ok, s2, nI_add, x1, z1, nI_1]
    obtain ⟨a5, a6, go⟩ := go
    obtain ⟨h', b5, b6, f1, f2, f3⟩ := ih (i + 1) (am_sI h 232 (11 * (p + 1) + i) (nI (q_pt b p i))) a5 a6 (by omega) (m.fr fr (by decide)) (fun p' hp' j hj => by
      rw [am_rd_sI, if_neg (by omega)]
      exact rows p' hp' j hj) (fun j hj => by
      rw [am_rd_sI]
      by_cases c : j = i
      · rw [if_pos ⟨rfl, by omega⟩, c]
      · rw [if_neg (by omega)]
        exact cur j (by omega))
    exact ⟨h', b5, b6, fr.tr f1, f2, go.trans f3⟩
theorem q_fp_o (i0 : Nat) (b : q_Bk) (n : Nat) (hn : n ≤ 5) : ∀ (r p : Nat) (h : am_H) (z4 z5 z6 : Option Value), p + r = n → q_mbk h i0 b → q_rw 232 b p h → ∃ h' : am_H, q_fr 232 h h' ∧ q_rw 232 b n h' ∧ am_ev 253 8 [some (.ref 211), some (.int (nI n)), some (.int (nI (B_f b))), some (.int (nI (p + 1))), z4, z5, z6] [] h = some (none, h') := by
  intro r
  induction r with
  | zero =>
    intro p h z4 z5 z6 hp m rows
    obtain rfl : p = n := by omega
    have h1 : nI p < nI (p + 1) := nI_lt (by omega) (by omega)
    refine ⟨h, q_fr.rf _ _, rows, ?_⟩
    rw [e253_8]
    simp only [e253_0, e253_1, e253_2, e253_5, e253_6, e253_7, e253_9, e253_10, e253_13, e253_14, e253_16, e253_18, e253_19, e253_22, e253_23, e253_24, e253_27, e253_28, e253_30, e253_31, e253_34, e253_37, e253_38, e253_40, e253_42, e253_44, e253_46, e253_47, e253_50, e253_51, e253_52, e253_55, e253_57, e253_58, e253_59, e253_61, e253_63, e253_66, e253_69, e253_71, e253_74, e253_77, e253_78, e253_81, e253_83, e253_84, e253_85, e253_87, e253_88, e253_90, e253_91, e253_94, e253_97, e253_100, e253_103, am_bd_some, Option.toList_some, Option.toList_none, List.cons_append, List.nil_append, am_w8_0, am_w8_1, am_w8_2, am_w8_3, am_w8_4, eq_self, or_true, true_or, am_kd_sI, am_kd_sL, am_kd_sR, am_tc_sI, am_tc_sL, am_tc_sR, am_len_sI, am_len_sL, am_len_sR, am_rfs, if_true, if_false, am_rdL_sI, am_rR_sL, am_rt_cq, am_kd_cq, am_tc_cq, am_len_cq, am_rd_sL, am_rd_sR, am_rdL_sR, h1]
  | succ r ih =>
    intro p h z4 z5 z6 hp m rows
    have h1 : ¬ nI n < nI (p + 1) := nI_nlt (by omega) (by omega)
    obtain ⟨h', b5, b6, f1, f2, f3⟩ := q_fp_i i0 b (nI n) p (by omega) (B_f b + 1) 0 h z5 z6 (by omega) m rows (fun j hj => absurd hj (Nat.not_lt_zero _))
    obtain ⟨h'', g1, g2, g3⟩ := ih (p + 1) h' (some (.int (nI (B_f b + 1)))) b5 b6 (by omega) (m.fr f1 (by decide)) f2
    refine ⟨h'', f1.tr g1, g2, ?_⟩
    rw [e253_8]
    simp only [e253_0, e253_1, e253_2, e253_5, e253_6, e253_7, e253_9, e253_10, e253_13, e253_14, e253_18, e253_19, e253_22, e253_23, e253_24, e253_27, e253_28, e253_30, e253_31, e253_34, e253_37, e253_38, e253_40, e253_42, e253_44, e253_46, e253_47, e253_50, e253_51, e253_52, e253_55, e253_57, e253_58, e253_59, e253_61, e253_63, e253_66, e253_69, e253_71, e253_74, e253_77, e253_78, e253_81, e253_83, e253_84, e253_85, e253_87, e253_88, e253_90, e253_91, e253_94, e253_97, e253_100, e253_103, am_bd_some, Option.toList_some, Option.toList_none, List.cons_append, List.nil_append, am_w8_0, am_w8_1, am_w8_2, am_w8_3, am_w8_4, eq_self, or_true, true_or, am_kd_sI, am_kd_sL, am_kd_sR, am_tc_sI, am_tc_sL, am_tc_sR, am_len_sI, am_len_sL, am_len_sR, am_rfs, if_true, if_false, am_rdL_sI, am_rR_sL, am_rt_cq, am_kd_cq, am_tc_cq, am_len_cq, am_rd_sL, am_rd_sR, am_rdL_sR, h1]
    rw [nI_0] at f3
    rw [f3]
    exact g3
theorem q_wh_l (h : am_H) (i0 : Nat) (b : q_Bk) (m : q_mbk h i0 b) (d K : Int32) (n w i q a : Nat) (hn : n ≤ 5) (hi : i + 2 ≤ n) (hq : q = n - 2 - i) (hw : w ≤ 990) (rows : q_rw 232 b n h) : ∀ (r c : Nat), c + r = B_f b + 1 → a ≤ c → (∃ k, c ≤ k ∧ k < c + r ∧ q_okc b q a w k) → am_ev 252 67 [some (.ref 211), some (.int d), some (.int (nI n)), some (.int K), some (.int (nI w)), some (.int (nI c)), some (.int (nI i)), some (.int (nI a))] [] h = am_ev 252 57 [some (.ref 211), some (.int d), some (.int (nI n)), some (.int K), some (.int (nI w)), some (.int (nI (q_nc b q a w r c))), some (.int (nI (i + 1))), some (.int (nI a))] [] h := by
  have ok := m.1
  have bk := m.2.2.1
  have n3 : B_f b ≤ 10 := bk.2.2.1
  intro r
  induction r with
  | zero => intro c hc hac ⟨k, h1, h2, _⟩; omega
  | succ r ih =>
    intro c hc hac hex
    have s1 : nI n - nI i = nI (q + 2) := by rw [pk_sub (by omega)]; congr 1; omega
    have dp := den_partBy h i0 b m q a c (by omega) hac (by omega) (fun p hp => rows p (by omega))
    have b1 := q_sm_b b bk a (c - a) (by omega)
    have t1 : nI w ≤ nI (min (q_sm (B_field b) a (c - a)) (q_pt b q c)) ↔ w ≤ min (q_sm (B_field b) a (c - a)) (q_pt b q c) := nI_leI (by omega) (by omega)
    rw [e252_67]
    by_cases mm : q_okc b q a w c
    · have t2 : w ≤ min (q_sm (B_field b) a (c - a)) (q_pt b q c) := by
        have := mm.1
        have := mm.2
        omega
      simp only [e252_0, e252_1, e252_2, e252_5, e252_6, e252_7, e252_8, e252_11, e252_14, e252_15, e252_16, e252_19, e252_22, e252_23, e252_24, e252_25, e252_26, e252_27, e252_30, e252_33, e252_34, e252_35, e252_36, e252_37, e252_40, e252_41, e252_44, e252_46, e252_47, e252_48, e252_49, e252_51, e252_52, e252_54, e252_55, e252_59, e252_60, e252_63, e252_65, e252_68, e252_69, e252_71, e252_72, e252_74, e252_76, e252_79, e252_81, e252_84, e252_87, e252_90, e252_93, e252_96, e252_97, e252_98, e252_101, e252_103, e252_106, e252_108, am_bd_some, Option.toList_some, Option.toList_none, List.cons_append, List.nil_append, am_w8_0, am_w8_1, am_w8_2, am_w8_3, am_w8_4, eq_self, or_true, true_or, am_kd_sI, am_kd_sL, am_kd_sR, am_tc_sI, am_tc_sL, am_tc_sR, am_len_sI, am_len_sL, am_len_sR, am_rfs, if_true, if_false, am_rdL_sI, am_rR_sL, am_rt_cq, am_kd_cq, am_tc_cq, am_len_cq, am_rd_sL, am_rd_sR, am_rdL_sR, okK_211 ok, s1, dp, t1, t2, nI_1, q_nc_p mm]
    · have t2 : ¬ w ≤ min (q_sm (B_field b) a (c - a)) (q_pt b q c) := fun q2 => mm ⟨by omega, by omega⟩
      simp only [e252_0, e252_1, e252_2, e252_5, e252_6, e252_7, e252_8, e252_11, e252_14, e252_15, e252_16, e252_19, e252_22, e252_23, e252_24, e252_25, e252_26, e252_27, e252_30, e252_33, e252_34, e252_35, e252_36, e252_37, e252_40, e252_41, e252_44, e252_46, e252_47, e252_48, e252_49, e252_51, e252_52, e252_54, e252_55, e252_59, e252_60, e252_63, e252_65, e252_68, e252_69, e252_71, e252_72, e252_74, e252_76, e252_79, e252_81, e252_84, e252_87, e252_90, e252_93, e252_96, e252_97, e252_98, e252_101, e252_103, e252_106, e252_108, am_bd_some, Option.toList_some, Option.toList_none, List.cons_append, List.nil_append, am_w8_0, am_w8_1, am_w8_2, am_w8_3, am_w8_4, eq_self, or_true, true_or, am_kd_sI, am_kd_sL, am_kd_sR, am_tc_sI, am_tc_sL, am_tc_sR, am_len_sI, am_len_sL, am_len_sR, am_rfs, if_true, if_false, am_rdL_sI, am_rR_sL, am_rt_cq, am_kd_cq, am_tc_cq, am_len_cq, am_rd_sL, am_rd_sR, am_rdL_sR, okK_211 ok, s1, dp, t1, t2, nI_1, q_nc_n mm]
      obtain ⟨k, k1, k2, k3⟩ := hex
      have : k ≠ c := fun e => mm (e ▸ k3)
      exact ih (c + 1) (by omega) (by omega) ⟨k, by omega, by omega, k3⟩
theorem q_ct_m (h : am_H) (i0 : Nat) (b : q_Bk) (m : q_mbk h i0 b) (d : Int32) (n w k : Nat) (hn : n ≤ 5) (hk : k + 2 ≤ n) (hw : w ≤ 990) (rows : q_rw 232 b n h) : ∀ (r i cut : Nat) (z : Option Value), i + r = k + 1 → cut ≤ B_f b → w ≤ q_pt b (n - 1 - i) cut → am_ev 252 57 [some (.ref 211), some (.int d), some (.int (nI n)), some (.int (nI k)), some (.int (nI w)), some (.int (nI cut)), some (.int (nI i)), z] [] h = some (some (.int (nI (q_ct b n w r i cut))), h) := by
  have n3 : B_f b ≤ 10 := m.2.2.1.2.2.1
  have nk : ¬ nI k = -1 := fun q => by
    have := nI_pos' (n := k) (by omega)
    rw [q] at this
    exact absurd this (by decide)
  intro r
  induction r with
  | zero =>
    intro i cut z hi hc hw2
    have h1 : nI k < nI i := nI_lt (by omega) (by omega)
    rw [e252_57]
    simp only [e252_0, e252_1, e252_2, e252_5, e252_6, e252_7, e252_8, e252_11, e252_14, e252_15, e252_16, e252_19, e252_22, e252_23, e252_24, e252_25, e252_26, e252_27, e252_30, e252_33, e252_34, e252_35, e252_36, e252_37, e252_40, e252_41, e252_44, e252_46, e252_47, e252_48, e252_49, e252_51, e252_52, e252_54, e252_55, e252_59, e252_60, e252_63, e252_65, e252_68, e252_69, e252_71, e252_72, e252_74, e252_76, e252_79, e252_81, e252_84, e252_87, e252_90, e252_93, e252_96, e252_97, e252_98, e252_101, e252_103, e252_106, e252_108, am_bd_some, Option.toList_some, Option.toList_none, List.cons_append, List.nil_append, am_w8_0, am_w8_1, am_w8_2, am_w8_3, am_w8_4, eq_self, or_true, true_or, am_kd_sI, am_kd_sL, am_kd_sR, am_tc_sI, am_tc_sL, am_tc_sR, am_len_sI, am_len_sL, am_len_sR, am_rfs, if_true, if_false, am_rdL_sI, am_rR_sL, am_rt_cq, am_kd_cq, am_tc_cq, am_len_cq, am_rd_sL, am_rd_sR, am_rdL_sR, h1, nk, not_false_eq_true, q_ct]
  | succ r ih =>
    intro i cut z hi hc hw2
    have h1 : ¬ nI k < nI i := nI_nlt (by omega) (by omega)
    have ex := q_cut_ex (b := b) (q := n - 2 - i) (w := w) hc (by rw [show n - 2 - i + 1 = n - 1 - i by omega]; exact hw2)
    obtain ⟨q1, q2, q3⟩ := q_nc_ex (B_f b + 1 - cut) cut ex
    have lp := q_wh_l h i0 b m d (nI k) n w i (n - 2 - i) cut hn (by omega) rfl hw rows (B_f b + 1 - cut) cut (by omega) (Nat.le_refl _) ex
    rw [e252_57]
    simp only [e252_0, e252_1, e252_2, e252_5, e252_6, e252_7, e252_8, e252_11, e252_14, e252_15, e252_16, e252_19, e252_22, e252_23, e252_24, e252_25, e252_26, e252_27, e252_30, e252_33, e252_34, e252_35, e252_36, e252_37, e252_40, e252_41, e252_44, e252_46, e252_47, e252_48, e252_49, e252_51, e252_52, e252_54, e252_55, e252_59, e252_60, e252_63, e252_65, e252_68, e252_69, e252_71, e252_72, e252_74, e252_76, e252_79, e252_81, e252_84, e252_87, e252_90, e252_93, e252_96, e252_97, e252_98, e252_101, e252_103, e252_106, e252_108, am_bd_some, Option.toList_some, Option.toList_none, List.cons_append, List.nil_append, am_w8_0, am_w8_1, am_w8_2, am_w8_3, am_w8_4, eq_self, or_true, true_or, am_kd_sI, am_kd_sL, am_kd_sR, am_tc_sI, am_tc_sL, am_tc_sR, am_len_sI, am_len_sL, am_len_sR, am_rfs, if_true, if_false, am_rdL_sI, am_rR_sL, am_rt_cq, am_kd_cq, am_tc_cq, am_len_cq, am_rd_sL, am_rd_sR, am_rdL_sR, h1]
    rw [lp]
    exact ih (i + 1) _ _ (by omega) (by omega) (by rw [show n - 1 - (i + 1) = n - 2 - i by omega]; exact q3.2)
theorem q_wk2 {h h' : am_H} (w : q_wk h h') {c : Nat} {h'' : am_H} (f : q_fr c h' h'') (hc : ∀ k, ¬ q_told c k) : q_wk h h'' := w.tr (f.wk w.1 hc)
theorem q_nt232 (k : Nat) : ¬ q_told 232 k := by unfold q_told; omega
theorem q_nt210 (k : Nat) : ¬ q_told 210 k := by unfold q_told; omega
theorem den_mparted {A : q_All} {h : am_H} (ok : am_okH h) (h0 : h.1 211 0 = 0) (c1 : A.2.1 2 ≤ 2) (c3 : h.1 216 2 = nI (A.2.1 2)) (bk : ∀ i, i < A.2.1 2 → B_ok (A.2.2.2.2.1 i) ∧ B_mod (fun a k => h.1 (212 + a) k) (39 * i) (A.2.2.2.2.1 i)) (d n k : Int32) : ∃ h' : am_H, q_wk h h' ∧ am_den 252 [.ref 211, .int d, .int n, .int k] h = some (some (.int (q_prQ A d n k)), h') := by
  have dh := den_hasBook h ok (A.2.1 2) c1 c3 d
  have y1 : (1 : Int32) = 0 ↔ False := by decide
  show ∃ h', _ ∧ am_ev 252 0 [some (.ref 211), some (.int d), some (.int n), some (.int k), none, none, none, none] [] h = _
  unfold q_prQ
  by_cases cn : 1 ≤ n ∧ n ≤ 5
  · by_cases c : 0 ≤ d ∧ d < nI (A.2.1 2)
    · obtain ⟨i, hi, rfl⟩ := q_in2 c1 c
      obtain ⟨b1, b2⟩ := bk i hi
      have z : (nI i).toNatClampNeg = i := nI_clamp (by omega)
      rw [if_pos c] at dh ⊢
      rw [z]
      have w1 := q_wk1 ok 45 (by decide) (nI i)
      have okd : am_okH (am_sI h 211 45 (nI i)) := ok
      by_cases ck : -1 ≤ k ∧ k ≤ n - 2
      · rw [q_prB_p ⟨cn, ck⟩]
        obtain ⟨n', n1, n2, rfl⟩ := q_m_nat (F := 5) (by decide) cn
        have zn : (nI n').toNatClampNeg = n' := nI_clamp (by omega)
        rw [zn]
        have m : q_mbk (am_sI h 211 45 (nI i)) i (A.2.2.2.2.1 i) := ⟨okd, by omega, b1, rfl, b2⟩
        have f2 := den_ofBook (am_sI h 211 45 (nI i)) okd i 2 (by omega) (by decide) rfl
        have g2 : (am_sI h 211 45 (nI i)).1 219 (39 * i + 2) = nI (B_f (A.2.2.2.2.1 i)) := b2.2.2.1
        rw [g2, show nI 2 = 2 from rfl] at f2
        obtain ⟨h', p1, p2, p3⟩ := q_fp_o i (A.2.2.2.2.1 i) n' n2 n' 0 (am_sI h 211 45 (nI i)) none none none (by omega) m (fun p hp => absurd hp (Nat.not_lt_zero _))
        rw [show nI (0 + 1) = 1 from rfl] at p3
        have df : am_den 253 [.ref 211, .int (nI n')] (am_sI h 211 45 (nI i)) = some (none, h') := by
          show am_ev 253 0 [some (.ref 211), some (.int (nI n')), none, none, none, none, none] [] _ = _
          simp only [e253_0, e253_1, e253_2, e253_5, e253_6, e253_7, e253_9, e253_10, e253_13, e253_14, e253_16, e253_18, e253_19, e253_22, e253_23, e253_24, e253_27, e253_28, e253_30, e253_31, e253_34, e253_37, e253_38, e253_40, e253_42, e253_44, e253_46, e253_47, e253_50, e253_51, e253_52, e253_55, e253_57, e253_58, e253_59, e253_61, e253_63, e253_66, e253_69, e253_71, e253_74, e253_77, e253_78, e253_81, e253_83, e253_84, e253_85, e253_87, e253_88, e253_90, e253_91, e253_94, e253_97, e253_100, e253_103, am_bd_some, Option.toList_some, Option.toList_none, List.cons_append, List.nil_append, am_w8_0, am_w8_1, am_w8_2, am_w8_3, am_w8_4, eq_self, or_true, true_or, am_kd_sI, am_kd_sL, am_kd_sR, am_tc_sI, am_tc_sL, am_tc_sR, am_len_sI, am_len_sL, am_len_sR, am_rfs, if_true, if_false, am_rdL_sI, am_rR_sL, am_rt_cq, am_kd_cq, am_tc_cq, am_len_cq, am_rd_sL, am_rd_sR, am_rdL_sR, okK_211 ok, f2]
          exact p3
        have ok' := p1.ok okd
        have m' := m.fr p1 (by decide)
        refine ⟨h', q_wk2 w1 p1 q_nt232, ?_⟩
        have s2 : (11 : Int32) * nI n' = nI (11 * n') := pk_mul 11 n'
        have x1 : am_ix (nI (11 * n')) 66 = true := am_ix_nI (by omega) (by decide)
        have z1 : (nI (11 * n')).toNatClampNeg = 11 * n' := nI_clamp (by omega)
        have v1 : h'.1 232 (11 * n') = nI (q_pt (A.2.2.2.2.1 i) (n' - 1) 0) := by
          have := p2 (n' - 1) (by omega) 0 (Nat.zero_le _)
          rw [show 11 * (n' - 1 + 1) + 0 = 11 * n' by omega] at this
          exact this
        rcases q_k_nat n1 n2 ck.1 ck.2 with rfl | ⟨j, hj, rfl⟩
        · have l1 : (-1 : Int32) < 0 := by decide
          simp only [e252_0, e252_1, e252_2, e252_5, e252_6, e252_7, e252_8, e252_11, e252_14, e252_15, e252_16, e252_19, e252_22, e252_23, e252_24, e252_25, e252_26, e252_27, e252_30, e252_33, e252_34, e252_35, e252_36, e252_37, e252_40, e252_41, e252_44, e252_46, e252_47, e252_48, e252_49, e252_51, e252_52, e252_54, e252_55, e252_57, e252_59, e252_60, e252_63, e252_65, e252_67, e252_68, e252_69, e252_71, e252_72, e252_74, e252_76, e252_79, e252_81, e252_84, e252_87, e252_90, e252_93, e252_96, e252_97, e252_98, e252_101, e252_103, e252_106, e252_108, am_bd_some, Option.toList_some, Option.toList_none, List.cons_append, List.nil_append, am_w8_0, am_w8_1, am_w8_2, am_w8_3, am_w8_4, eq_self, or_true, true_or, am_kd_sI, am_kd_sL, am_kd_sR, am_tc_sI, am_tc_sL, am_tc_sR, am_len_sI, am_len_sL, am_len_sR, am_rfs, if_true, if_false, am_rdL_sI, am_rR_sL, am_rt_cq, am_kd_cq, am_tc_cq, am_len_cq, am_rd_sL, am_rd_sR, am_rdL_sR, okK_211 ok, am_sI_id h0, den_in, cn, ck, and_self, y1, dh, df, okK_211 ok', okR_211_48 ok', okT_232 ok', okL_232 ok', s2, x1, z1, v1, l1, not_true, not_false_eq_true]
        · have nj : ¬ nI j = -1 := fun q => by
            have := nI_pos' (n := j) (by omega)
            rw [q] at this
            exact absurd this (by decide)
          have zj : (nI j).toNatClampNeg = j := nI_clamp (by omega)
          have lp := q_ct_m h' i _ m' (nI i) n' (q_pt (A.2.2.2.2.1 i) (n' - 1) 0) j n2 hj (q_pt_b _ b1 _ _ (Nat.zero_le _)) p2 (j + 1) 0 0 none (by omega) (Nat.zero_le _) (Nat.le_refl _)
          rw [nI_0] at lp
          simp only [e252_0, e252_1, e252_2, e252_5, e252_6, e252_7, e252_8, e252_11, e252_14, e252_15, e252_16, e252_19, e252_22, e252_23, e252_24, e252_25, e252_26, e252_27, e252_30, e252_33, e252_34, e252_35, e252_36, e252_37, e252_40, e252_41, e252_44, e252_46, e252_47, e252_48, e252_49, e252_51, e252_52, e252_54, e252_55, e252_59, e252_60, e252_63, e252_65, e252_67, e252_68, e252_69, e252_71, e252_72, e252_74, e252_76, e252_79, e252_81, e252_84, e252_87, e252_90, e252_93, e252_96, e252_97, e252_98, e252_101, e252_103, e252_106, e252_108, am_bd_some, Option.toList_some, Option.toList_none, List.cons_append, List.nil_append, am_w8_0, am_w8_1, am_w8_2, am_w8_3, am_w8_4, eq_self, or_true, true_or, am_kd_sI, am_kd_sL, am_kd_sR, am_tc_sI, am_tc_sL, am_tc_sR, am_len_sI, am_len_sL, am_len_sR, am_rfs, if_true, if_false, am_rdL_sI, am_rR_sL, am_rt_cq, am_kd_cq, am_tc_cq, am_len_cq, am_rd_sL, am_rd_sR, am_rdL_sR, okK_211 ok, am_sI_id h0, den_in, cn, ck, and_self, y1, dh, df, okK_211 ok', okR_211_48 ok', okT_232 ok', okL_232 ok', s2, x1, z1, v1, nj, zj, not_false_eq_true]
          exact lp
      · rw [q_prB_n (fun q => ck q.2)]
        refine ⟨_, w1, ?_⟩
        simp only [e252_0, e252_1, e252_2, e252_5, e252_6, e252_7, e252_8, e252_11, e252_14, e252_15, e252_16, e252_19, e252_22, e252_23, e252_24, e252_25, e252_26, e252_27, e252_30, e252_33, e252_34, e252_35, e252_36, e252_37, e252_40, e252_41, e252_44, e252_46, e252_47, e252_48, e252_49, e252_51, e252_52, e252_54, e252_55, e252_59, e252_60, e252_63, e252_65, e252_67, e252_68, e252_69, e252_71, e252_72, e252_74, e252_76, e252_79, e252_81, e252_84, e252_87, e252_90, e252_93, e252_96, e252_97, e252_98, e252_101, e252_103, e252_106, e252_108, am_bd_some, Option.toList_some, Option.toList_none, List.cons_append, List.nil_append, am_w8_0, am_w8_1, am_w8_2, am_w8_3, am_w8_4, eq_self, or_true, true_or, am_kd_sI, am_kd_sL, am_kd_sR, am_tc_sI, am_tc_sL, am_tc_sR, am_len_sI, am_len_sL, am_len_sR, am_rfs, if_true, if_false, am_rdL_sI, am_rR_sL, am_rt_cq, am_kd_cq, am_tc_cq, am_len_cq, am_rd_sL, am_rd_sR, am_rdL_sR, okK_211 ok, am_sI_id h0, den_in, cn, ck, and_self, y1, dh, not_true]
    · rw [if_neg c] at dh ⊢
      refine ⟨_, q_wk1 ok 45 (by decide) d, ?_⟩
      simp only [e252_0, e252_1, e252_2, e252_5, e252_6, e252_7, e252_8, e252_11, e252_14, e252_15, e252_16, e252_19, e252_22, e252_23, e252_24, e252_25, e252_26, e252_27, e252_30, e252_33, e252_34, e252_35, e252_36, e252_37, e252_40, e252_41, e252_44, e252_46, e252_47, e252_48, e252_49, e252_51, e252_52, e252_54, e252_55, e252_59, e252_60, e252_63, e252_65, e252_67, e252_68, e252_69, e252_71, e252_72, e252_74, e252_76, e252_79, e252_81, e252_84, e252_87, e252_90, e252_93, e252_96, e252_97, e252_98, e252_101, e252_103, e252_106, e252_108, am_bd_some, Option.toList_some, Option.toList_none, List.cons_append, List.nil_append, am_w8_0, am_w8_1, am_w8_2, am_w8_3, am_w8_4, eq_self, or_true, true_or, am_kd_sI, am_kd_sL, am_kd_sR, am_tc_sI, am_tc_sL, am_tc_sR, am_len_sI, am_len_sL, am_len_sR, am_rfs, if_true, if_false, am_rdL_sI, am_rR_sL, am_rt_cq, am_kd_cq, am_tc_cq, am_len_cq, am_rd_sL, am_rd_sR, am_rdL_sR, okK_211 ok, am_sI_id h0, den_in, cn, and_self, y1, dh]
  · refine ⟨h, q_wk.rf ok, ?_⟩
    have e1 : (if 0 ≤ d ∧ d < nI (A.2.1 2) then q_prB (A.2.2.2.2.1 d.toNatClampNeg) n k else -1) = -1 := by
      split
      · exact q_prB_n (fun q => cn q.1)
      · rfl
    rw [e1]
    simp only [e252_0, e252_1, e252_2, e252_5, e252_6, e252_7, e252_8, e252_11, e252_14, e252_15, e252_16, e252_19, e252_22, e252_23, e252_24, e252_25, e252_26, e252_27, e252_30, e252_33, e252_34, e252_35, e252_36, e252_37, e252_40, e252_41, e252_44, e252_46, e252_47, e252_48, e252_49, e252_51, e252_52, e252_54, e252_55, e252_59, e252_60, e252_63, e252_65, e252_67, e252_68, e252_69, e252_71, e252_72, e252_74, e252_76, e252_79, e252_81, e252_84, e252_87, e252_90, e252_93, e252_96, e252_97, e252_98, e252_101, e252_103, e252_106, e252_108, am_bd_some, Option.toList_some, Option.toList_none, List.cons_append, List.nil_append, am_w8_0, am_w8_1, am_w8_2, am_w8_3, am_w8_4, eq_self, or_true, true_or, am_kd_sI, am_kd_sL, am_kd_sR, am_tc_sI, am_tc_sL, am_tc_sR, am_len_sI, am_len_sL, am_len_sR, am_rfs, if_true, if_false, am_rdL_sI, am_rR_sL, am_rt_cq, am_kd_cq, am_tc_cq, am_len_cq, am_rd_sL, am_rd_sR, am_rdL_sR, okK_211 ok, am_sI_id h0, den_in, cn]
theorem ly_15 : ly_p15 := by
  intro d n k h R
  obtain ⟨A, H⟩ := R
  have ok := H.1
  obtain ⟨h1, f1, dc⟩ := den_cparted H d n k
  have w1 := f1.wk ok q_nt210
  have H1 := H.wk w1
  obtain ⟨c1, c2, c3⟩ := H1.cnt 2 (by decide)
  obtain ⟨h2, w2, dm⟩ := den_mparted H1.1 H1.2.1 c1 c3 (fun i hi => ⟨(H1.bk i hi).1, (H1.bk i hi).2.2⟩) d n k
  exact ⟨q_prQ A d n k, h1, h2, H1.1, w1.2.1, dc, dm, ⟨A, H1.wk w2⟩, w2.2.1.trans w1.2.1⟩
