/-! part 55: spread -/
def G_wi (g : q_G) (b : Nat) : Nat → Nat → Nat → Nat
  | 0, _, acc => acc
  | r + 1, j, acc => G_wi g b r (j + 1) (max acc (q_dist (G_at g b) (G_at g j)))
def G_wo (g : q_G) : Nat → Nat → Nat → Nat
  | 0, _, acc => acc
  | r + 1, b, acc => G_wo g r (b + 1) (G_wi g b b 0 acc)
theorem G_wi_lt {f : q_Fl} {g : q_G} (i : G_in f g) {b : Nat} (hb : b < F_n f) : ∀ r j acc, j + r ≤ F_n f → acc < 100 → G_wi g b r j acc < 100 := by
  intro r
  induction r with
  | zero => intro j acc _ h; exact h
  | succ r ih =>
    intro j acc hj h
    refine ih (j + 1) _ (by omega) ?_
    have := q_dist_l (i.2.2 b hb).1 (i.2.2 j (by omega)).1
    omega
theorem q_wid_i (h : am_H) (q o : Nat) (f : q_Fl) (g : q_G) (cg : q_cg h q o f g) (wf : F_wf f) (i : G_in f g) (b : Nat) (hb : b < F_n f) : ∀ (r j acc : Nat), j + r = b → acc < 100 → am_ev 122 17 [some (.ref q), some (.int (nI acc)), some (.int (nI b)), some (.int (nI j))] [] h = am_ev 122 4 [some (.ref q), some (.int (nI (G_wi g b r j acc))), some (.int (nI (b + 1))), some (.int (nI b))] [] h := by
  have n6 := wf.2.2.2.1
  have k := cg.1.1
  have ea := cg.2.2.2.1
  intro r
  induction r with
  | zero =>
    intro j acc hj ha
    obtain rfl : j = b := by omega
    have h1 : nI j ≤ nI j := Int32.le_refl _
    rw [e122_17]
    simp only [e122_0, e122_1, e122_2, e122_3, e122_5, e122_6, e122_9, e122_12, e122_15, e122_16, e122_18, e122_19, e122_22, e122_23, e122_24, e122_27, e122_28, e122_29, e122_30, e122_33, e122_34, e122_35, e122_38, e122_41, e122_42, e122_45, e122_48, e122_51, e122_54, e122_55, am_bd_some, Option.toList_some, Option.toList_none, List.cons_append, List.nil_append, am_w8_0, am_w8_1, am_w8_2, am_w8_3, am_w8_4, eq_self, or_true, true_or, am_kd_sI, am_kd_sL, am_kd_sR, am_tc_sI, am_tc_sL, am_tc_sR, am_len_sI, am_len_sL, am_len_sR, am_rfs, if_true, if_false, am_rdL_sI, am_rR_sL, am_rt_cq, am_kd_cq, am_tc_cq, am_len_cq, am_rd_sL, am_rd_sR, am_rdL_sR, h1, nI_1, G_wi]
  | succ r ih =>
    intro j acc hj ha
    have h1 : ¬ nI b ≤ nI j := nI_ge (by omega) (by omega)
    have x : am_ix (nI b) 6 = true := am_ix_nI (by omega) (by decide)
    have z : (nI b).toNatClampNeg = b := nI_clamp (by omega)
    have xj : am_ix (nI j) 6 = true := am_ix_nI (by omega) (by decide)
    have zj : (nI j).toNatClampNeg = j := nI_clamp (by omega)
    have v1 := ea b hb
    have v2 := ea j (by omega)
    have da := den_capart h (G_at g b) (G_at g j) (i.2.2 b hb).1 (i.2.2 j (by omega)).1
    have dl := q_dist_l (i.2.2 b hb).1 (i.2.2 j (by omega)).1
    have mx := q_imax (a := acc) (b := q_dist (G_at g b) (G_at g j)) (by omega) (by omega)
    rw [e122_17]
    simp only [e122_0, e122_1, e122_2, e122_3, e122_5, e122_6, e122_9, e122_12, e122_15, e122_16, e122_18, e122_19, e122_22, e122_23, e122_24, e122_27, e122_28, e122_29, e122_30, e122_33, e122_34, e122_35, e122_38, e122_41, e122_42, e122_45, e122_48, e122_51, e122_54, e122_55, am_bd_some, Option.toList_some, Option.toList_none, List.cons_append, List.nil_append, am_w8_0, am_w8_1, am_w8_2, am_w8_3, am_w8_4, eq_self, or_true, true_or, am_kd_sI, am_kd_sL, am_kd_sR, am_tc_sI, am_tc_sL, am_tc_sR, am_len_sI, am_len_sL, am_len_sR, am_rfs, if_true, if_false, am_rdL_sI, am_rR_sL, am_rt_cq, am_kd_cq, am_tc_cq, am_len_cq, am_rd_sL, am_rd_sR, am_rdL_sR, h1, k.1, k.2.1, q_tc k.2.2.2.1, q_ln k.2.2.2.1, x, z, xj, zj, v1, v2, da, mx, nI_1]
    exact ih (j + 1) _ (by omega) (by omega)
theorem q_wid_o (h : am_H) (q o : Nat) (f : q_Fl) (g : q_G) (cg : q_cg h q o f g) (wf : F_wf f) (i : G_in f g) : ∀ (r b acc : Nat) (z3 : Option Value), b + r = F_n f → acc < 100 → am_ev 122 4 [some (.ref q), some (.int (nI acc)), some (.int (nI b)), z3] [] h = some (some (.int (nI (G_wo g r b acc))), h) := by
  have n6 := wf.2.2.2.1
  have k := cg.1.1
  have r0 := cg.1.2.1
  have fo := cg.2.1.1
  have c5 := cg.2.1.2.2.2.2.2.1
  intro r
  induction r with
  | zero =>
    intro b acc z3 hb ha
    have h1 : nI (F_n f) ≤ nI b := nI_le (by omega) (by omega)
    rw [e122_4]
    simp only [e122_0, e122_1, e122_2, e122_3, e122_5, e122_6, e122_9, e122_12, e122_15, e122_16, e122_18, e122_19, e122_22, e122_23, e122_24, e122_27, e122_28, e122_29, e122_30, e122_33, e122_34, e122_35, e122_38, e122_41, e122_42, e122_45, e122_48, e122_51, e122_54, e122_55, am_bd_some, Option.toList_some, Option.toList_none, List.cons_append, List.nil_append, am_w8_0, am_w8_1, am_w8_2, am_w8_3, am_w8_4, eq_self, or_true, true_or, am_kd_sI, am_kd_sL, am_kd_sR, am_tc_sI, am_tc_sL, am_tc_sR, am_len_sI, am_len_sL, am_len_sR, am_rfs, if_true, if_false, am_rdL_sI, am_rR_sL, am_rt_cq, am_kd_cq, am_tc_cq, am_len_cq, am_rd_sL, am_rd_sR, am_rdL_sR, k.1, r0, fo.1, c5, h1, G_wo]
  | succ r ih =>
    intro b acc z3 hb ha
    have h1 : ¬ nI (F_n f) ≤ nI b := nI_ge (by omega) (by omega)
    have lp := q_wid_i h q o f g cg wf i b (by omega) b 0 acc (by omega) ha
    rw [nI_0] at lp
    rw [e122_4]
    simp only [e122_0, e122_1, e122_2, e122_3, e122_5, e122_6, e122_9, e122_12, e122_15, e122_16, e122_18, e122_19, e122_22, e122_23, e122_24, e122_27, e122_28, e122_29, e122_30, e122_33, e122_34, e122_35, e122_38, e122_41, e122_42, e122_45, e122_48, e122_51, e122_54, e122_55, am_bd_some, Option.toList_some, Option.toList_none, List.cons_append, List.nil_append, am_w8_0, am_w8_1, am_w8_2, am_w8_3, am_w8_4, eq_self, or_true, true_or, am_kd_sI, am_kd_sL, am_kd_sR, am_tc_sI, am_tc_sL, am_tc_sR, am_len_sI, am_len_sL, am_len_sR, am_rfs, if_true, if_false, am_rdL_sI, am_rR_sL, am_rt_cq, am_kd_cq, am_tc_cq, am_len_cq, am_rd_sL, am_rd_sR, am_rdL_sR, k.1, r0, fo.1, c5, h1]
    rw [lp]
    exact ih (b + 1) _ _ (by omega) (G_wi_lt i (by omega) b 0 acc (by omega) ha)
theorem den_widest (h : am_H) (q o : Nat) (f : q_Fl) (g : q_G) (cg : q_cg h q o f g) (wf : F_wf f) (i : G_in f g) (hn : 1 ≤ F_n f) : am_den 122 [.ref q] h = some (some (.int (nI (G_wo g (F_n f - 1) 1 0))), h) := by
  have lp := q_wid_o h q o f g cg wf i (F_n f - 1) 1 0 none (by omega) (by decide)
  rw [nI_0, show nI 1 = 1 from rfl] at lp
  show am_ev 122 0 [some (.ref q), none, none, none] [] h = _
  simp only [e122_0, e122_1, e122_2, e122_3, e122_5, e122_6, e122_9, e122_12, e122_15, e122_16, e122_18, e122_19, e122_22, e122_23, e122_24, e122_27, e122_28, e122_29, e122_30, e122_33, e122_34, e122_35, e122_38, e122_41, e122_42, e122_45, e122_48, e122_51, e122_54, e122_55, am_bd_some, Option.toList_some, Option.toList_none, List.cons_append, List.nil_append, am_w8_0, am_w8_1, am_w8_2, am_w8_3, am_w8_4, eq_self, or_true, true_or, am_kd_sI, am_kd_sL, am_kd_sR, am_tc_sI, am_tc_sL, am_tc_sR, am_len_sI, am_len_sL, am_len_sR, am_rfs, if_true, if_false, am_rdL_sI, am_rR_sL, am_rt_cq, am_kd_cq, am_tc_cq, am_len_cq, am_rd_sL, am_rd_sR, am_rdL_sR]
  exact lp
theorem q_wm_i (h : am_H) (f : q_Fl) (g : q_G) (mg : q_mg h f g) (wf : F_wf f) (i : G_in f g) (a1 a2 a3 : Int32) (b : Nat) (hb : b < F_n f) : ∀ (r j acc : Nat), j + r = b → acc < 100 → am_ev 285 63 [some (.ref 211), some (.int a1), some (.int a2), some (.int a3), some (.int (nI acc)), some (.int (nI b)), some (.int (nI j))] [] h = am_ev 285 51 [some (.ref 211), some (.int a1), some (.int a2), some (.int a3), some (.int (nI (G_wi g b r j acc))), some (.int (nI (b + 1))), some (.int (nI b))] [] h := by
  have n6 := wf.2.2.2.1
  have ok := mg.1.1
  have ea := mg.2.2.1
  intro r
  induction r with
  | zero =>
    intro j acc hj ha
    obtain rfl : j = b := by omega
    have h1 : nI j ≤ nI j := Int32.le_refl _
    rw [e285_63]
    simp only [e285_0, e285_1, e285_2, e285_5, e285_6, e285_7, e285_8, e285_11, e285_14, e285_15, e285_18, e285_19, e285_22, e285_23, e285_24, e285_25, e285_28, e285_31, e285_34, e285_35, e285_36, e285_39, e285_40, e285_43, e285_44, e285_45, e285_46, e285_48, e285_49, e285_53, e285_54, e285_57, e285_60, e285_61, e285_65, e285_67, e285_70, e285_72, e285_73, e285_74, e285_77, e285_79, e285_80, e285_81, e285_84, e285_86, e285_87, e285_90, e285_93, e285_95, e285_98, e285_101, e285_104, e285_107, e285_109, am_bd_some, Option.toList_some, Option.toList_none, List.cons_append, List.nil_append, am_w8_0, am_w8_1, am_w8_2, am_w8_3, am_w8_4, eq_self, or_true, true_or, am_kd_sI, am_kd_sL, am_kd_sR, am_tc_sI, am_tc_sL, am_tc_sR, am_len_sI, am_len_sL, am_len_sR, am_rfs, if_true, if_false, am_rdL_sI, am_rR_sL, am_rt_cq, am_kd_cq, am_tc_cq, am_len_cq, am_rd_sL, am_rd_sR, am_rdL_sR, h1, nI_1, G_wi]
  | succ r ih =>
    intro j acc hj ha
    have h1 : ¬ nI b ≤ nI j := nI_ge (by omega) (by omega)
    have x : am_ix (nI b) 6 = true := am_ix_nI (by omega) (by decide)
    have z : (nI b).toNatClampNeg = b := nI_clamp (by omega)
    have xj : am_ix (nI j) 6 = true := am_ix_nI (by omega) (by decide)
    have zj : (nI j).toNatClampNeg = j := nI_clamp (by omega)
    have v1 := ea b hb
    have v2 := ea j (by omega)
    have da := den_msteps h f mg.1 wf (G_at g b) (G_at g j) (i.2.2 b hb) (i.2.2 j (by omega))
    have dl := q_dist_l (i.2.2 b hb).1 (i.2.2 j (by omega)).1
    have mx := q_imax2 (a := acc) (b := q_dist (G_at g b) (G_at g j)) (by omega) (by omega)
    rw [e285_63]
    simp only [e285_0, e285_1, e285_2, e285_5, e285_6, e285_7, e285_8, e285_11, e285_14, e285_15, e285_18, e285_19, e285_22, e285_23, e285_24, e285_25, e285_28, e285_31, e285_34, e285_35, e285_36, e285_39, e285_40, e285_43, e285_44, e285_45, e285_46, e285_48, e285_49, e285_53, e285_54, e285_57, e285_60, e285_61, e285_65, e285_67, e285_70, e285_72, e285_73, e285_74, e285_77, e285_79, e285_80, e285_81, e285_84, e285_86, e285_87, e285_90, e285_93, e285_95, e285_98, e285_101, e285_104, e285_107, e285_109, am_bd_some, Option.toList_some, Option.toList_none, List.cons_append, List.nil_append, am_w8_0, am_w8_1, am_w8_2, am_w8_3, am_w8_4, eq_self, or_true, true_or, am_kd_sI, am_kd_sL, am_kd_sR, am_tc_sI, am_tc_sL, am_tc_sR, am_len_sI, am_len_sL, am_len_sR, am_rfs, if_true, if_false, am_rdL_sI, am_rR_sL, am_rt_cq, am_kd_cq, am_tc_cq, am_len_cq, am_rd_sL, am_rd_sR, am_rdL_sR, h1, okK_211 ok, okR_211_36 ok, okT_225 ok, okL_225 ok, x, z, xj, zj, v1, v2, da, den_greater, mx, nI_1]
    exact ih (j + 1) _ (by omega) (by omega)
theorem q_wm_o (h : am_H) (f : q_Fl) (g : q_G) (mg : q_mg h f g) (wf : F_wf f) (i : G_in f g) (a1 a2 a3 : Int32) : ∀ (r b acc : Nat) (z6 : Option Value), b + r = F_n f → acc < 100 → am_ev 285 51 [some (.ref 211), some (.int a1), some (.int a2), some (.int a3), some (.int (nI acc)), some (.int (nI b)), z6] [] h = some (some (.int (nI (G_wo g r b acc))), h) := by
  have n6 := wf.2.2.2.1
  have ok := mg.1.1
  have a5 := mg.1.2.2.2.2.2.1
  intro r
  induction r with
  | zero =>
    intro b acc z6 hb ha
    have h1 : nI (F_n f) ≤ nI b := nI_le (by omega) (by omega)
    rw [e285_51]
    simp only [e285_0, e285_1, e285_2, e285_5, e285_6, e285_7, e285_8, e285_11, e285_14, e285_15, e285_18, e285_19, e285_22, e285_23, e285_24, e285_25, e285_28, e285_31, e285_34, e285_35, e285_36, e285_39, e285_40, e285_43, e285_44, e285_45, e285_46, e285_48, e285_49, e285_53, e285_54, e285_57, e285_60, e285_61, e285_65, e285_67, e285_70, e285_72, e285_73, e285_74, e285_77, e285_79, e285_80, e285_81, e285_84, e285_86, e285_87, e285_90, e285_93, e285_95, e285_98, e285_101, e285_104, e285_107, e285_109, am_bd_some, Option.toList_some, Option.toList_none, List.cons_append, List.nil_append, am_w8_0, am_w8_1, am_w8_2, am_w8_3, am_w8_4, eq_self, or_true, true_or, am_kd_sI, am_kd_sL, am_kd_sR, am_tc_sI, am_tc_sL, am_tc_sR, am_len_sI, am_len_sL, am_len_sR, am_rfs, if_true, if_false, am_rdL_sI, am_rR_sL, am_rt_cq, am_kd_cq, am_tc_cq, am_len_cq, am_rd_sL, am_rd_sR, am_rdL_sR, okK_211 ok, a5, h1, G_wo]
  | succ r ih =>
    intro b acc z6 hb ha
    have h1 : ¬ nI (F_n f) ≤ nI b := nI_ge (by omega) (by omega)
    have lp := q_wm_i h f g mg wf i a1 a2 a3 b (by omega) b 0 acc (by omega) ha
    rw [nI_0] at lp
    rw [e285_51]
    simp only [e285_0, e285_1, e285_2, e285_5, e285_6, e285_7, e285_8, e285_11, e285_14, e285_15, e285_18, e285_19, e285_22, e285_23, e285_24, e285_25, e285_28, e285_31, e285_34, e285_35, e285_36, e285_39, e285_40, e285_43, e285_44, e285_45, e285_46, e285_48, e285_49, e285_53, e285_54, e285_57, e285_60, e285_61, e285_65, e285_67, e285_70, e285_72, e285_73, e285_74, e285_77, e285_79, e285_80, e285_81, e285_84, e285_86, e285_87, e285_90, e285_93, e285_95, e285_98, e285_101, e285_104, e285_107, e285_109, am_bd_some, Option.toList_some, Option.toList_none, List.cons_append, List.nil_append, am_w8_0, am_w8_1, am_w8_2, am_w8_3, am_w8_4, eq_self, or_true, true_or, am_kd_sI, am_kd_sL, am_kd_sR, am_tc_sI, am_tc_sL, am_tc_sR, am_len_sI, am_len_sL, am_len_sR, am_rfs, if_true, if_false, am_rdL_sI, am_rR_sL, am_rt_cq, am_kd_cq, am_tc_cq, am_len_cq, am_rd_sL, am_rd_sR, am_rdL_sR, okK_211 ok, a5, h1]
    rw [lp]
    exact ih (b + 1) _ _ (by omega) (G_wi_lt i (by omega) b 0 acc (by omega) ha)
def q_spP (A : q_All) (a d n : Int32) : Prop := q_fd A a d ∧ 2 ≤ F_n (A.2.2.1 a.toNatClampNeg) ∧ q_ful (A.2.2.1 a.toNatClampNeg) (A.2.2.2.1 d.toNatClampNeg) (G_0 (A.2.2.1 a.toNatClampNeg)) n
noncomputable def q_spA (A : q_All) (a d n : Int32) : Int32 := @ite _ (q_spP A a d n) (Classical.propDecidable _) (nI (G_wo (G_fol (A.2.2.1 a.toNatClampNeg) (A.2.2.2.1 d.toNatClampNeg).2 n.toNatClampNeg 0 (G_0 (A.2.2.1 a.toNatClampNeg))).2 (F_n (A.2.2.1 a.toNatClampNeg) - 1) 1 0)) (-1)
theorem den_cspread {A : q_All} {h : am_H} (H : q_Rel A h) (a d n : Int32) : ∃ h' : am_H, q_wk h h' ∧ am_den 121 [.ref 0, .int a, .int d, .int n] h = some (some (.int (q_spA A a d n)), h') := by
  have ok := H.1
  obtain ⟨b1, b0⟩ := den_hasBoth H a d
  have y : ¬ (1 : Int32) = 0 := by decide
  show ∃ h' : am_H, q_wk h h' ∧ am_ev 121 0 [some (.ref 0), some (.int a), some (.int d), some (.int n)] [] h = _
  unfold q_spA
  by_cases cf : q_fd A a d
  · have db := b1 cf
    have cf0 := cf
    obtain ⟨i, j, hi, hi2, rfl, hj, hj2, rfl⟩ := q_fd_nat H cf
    obtain ⟨fk, cF, -⟩ := H.fl i hi
    obtain ⟨dk, cD⟩ := H.cD j hj
    have wf := fk.wf
    have n6 := wf.2.2.2.1
    have z : (nI i).toNatClampNeg = i := nI_clamp (by omega)
    have x : am_ix (nI i) 2 = true := am_ix_nI (by omega) (by decide)
    have zj : (nI j).toNatClampNeg = j := nI_clamp (by omega)
    have xj : am_ix (nI j) 2 = true := am_ix_nI (by omega) (by decide)
    have r := q_fo_ref ok i hi2
    have e5 := cF.1.2.2.2.2.2.1
    have c2 : (2 : Int32) ≤ nI (F_n (A.2.2.1 i)) ↔ 2 ≤ F_n (A.2.2.1 i) := nI_leI (a := 2) (by decide) (by omega)
    by_cases c : 2 ≤ F_n (A.2.2.1 i)
    · have c' := c2.mpr c
      have q178 : q_flk 178 := Or.inl rfl
      obtain ⟨h1, f1, g1, s1⟩ := den_begin h ok 178 (8 + 16 * i) q178 (by omega) _ wf cF
      have ok1 := f1.ok q178 ok
      have rj := (q_do_now ok1 j hj2).2
      obtain ⟨h2, v, f2, s2, e2, g2⟩ := den_cful 178 (8 + 16 * i) (11 + 16 * j) _ wf _ dk (by omega) n (G_0 _) h1 g1 (G_0_in fk) (f1.cD cD (by omega))
      have ok2 := (f1.tr f2.fb).ok q178 ok
      refine ⟨h2, (f1.tr f2.fb).wk q178 ok, ?_⟩
      by_cases cu : q_ful (A.2.2.1 i) (A.2.2.2.1 j) (G_0 (A.2.2.1 i)) n
      · have hv := e2.mpr cu
        have P : q_spP A (nI i) (nI j) n := ⟨cf0, by rw [z]; exact c, by rw [z, zj]; exact cu⟩
        rw [if_pos P, z, zj]
        have dwd := den_widest h2 178 (8 + 16 * i) _ _ (g2 cu) wf (G_fol_in wf _ _ _ _ (G_0_in fk)) (by omega)
        rw [hv] at s2
        simp only [e121_0, e121_1, e121_2, e121_3, e121_6, e121_9, e121_10, e121_13, e121_16, e121_17f, e121_17d, e121_17b, e121_17l, e121_17t, e121_18, e121_21, e121_22, e121_25, e121_26, e121_27, e121_28, e121_31, e121_32, e121_35, e121_38, e121_39f, e121_39d, e121_39b, e121_39l, e121_39t, e121_40, e121_43, e121_44, e121_47, e121_48, e121_51, e121_54, e121_55f, e121_55d, e121_55b, e121_55l, e121_55t, e121_56, e121_57, e121_60, e121_61, e121_64, e121_65, e121_68, e121_71, e121_74, e121_75, am_bd_some, Option.toList_some, Option.toList_none, List.cons_append, List.nil_append, am_w8_0, am_w8_1, am_w8_2, am_w8_3, am_w8_4, eq_self, or_true, true_or, am_kd_sI, am_kd_sL, am_kd_sR, am_tc_sI, am_tc_sL, am_tc_sR, am_len_sI, am_len_sL, am_len_sR, am_rfs, if_true, if_false, am_rdL_sI, am_rR_sL, am_rt_cq, am_kd_cq, am_tc_cq, am_len_cq, am_rd_sL, am_rd_sR, am_rdL_sR, okK_0 ok, okR_0_0 ok, okK_1 ok, okR_1_5 ok, okT_4 ok, okL_4 ok, okR_0_4 ok, okK_178 ok, db, y, x, z, r, cF.1.1.1, e5, c', s1, okK_0 ok1, okR_0_0 ok1, okK_1 ok1, okR_1_6 ok1, okT_5 ok1, okL_5 ok1, okR_0_4 ok1, okK_178 ok1, xj, zj, rj, s2, not_true, okK_0 ok2, okR_0_4 ok2, okK_178 ok2, dwd]
      · have hv : ¬ v = n := fun w => cu (e2.mp w)
        have P : ¬ q_spP A (nI i) (nI j) n := fun w => cu (by have := w.2.2; rw [z, zj] at this; exact this)
        rw [if_neg P]
        simp only [e121_0, e121_1, e121_2, e121_3, e121_6, e121_9, e121_10, e121_13, e121_16, e121_17f, e121_17d, e121_17b, e121_17l, e121_17t, e121_18, e121_21, e121_22, e121_25, e121_26, e121_27, e121_28, e121_31, e121_32, e121_35, e121_38, e121_39f, e121_39d, e121_39b, e121_39l, e121_39t, e121_40, e121_43, e121_44, e121_47, e121_48, e121_51, e121_54, e121_55f, e121_55d, e121_55b, e121_55l, e121_55t, e121_56, e121_57, e121_60, e121_61, e121_64, e121_65, e121_68, e121_71, e121_74, e121_75, am_bd_some, Option.toList_some, Option.toList_none, List.cons_append, List.nil_append, am_w8_0, am_w8_1, am_w8_2, am_w8_3, am_w8_4, eq_self, or_true, true_or, am_kd_sI, am_kd_sL, am_kd_sR, am_tc_sI, am_tc_sL, am_tc_sR, am_len_sI, am_len_sL, am_len_sR, am_rfs, if_true, if_false, am_rdL_sI, am_rR_sL, am_rt_cq, am_kd_cq, am_tc_cq, am_len_cq, am_rd_sL, am_rd_sR, am_rdL_sR, okK_0 ok, okR_0_0 ok, okK_1 ok, okR_1_5 ok, okT_4 ok, okL_4 ok, okR_0_4 ok, okK_178 ok, db, y, x, z, r, cF.1.1.1, e5, c', s1, okK_0 ok1, okR_0_0 ok1, okK_1 ok1, okR_1_6 ok1, okT_5 ok1, okL_5 ok1, okR_0_4 ok1, okK_178 ok1, xj, zj, rj, s2, hv, not_false_eq_true]
    · have c' : ¬ (2 : Int32) ≤ nI (F_n (A.2.2.1 i)) := fun w => c (c2.mp w)
      have P : ¬ q_spP A (nI i) (nI j) n := fun w => c (by have := w.2.1; rw [z] at this; exact this)
      rw [if_neg P]
      refine ⟨h, q_wk.rf ok, ?_⟩
      simp only [e121_0, e121_1, e121_2, e121_3, e121_6, e121_9, e121_10, e121_13, e121_16, e121_17f, e121_17d, e121_17b, e121_17l, e121_17t, e121_18, e121_21, e121_22, e121_25, e121_26, e121_27, e121_28, e121_31, e121_32, e121_35, e121_38, e121_39f, e121_39d, e121_39b, e121_39l, e121_39t, e121_40, e121_43, e121_44, e121_47, e121_48, e121_51, e121_54, e121_55f, e121_55d, e121_55b, e121_55l, e121_55t, e121_56, e121_57, e121_60, e121_61, e121_64, e121_65, e121_68, e121_71, e121_74, e121_75, am_bd_some, Option.toList_some, Option.toList_none, List.cons_append, List.nil_append, am_w8_0, am_w8_1, am_w8_2, am_w8_3, am_w8_4, eq_self, or_true, true_or, am_kd_sI, am_kd_sL, am_kd_sR, am_tc_sI, am_tc_sL, am_tc_sR, am_len_sI, am_len_sL, am_len_sR, am_rfs, if_true, if_false, am_rdL_sI, am_rR_sL, am_rt_cq, am_kd_cq, am_tc_cq, am_len_cq, am_rd_sL, am_rd_sR, am_rdL_sR, okK_0 ok, okR_0_0 ok, okK_1 ok, okR_1_5 ok, okT_4 ok, okL_4 ok, db, y, x, z, r, cF.1.1.1, e5, c']
  · have db := b0 cf
    rw [if_neg (fun w => cf w.1)]
    refine ⟨h, q_wk.rf ok, ?_⟩
    simp only [e121_0, e121_1, e121_2, e121_3, e121_6, e121_9, e121_10, e121_13, e121_16, e121_17f, e121_17d, e121_17b, e121_17l, e121_17t, e121_18, e121_21, e121_22, e121_25, e121_26, e121_27, e121_28, e121_31, e121_32, e121_35, e121_38, e121_39f, e121_39d, e121_39b, e121_39l, e121_39t, e121_40, e121_43, e121_44, e121_47, e121_48, e121_51, e121_54, e121_55f, e121_55d, e121_55b, e121_55l, e121_55t, e121_56, e121_57, e121_60, e121_61, e121_64, e121_65, e121_68, e121_71, e121_74, e121_75, am_bd_some, Option.toList_some, Option.toList_none, List.cons_append, List.nil_append, am_w8_0, am_w8_1, am_w8_2, am_w8_3, am_w8_4, eq_self, or_true, true_or, am_kd_sI, am_kd_sL, am_kd_sR, am_tc_sI, am_tc_sL, am_tc_sR, am_len_sI, am_len_sL, am_len_sR, am_rfs, if_true, if_false, am_rdL_sI, am_rR_sL, am_rt_cq, am_kd_cq, am_tc_cq, am_len_cq, am_rd_sL, am_rd_sR, am_rdL_sR, okK_0 ok, db]
theorem den_mspread {A : q_All} {h : am_H} (H : q_Rel A h) (a d n : Int32) : ∃ h' : am_H, q_wk h h' ∧ am_den 285 [.ref 211, .int a, .int d, .int n] h = some (some (.int (q_spA A a d n)), h') := by
  have ok := H.1
  have h0 := H.2.1
  have y : ¬ (1 : Int32) = 0 := by decide
  show ∃ h' : am_H, q_wk h h' ∧ am_ev 285 0 [some (.ref 211), some (.int a), some (.int d), some (.int n), none, none, none] [] h = _
  unfold q_spA
  by_cases cf : q_fd A a d
  · have cf0 := cf
    obtain ⟨i, j, hi, hi2, rfl, hj, hj2, rfl⟩ := q_fd_nat H cf
    have fk := (H.fl i hi).1
    have dk := (H.cD j hj).1
    have wf := fk.wf
    have n6 := wf.2.2.2.1
    have d40 := dk.1
    have z : (nI i).toNatClampNeg = i := nI_clamp (by omega)
    have zj : (nI j).toNatClampNeg = j := nI_clamp (by omega)
    obtain ⟨h1, f1, g1, md, s1⟩ := den_lay1 H i j hi hj
    have ok1 := g1.1.1
    have a5 := g1.1.2.2.2.2.2.1
    have dw := den_whistles h1 ok1 j _ md
    have c2 : nI (F_n (A.2.2.1 i)) < 2 ↔ F_n (A.2.2.1 i) < 2 := nI_ltI (b := 2) (by omega) (by decide)
    by_cases c : 2 ≤ F_n (A.2.2.1 i)
    · have c' : ¬ nI (F_n (A.2.2.1 i)) < 2 := fun w => by have := c2.mp w; omega
      by_cases cn : 0 ≤ n ∧ n ≤ nI (A.2.2.2.1 j).1
      · obtain ⟨k, hk, rfl⟩ := nI_of (Int32.not_lt.mpr cn.1)
        have hk2 : k ≤ (A.2.2.2.1 j).1 := (nI_leI hk (by omega)).mp cn.2
        have zk : (nI k).toNatClampNeg = k := nI_clamp (by omega)
        obtain ⟨h2, f2, g2, s2⟩ := den_play _ wf j _ dk k hk2 (G_0 _) h1 g1 (G_0_in fk) (G_0_pi fk) md
        have ok2 := g2.1.1
        have le := (G_fol_le (A.2.2.1 i) (A.2.2.2.1 j).2 k 0 (G_0 (A.2.2.1 i))).2
        have cm : nI k ≤ nI (G_fol (A.2.2.1 i) (A.2.2.2.1 j).2 k 0 (G_0 (A.2.2.1 i))).1 ↔ k ≤ (G_fol (A.2.2.1 i) (A.2.2.2.1 j).2 k 0 (G_0 (A.2.2.1 i))).1 := nI_leI (by omega) (by omega)
        refine ⟨h2, f1.tr (f2.wk ok1), ?_⟩
        by_cases cu : (G_fol (A.2.2.1 i) (A.2.2.2.1 j).2 k 0 (G_0 (A.2.2.1 i))).1 = k
        · have P : q_spP A (nI i) (nI j) (nI k) := ⟨cf0, by rw [z]; exact c, by rw [z, zj]; exact ⟨cn, by rw [zk]; exact cu⟩⟩
          have cm' := cm.mpr (by omega)
          rw [if_pos P, z, zj, zk]
          have gi2 := G_fol_in wf (A.2.2.2.1 j).2 k 0 _ (G_0_in fk)
          have lp := q_wm_o h2 _ _ g2 wf gi2 (nI i) (nI j) (nI k) (F_n (A.2.2.1 i)) 0 0 none (by omega) (by decide)
          have sh : G_wo (G_fol (A.2.2.1 i) (A.2.2.2.1 j).2 k 0 (G_0 (A.2.2.1 i))).2 (F_n (A.2.2.1 i)) 0 0 = G_wo (G_fol (A.2.2.1 i) (A.2.2.2.1 j).2 k 0 (G_0 (A.2.2.1 i))).2 (F_n (A.2.2.1 i) - 1) 1 0 := by
            rw [show F_n (A.2.2.1 i) = (F_n (A.2.2.1 i) - 1) + 1 by omega, G_wo]
            rfl
          rw [sh, nI_0] at lp
          simp only [e285_0, e285_1, e285_2, e285_5, e285_6, e285_7, e285_8, e285_11, e285_14, e285_15, e285_18, e285_19, e285_22, e285_23, e285_24, e285_25, e285_28, e285_31, e285_34, e285_35, e285_36, e285_39, e285_40, e285_43, e285_44, e285_45, e285_46, e285_48, e285_49, e285_53, e285_54, e285_57, e285_60, e285_61, e285_63, e285_65, e285_67, e285_70, e285_72, e285_73, e285_74, e285_77, e285_79, e285_80, e285_81, e285_84, e285_86, e285_87, e285_90, e285_93, e285_95, e285_98, e285_101, e285_104, e285_107, e285_109, am_bd_some, Option.toList_some, Option.toList_none, List.cons_append, List.nil_append, am_w8_0, am_w8_1, am_w8_2, am_w8_3, am_w8_4, eq_self, or_true, true_or, am_kd_sI, am_kd_sL, am_kd_sR, am_tc_sI, am_tc_sL, am_tc_sR, am_len_sI, am_len_sL, am_len_sR, am_rfs, if_true, if_false, am_rdL_sI, am_rR_sL, am_rt_cq, am_kd_cq, am_tc_cq, am_len_cq, am_rd_sL, am_rd_sR, am_rdL_sR, okK_211 ok, am_sI_id h0, s1, y, okK_211 ok1, a5, c', dw, den_in, cn, and_self, s2, cm']
          exact lp
        · have P : ¬ q_spP A (nI i) (nI j) (nI k) := fun w => cu (by have := w.2.2.2; rw [z, zj, zk] at this; exact this)
          have cm' : ¬ nI k ≤ nI (G_fol (A.2.2.1 i) (A.2.2.2.1 j).2 k 0 (G_0 (A.2.2.1 i))).1 := fun w => by have := cm.mp w; omega
          rw [if_neg P]
          simp only [e285_0, e285_1, e285_2, e285_5, e285_6, e285_7, e285_8, e285_11, e285_14, e285_15, e285_18, e285_19, e285_22, e285_23, e285_24, e285_25, e285_28, e285_31, e285_34, e285_35, e285_36, e285_39, e285_40, e285_43, e285_44, e285_45, e285_46, e285_48, e285_49, e285_53, e285_54, e285_57, e285_60, e285_61, e285_63, e285_65, e285_67, e285_70, e285_72, e285_73, e285_74, e285_77, e285_79, e285_80, e285_81, e285_84, e285_86, e285_87, e285_90, e285_93, e285_95, e285_98, e285_101, e285_104, e285_107, e285_109, am_bd_some, Option.toList_some, Option.toList_none, List.cons_append, List.nil_append, am_w8_0, am_w8_1, am_w8_2, am_w8_3, am_w8_4, eq_self, or_true, true_or, am_kd_sI, am_kd_sL, am_kd_sR, am_tc_sI, am_tc_sL, am_tc_sR, am_len_sI, am_len_sL, am_len_sR, am_rfs, if_true, if_false, am_rdL_sI, am_rR_sL, am_rt_cq, am_kd_cq, am_tc_cq, am_len_cq, am_rd_sL, am_rd_sR, am_rdL_sR, okK_211 ok, am_sI_id h0, s1, y, okK_211 ok1, a5, c', dw, den_in, cn, and_self, s2, cm']
      · have P : ¬ q_spP A (nI i) (nI j) n := fun w => cn (by have := w.2.2.1; rw [zj] at this; exact this)
        rw [if_neg P]
        refine ⟨h1, f1, ?_⟩
        simp only [e285_0, e285_1, e285_2, e285_5, e285_6, e285_7, e285_8, e285_11, e285_14, e285_15, e285_18, e285_19, e285_22, e285_23, e285_24, e285_25, e285_28, e285_31, e285_34, e285_35, e285_36, e285_39, e285_40, e285_43, e285_44, e285_45, e285_46, e285_48, e285_49, e285_53, e285_54, e285_57, e285_60, e285_61, e285_63, e285_65, e285_67, e285_70, e285_72, e285_73, e285_74, e285_77, e285_79, e285_80, e285_81, e285_84, e285_86, e285_87, e285_90, e285_93, e285_95, e285_98, e285_101, e285_104, e285_107, e285_109, am_bd_some, Option.toList_some, Option.toList_none, List.cons_append, List.nil_append, am_w8_0, am_w8_1, am_w8_2, am_w8_3, am_w8_4, eq_self, or_true, true_or, am_kd_sI, am_kd_sL, am_kd_sR, am_tc_sI, am_tc_sL, am_tc_sR, am_len_sI, am_len_sL, am_len_sR, am_rfs, if_true, if_false, am_rdL_sI, am_rR_sL, am_rt_cq, am_kd_cq, am_tc_cq, am_len_cq, am_rd_sL, am_rd_sR, am_rdL_sR, okK_211 ok, am_sI_id h0, s1, y, okK_211 ok1, a5, c', dw, den_in, cn]
    · have c' : nI (F_n (A.2.2.1 i)) < 2 := c2.mpr (by omega)
      have P : ¬ q_spP A (nI i) (nI j) n := fun w => c (by have := w.2.1; rw [z] at this; exact this)
      rw [if_neg P]
      refine ⟨h1, f1, ?_⟩
      simp only [e285_0, e285_1, e285_2, e285_5, e285_6, e285_7, e285_8, e285_11, e285_14, e285_15, e285_18, e285_19, e285_22, e285_23, e285_24, e285_25, e285_28, e285_31, e285_34, e285_35, e285_36, e285_39, e285_40, e285_43, e285_44, e285_45, e285_46, e285_48, e285_49, e285_53, e285_54, e285_57, e285_60, e285_61, e285_63, e285_65, e285_67, e285_70, e285_72, e285_73, e285_74, e285_77, e285_79, e285_80, e285_81, e285_84, e285_86, e285_87, e285_90, e285_93, e285_95, e285_98, e285_101, e285_104, e285_107, e285_109, am_bd_some, Option.toList_some, Option.toList_none, List.cons_append, List.nil_append, am_w8_0, am_w8_1, am_w8_2, am_w8_3, am_w8_4, eq_self, or_true, true_or, am_kd_sI, am_kd_sL, am_kd_sR, am_tc_sI, am_tc_sL, am_tc_sR, am_len_sI, am_len_sL, am_len_sR, am_rfs, if_true, if_false, am_rdL_sI, am_rR_sL, am_rt_cq, am_kd_cq, am_tc_cq, am_len_cq, am_rd_sL, am_rd_sR, am_rdL_sR, okK_211 ok, am_sI_id h0, s1, y, okK_211 ok1, a5, c']
  · rw [if_neg (fun w => cf w.1)]
    obtain ⟨h1, f1, s1⟩ := den_lay0 H a d cf
    refine ⟨h1, f1, ?_⟩
    simp only [e285_0, e285_1, e285_2, e285_5, e285_6, e285_7, e285_8, e285_11, e285_14, e285_15, e285_18, e285_19, e285_22, e285_23, e285_24, e285_25, e285_28, e285_31, e285_34, e285_35, e285_36, e285_39, e285_40, e285_43, e285_44, e285_45, e285_46, e285_48, e285_49, e285_53, e285_54, e285_57, e285_60, e285_61, e285_63, e285_65, e285_67, e285_70, e285_72, e285_73, e285_74, e285_77, e285_79, e285_80, e285_81, e285_84, e285_86, e285_87, e285_90, e285_93, e285_95, e285_98, e285_101, e285_104, e285_107, e285_109, am_bd_some, Option.toList_some, Option.toList_none, List.cons_append, List.nil_append, am_w8_0, am_w8_1, am_w8_2, am_w8_3, am_w8_4, eq_self, or_true, true_or, am_kd_sI, am_kd_sL, am_kd_sR, am_tc_sI, am_tc_sL, am_tc_sR, am_len_sI, am_len_sL, am_len_sR, am_rfs, if_true, if_false, am_rdL_sI, am_rR_sL, am_rt_cq, am_kd_cq, am_tc_cq, am_len_cq, am_rd_sL, am_rd_sR, am_rdL_sR, okK_211 ok, am_sI_id h0, s1]
theorem ly_28 : ly_p28 := fun a d n => pr_wk (fun A => q_spA A a d n) (fun A h H => den_cspread H a d n) (fun A h H => den_mspread H a d n)
