/-! part 87: lined -/
def q_key (o : Option Nat) : Nat := match o with
  | none => 1000000
  | some n => n
/-- whether one stands ahead of another in the line -/
def q_ahd (K : Nat → Nat) (b o : Nat) : Bool := decide (K o < K b) || (decide (K o = K b) && decide (o < b))
theorem q_ctB_lt {P : Nat → Bool} : ∀ r i j, i ≤ j → j < i + r → P j = false → q_ctB P r i < r := by
  intro r
  induction r with
  | zero => intro i j h1 h2; omega
  | succ r ih =>
    intro i j h1 h2 hp
    rw [q_ctB]
    have l := q_ctB_le P r (i + 1)
    by_cases c : i = j
    · rw [c, hp, if_neg (by decide)]
      rw [c] at l
      omega
    · have := ih (i + 1) j (by omega) (by omega) hp
      split <;> omega
theorem q_ahd_self (K : Nat → Nat) (b : Nat) : q_ahd K b b = false := by
  unfold q_ahd
  simp
def q_aN (K : Nat → Nat) (n b : Nat) : Nat := q_ctB (q_ahd K b) n 0
theorem q_aN_lt {K : Nat → Nat} {n b : Nat} (hb : b < n) : q_aN K n b < n := q_ctB_lt n 0 b (Nat.zero_le _) (by omega) (q_ahd_self K b)
noncomputable def F_K (f : q_Fl) (b : Nat) : Nat := q_key (q_D f (F_pen f) (F_cell f b))
theorem q_ai_c (o : Nat) (f : q_Fl) (fk : F_ok f) (S : Nat → Nat) (h : am_H) (ok : am_okH h) (cF : q_cF h o f) (hS : ∀ v, F_in f v → h.1 200 v = nI (S v) ∧ ((S v = 1000 ∧ q_D f (F_pen f) v = none) ∨ (S v < 64 ∧ q_D f (F_pen f) v = some (S v)))) (b : Nat) (hb : b < F_n f) : ∀ (r j n : Nat) (z6 : Option Value), j + r = F_n f → am_ev 104 21 [some (.ref 0), some (.ref o), some (.int (nI b)), some (.int (nI (S (F_cell f b)))), some (.int (nI n)), some (.int (nI j)), z6] [] h = some (some (.int (nI (n + q_ctB (q_ahd (F_K f) b) r j))), h) := by
  have wf := fk.wf
  have n6 := wf.2.2.2.1
  obtain ⟨cf, -, cc⟩ := cF
  have e5 := cf.2.2.2.2.2.1
  obtain ⟨fo1, fo2, fo3, fo4, fo5⟩ := cf.1
  obtain ⟨-, hsb⟩ := hS _ (fk.2.2.2.2.2.2.2.2.2.2.1 b hb).2.1
  have kb : (S (F_cell f b) = 1000 ∧ F_K f b = 1000000) ∨ (S (F_cell f b) < 64 ∧ F_K f b = S (F_cell f b)) := hsb.imp (fun w => ⟨w.1, by unfold F_K; rw [w.2]; rfl⟩) (fun w => ⟨w.1, by unfold F_K; rw [w.2]; rfl⟩)
  intro r
  induction r with
  | zero =>
    intro j n z6 hj
    obtain rfl : j = F_n f := by omega
    have h1 : nI (F_n f) ≤ nI (F_n f) := Int32.le_refl _
    rw [e104_21]
    simp only [e104_0, e104_1, e104_4, e104_7, e104_8, e104_11, e104_12, e104_13, e104_14, e104_15, e104_16, e104_18, e104_19, e104_23, e104_24, e104_27, e104_30, e104_31, e104_34, e104_37, e104_38, e104_41, e104_43, e104_44, e104_45, e104_47, e104_49, e104_50, e104_53, e104_55, e104_56, e104_59, e104_61, e104_62, e104_65, e104_68, e104_71, e104_74, e104_76, am_bd_some, Option.toList_some, Option.toList_none, List.cons_append, List.nil_append, am_w8_0, am_w8_1, am_w8_2, am_w8_3, am_w8_4, eq_self, or_true, true_or, am_kd_sI, am_kd_sL, am_kd_sR, am_tc_sI, am_tc_sL, am_tc_sR, am_len_sI, am_len_sL, am_len_sR, am_rfs, if_true, if_false, am_rdL_sI, am_rR_sL, am_rt_cq, am_kd_cq, am_tc_cq, am_len_cq, am_rd_sL, am_rd_sR, am_rdL_sR, fo1, e5, h1, q_ctB, Nat.add_zero]
  | succ r ih =>
    intro j n z6 hj
    have h1 : ¬ nI (F_n f) ≤ nI j := nI_ge (by omega) (by omega)
    have x : am_ix (nI j) 6 = true := am_ix_nI (by omega) (by decide)
    have z : (nI j).toNatClampNeg = j := nI_clamp (by omega)
    have v := cc j (by omega)
    have ci := (fk.2.2.2.2.2.2.2.2.2.2.1 j (by omega)).2.1
    have c64 := ci.1
    have xc : am_ix (nI (F_cell f j)) 64 = true := am_ix_nI (by omega) (by decide)
    have zc : (nI (F_cell f j)).toNatClampNeg = F_cell f j := nI_clamp (by omega)
    obtain ⟨rS, hsj⟩ := hS _ ci
    have kj : (S (F_cell f j) = 1000 ∧ F_K f j = 1000000) ∨ (S (F_cell f j) < 64 ∧ F_K f j = S (F_cell f j)) := hsj.imp (fun w => ⟨w.1, by unfold F_K; rw [w.2]; rfl⟩) (fun w => ⟨w.1, by unfold F_K; rw [w.2]; rfl⟩)
    have sb : S (F_cell f b) ≤ 1000 := by omega
    have sj : S (F_cell f j) ≤ 1000 := by omega
    have q1 : nI (S (F_cell f j)) < nI (S (F_cell f b)) ↔ F_K f j < F_K f b := by
      rw [nI_ltI (by omega) (by omega)]
      omega
    have q2 : nI (S (F_cell f j)) = nI (S (F_cell f b)) ↔ F_K f j = F_K f b := by
      rw [nI_eq (by omega) (by omega)]
      omega
    have q3 : nI b ≤ nI j ↔ b ≤ j := nI_leI (by omega) (by omega)
    rw [e104_21]
    cases hp : q_ahd (F_K f) b j with
    | true =>
      have e : n + q_ctB (q_ahd (F_K f) b) (r + 1) j = n + 1 + q_ctB (q_ahd (F_K f) b) r (j + 1) := by
        rw [q_ctB, if_pos hp]
        omega
      rw [e]
      unfold q_ahd at hp
      rw [Bool.or_eq_true, Bool.and_eq_true, decide_eq_true_eq, decide_eq_true_eq, decide_eq_true_eq] at hp
      by_cases c1 : F_K f j < F_K f b
      · have c1' := q1.mpr c1
        simp only [e104_0, e104_1, e104_4, e104_7, e104_8, e104_11, e104_12, e104_13, e104_14, e104_15, e104_16, e104_18, e104_19, e104_23, e104_24, e104_27, e104_30, e104_31, e104_34, e104_37, e104_38, e104_41, e104_43, e104_44, e104_45, e104_47, e104_49, e104_50, e104_53, e104_55, e104_56, e104_59, e104_61, e104_62, e104_65, e104_68, e104_71, e104_74, e104_76, am_bd_some, Option.toList_some, Option.toList_none, List.cons_append, List.nil_append, am_w8_0, am_w8_1, am_w8_2, am_w8_3, am_w8_4, eq_self, or_true, true_or, am_kd_sI, am_kd_sL, am_kd_sR, am_tc_sI, am_tc_sL, am_tc_sR, am_len_sI, am_len_sL, am_len_sR, am_rfs, if_true, if_false, am_rdL_sI, am_rR_sL, am_rt_cq, am_kd_cq, am_tc_cq, am_len_cq, am_rd_sL, am_rd_sR, am_rdL_sR, fo1, fo3, q_tc fo5, q_ln fo5, e5, h1, okK_0 ok, okR_0_8 ok, okK_199 ok, okR_199_0 ok, okT_200 ok, okL_200 ok, x, z, v, xc, zc, rS, c1', nI_1]
        exact ih (j + 1) (n + 1) _ (by omega)
      · have c1' : ¬ nI (S (F_cell f j)) < nI (S (F_cell f b)) := fun w => c1 (q1.mp w)
        obtain ⟨c2, c3⟩ := hp.resolve_left c1
        have c2' := eq_true (q2.mpr c2)
        have c3' : ¬ nI b ≤ nI j := fun w => by have := q3.mp w; omega
        simp only [e104_0, e104_1, e104_4, e104_7, e104_8, e104_11, e104_12, e104_13, e104_14, e104_15, e104_16, e104_18, e104_19, e104_23, e104_24, e104_27, e104_30, e104_31, e104_34, e104_37, e104_38, e104_41, e104_43, e104_44, e104_45, e104_47, e104_49, e104_50, e104_53, e104_55, e104_56, e104_59, e104_61, e104_62, e104_65, e104_68, e104_71, e104_74, e104_76, am_bd_some, Option.toList_some, Option.toList_none, List.cons_append, List.nil_append, am_w8_0, am_w8_1, am_w8_2, am_w8_3, am_w8_4, eq_self, or_true, true_or, am_kd_sI, am_kd_sL, am_kd_sR, am_tc_sI, am_tc_sL, am_tc_sR, am_len_sI, am_len_sL, am_len_sR, am_rfs, if_true, if_false, am_rdL_sI, am_rR_sL, am_rt_cq, am_kd_cq, am_tc_cq, am_len_cq, am_rd_sL, am_rd_sR, am_rdL_sR, fo1, fo3, q_tc fo5, q_ln fo5, e5, h1, okK_0 ok, okR_0_8 ok, okK_199 ok, okR_199_0 ok, okT_200 ok, okL_200 ok, x, z, v, xc, zc, rS, c1', c2', not_true, c3', nI_1]
        exact ih (j + 1) (n + 1) _ (by omega)
    | false =>
      have e : n + q_ctB (q_ahd (F_K f) b) (r + 1) j = n + q_ctB (q_ahd (F_K f) b) r (j + 1) := by
        rw [q_ctB, if_neg (by rw [hp]; decide), Nat.zero_add]
      rw [e]
      have hp' : ¬ (F_K f j < F_K f b ∨ (F_K f j = F_K f b ∧ j < b)) := fun w => by
        have : q_ahd (F_K f) b j = true := by
          unfold q_ahd
          rw [Bool.or_eq_true, Bool.and_eq_true, decide_eq_true_eq, decide_eq_true_eq, decide_eq_true_eq]
          exact w
        rw [hp] at this
        cases this
      have c1' : ¬ nI (S (F_cell f j)) < nI (S (F_cell f b)) := fun w => hp' (Or.inl (q1.mp w))
      by_cases c2 : F_K f j = F_K f b
      · have c2' := eq_true (q2.mpr c2)
        have c3' : nI b ≤ nI j := q3.mpr (Nat.le_of_not_lt (fun w => hp' (Or.inr ⟨c2, w⟩)))
        simp only [e104_0, e104_1, e104_4, e104_7, e104_8, e104_11, e104_12, e104_13, e104_14, e104_15, e104_16, e104_18, e104_19, e104_23, e104_24, e104_27, e104_30, e104_31, e104_34, e104_37, e104_38, e104_41, e104_43, e104_44, e104_45, e104_47, e104_49, e104_50, e104_53, e104_55, e104_56, e104_59, e104_61, e104_62, e104_65, e104_68, e104_71, e104_74, e104_76, am_bd_some, Option.toList_some, Option.toList_none, List.cons_append, List.nil_append, am_w8_0, am_w8_1, am_w8_2, am_w8_3, am_w8_4, eq_self, or_true, true_or, am_kd_sI, am_kd_sL, am_kd_sR, am_tc_sI, am_tc_sL, am_tc_sR, am_len_sI, am_len_sL, am_len_sR, am_rfs, if_true, if_false, am_rdL_sI, am_rR_sL, am_rt_cq, am_kd_cq, am_tc_cq, am_len_cq, am_rd_sL, am_rd_sR, am_rdL_sR, fo1, fo3, q_tc fo5, q_ln fo5, e5, h1, okK_0 ok, okR_0_8 ok, okK_199 ok, okR_199_0 ok, okT_200 ok, okL_200 ok, x, z, v, xc, zc, rS, c1', c2', not_true, c3', nI_1]
        exact ih (j + 1) n _ (by omega)
      · have c2' : ¬ nI (S (F_cell f j)) = nI (S (F_cell f b)) := fun w => c2 (q2.mp w)
        simp only [e104_0, e104_1, e104_4, e104_7, e104_8, e104_11, e104_12, e104_13, e104_14, e104_15, e104_16, e104_18, e104_19, e104_23, e104_24, e104_27, e104_30, e104_31, e104_34, e104_37, e104_38, e104_41, e104_43, e104_44, e104_45, e104_47, e104_49, e104_50, e104_53, e104_55, e104_56, e104_59, e104_61, e104_62, e104_65, e104_68, e104_71, e104_74, e104_76, am_bd_some, Option.toList_some, Option.toList_none, List.cons_append, List.nil_append, am_w8_0, am_w8_1, am_w8_2, am_w8_3, am_w8_4, eq_self, or_true, true_or, am_kd_sI, am_kd_sL, am_kd_sR, am_tc_sI, am_tc_sL, am_tc_sR, am_len_sI, am_len_sL, am_len_sR, am_rfs, if_true, if_false, am_rdL_sI, am_rR_sL, am_rt_cq, am_kd_cq, am_tc_cq, am_len_cq, am_rd_sL, am_rd_sR, am_rdL_sR, fo1, fo3, q_tc fo5, q_ln fo5, e5, h1, okK_0 ok, okR_0_8 ok, okK_199 ok, okR_199_0 ok, okT_200 ok, okL_200 ok, x, z, v, xc, zc, rS, c1', c2', not_false_eq_true, nI_1]
        exact ih (j + 1) n _ (by omega)
theorem den_ahead (o : Nat) (f : q_Fl) (fk : F_ok f) (S : Nat → Nat) (h : am_H) (ok : am_okH h) (cF : q_cF h o f) (hS : ∀ v, F_in f v → h.1 200 v = nI (S v) ∧ ((S v = 1000 ∧ q_D f (F_pen f) v = none) ∨ (S v < 64 ∧ q_D f (F_pen f) v = some (S v)))) (b : Nat) (hb : b < F_n f) : am_den 104 [.ref 0, .ref o, .int (nI b)] h = some (some (.int (nI (q_aN (F_K f) (F_n f) b))), h) := by
  have n6 := fk.wf.2.2.2.1
  have lp := q_ai_c o f fk S h ok cF hS b hb (F_n f) 0 0 none (by omega)
  rw [Nat.zero_add, nI_0] at lp
  obtain ⟨cf, -, cc⟩ := cF
  obtain ⟨fo1, fo2, fo3, fo4, fo5⟩ := cf.1
  have x : am_ix (nI b) 6 = true := am_ix_nI (by omega) (by decide)
  have z : (nI b).toNatClampNeg = b := nI_clamp (by omega)
  have v := cc b hb
  have ci := (fk.2.2.2.2.2.2.2.2.2.2.1 b hb).2.1
  have c64 := ci.1
  have xc : am_ix (nI (F_cell f b)) 64 = true := am_ix_nI (by omega) (by decide)
  have zc : (nI (F_cell f b)).toNatClampNeg = F_cell f b := nI_clamp (by omega)
  have rS := (hS _ ci).1
  show am_ev 104 0 [some (.ref 0), some (.ref o), some (.int (nI b)), none, none, none, none] [] h = _
  simp only [e104_0, e104_1, e104_4, e104_7, e104_8, e104_11, e104_12, e104_13, e104_14, e104_15, e104_16, e104_18, e104_19, e104_23, e104_24, e104_27, e104_30, e104_31, e104_34, e104_37, e104_38, e104_41, e104_43, e104_44, e104_45, e104_47, e104_49, e104_50, e104_53, e104_55, e104_56, e104_59, e104_61, e104_62, e104_65, e104_68, e104_71, e104_74, e104_76, am_bd_some, Option.toList_some, Option.toList_none, List.cons_append, List.nil_append, am_w8_0, am_w8_1, am_w8_2, am_w8_3, am_w8_4, eq_self, or_true, true_or, am_kd_sI, am_kd_sL, am_kd_sR, am_tc_sI, am_tc_sL, am_tc_sR, am_len_sI, am_len_sL, am_len_sR, am_rfs, if_true, if_false, am_rdL_sI, am_rR_sL, am_rt_cq, am_kd_cq, am_tc_cq, am_len_cq, am_rd_sL, am_rd_sR, am_rdL_sR, fo1, fo3, q_tc fo5, q_ln fo5, okK_0 ok, okR_0_8 ok, okK_199 ok, okR_199_0 ok, okT_200 ok, okL_200 ok, x, z, v, xc, zc, rS]
  exact lp
theorem q_ln_c (o : Nat) (f : q_Fl) (fk : F_ok f) (S : Nat → Nat) (h : am_H) (ok : am_okH h) (cF : q_cF h o f) (hS : ∀ v, F_in f v → h.1 200 v = nI (S v) ∧ ((S v = 1000 ∧ q_D f (F_pen f) v = none) ∨ (S v < 64 ∧ q_D f (F_pen f) v = some (S v)))) (a1 k : Int32) : ∀ (r b : Nat), b + r = F_n f → am_ev 103 36 [some (.ref 0), some (.int a1), some (.int k), some (.ref o), some (.int (nI b))] [] h = some (some (.int (q_ov (q_first (fun b => decide (nI (q_aN (F_K f) (F_n f) b) = k)) r b))), h) := by
  have n6 := fk.wf.2.2.2.1
  have e5 := cF.1.2.2.2.2.2.1
  have fo1 := cF.1.1.1
  intro r
  induction r with
  | zero =>
    intro b hb
    obtain rfl : b = F_n f := by omega
    have h1 : nI (F_n f) ≤ nI (F_n f) := Int32.le_refl _
    rw [e103_36]
    simp only [e103_0, e103_1, e103_2, e103_3, e103_6, e103_9, e103_10, e103_11, e103_12, e103_15, e103_18, e103_19f, e103_19d, e103_19b, e103_19l, e103_19t, e103_20, e103_21, e103_22, e103_25, e103_26, e103_27, e103_30, e103_33, e103_34, e103_38, e103_39, e103_42, e103_45, e103_46, e103_47, e103_49, e103_52, e103_53, e103_56, e103_58, e103_59, e103_62, e103_65, e103_66, am_bd_some, Option.toList_some, Option.toList_none, List.cons_append, List.nil_append, am_w8_0, am_w8_1, am_w8_2, am_w8_3, am_w8_4, eq_self, or_true, true_or, am_kd_sI, am_kd_sL, am_kd_sR, am_tc_sI, am_tc_sL, am_tc_sR, am_len_sI, am_len_sL, am_len_sR, am_rfs, if_true, if_false, am_rdL_sI, am_rR_sL, am_rt_cq, am_kd_cq, am_tc_cq, am_len_cq, am_rd_sL, am_rd_sR, am_rdL_sR, fo1, e5, h1, q_first]
    rfl
  | succ r ih =>
    intro b hb
    have h1 : ¬ nI (F_n f) ≤ nI b := nI_ge (by omega) (by omega)
    have da := den_ahead o f fk S h ok cF hS b (by omega)
    rw [e103_36, q_first]
    by_cases c : nI (q_aN (F_K f) (F_n f) b) = k
    · rw [if_pos (decide_eq_true c)]
      have c' := eq_true c
      simp only [e103_0, e103_1, e103_2, e103_3, e103_6, e103_9, e103_10, e103_11, e103_12, e103_15, e103_18, e103_19f, e103_19d, e103_19b, e103_19l, e103_19t, e103_20, e103_21, e103_22, e103_25, e103_26, e103_27, e103_30, e103_33, e103_34, e103_38, e103_39, e103_42, e103_45, e103_46, e103_47, e103_49, e103_52, e103_53, e103_56, e103_58, e103_59, e103_62, e103_65, e103_66, am_bd_some, Option.toList_some, Option.toList_none, List.cons_append, List.nil_append, am_w8_0, am_w8_1, am_w8_2, am_w8_3, am_w8_4, eq_self, or_true, true_or, am_kd_sI, am_kd_sL, am_kd_sR, am_tc_sI, am_tc_sL, am_tc_sR, am_len_sI, am_len_sL, am_len_sR, am_rfs, if_true, if_false, am_rdL_sI, am_rR_sL, am_rt_cq, am_kd_cq, am_tc_cq, am_len_cq, am_rd_sL, am_rd_sR, am_rdL_sR, fo1, e5, h1, okK_0 ok, da, c', not_true]
      rfl
    · rw [if_neg (by rw [decide_eq_true_eq]; exact c)]
      simp only [e103_0, e103_1, e103_2, e103_3, e103_6, e103_9, e103_10, e103_11, e103_12, e103_15, e103_18, e103_19f, e103_19d, e103_19b, e103_19l, e103_19t, e103_20, e103_21, e103_22, e103_25, e103_26, e103_27, e103_30, e103_33, e103_34, e103_38, e103_39, e103_42, e103_45, e103_46, e103_47, e103_49, e103_52, e103_53, e103_56, e103_58, e103_59, e103_62, e103_65, e103_66, am_bd_some, Option.toList_some, Option.toList_none, List.cons_append, List.nil_append, am_w8_0, am_w8_1, am_w8_2, am_w8_3, am_w8_4, eq_self, or_true, true_or, am_kd_sI, am_kd_sL, am_kd_sR, am_tc_sI, am_tc_sL, am_tc_sR, am_len_sI, am_len_sL, am_len_sR, am_rfs, if_true, if_false, am_rdL_sI, am_rR_sL, am_rt_cq, am_kd_cq, am_tc_cq, am_len_cq, am_rd_sL, am_rd_sR, am_rdL_sR, fo1, e5, h1, okK_0 ok, da, c, not_false_eq_true, nI_1]
      exact ih (b + 1) (by omega)
def q_mSt (f : q_Fl) (h : am_H) : Prop := ∀ v, F_in f v → (q_D f (F_pen f) v = none ∧ h.1 230 (q_nm f v) = 1000000) ∨ ∃ n, n < 1000000 ∧ q_D f (F_pen f) v = some n ∧ h.1 230 (q_nm f v) = nI n
theorem q_mSt.val {f : q_Fl} {h : am_H} (hS : q_mSt f h) (fk : F_ok f) (b : Nat) (hb : b < F_n f) : h.1 230 (q_nm f (F_cell f b)) = nI (F_K f b) ∧ F_K f b ≤ 1000000 := by
  unfold F_K
  rcases hS _ (fk.2.2.2.2.2.2.2.2.2.2.1 b hb).2.1 with ⟨hd, e⟩ | ⟨n, hl, hd, e⟩
  · rw [hd]
    exact ⟨e, Nat.le_refl _⟩
  · rw [hd]
    exact ⟨e, Nat.le_of_lt hl⟩
theorem q_ai_m (f : q_Fl) (fk : F_ok f) (h : am_H) (mg : q_mg h f (G_0 f)) (hS : q_mSt f h) (a1 k : Int32) (b : Nat) (hb : b < F_n f) : ∀ (r j n : Nat) (z6 : Option Value), j + r = F_n f → ∃ z6' : Option Value, am_ev 278 39 [some (.ref 211), some (.int a1), some (.int k), some (.int (nI b)), some (.int (nI n)), some (.int (nI j)), z6] [] h = am_ev 278 106 [some (.ref 211), some (.int a1), some (.int k), some (.int (nI b)), some (.int (nI (n + q_ctB (q_ahd (F_K f) b) r j))), some (.int (nI (F_n f))), z6'] [] h := by
  have wf := fk.wf
  have n6 := wf.2.2.2.1
  have ok := mg.1.1
  have a5 := mg.1.2.2.2.2.2.1
  have ea := mg.2.2.1
  have xb : am_ix (nI b) 6 = true := am_ix_nI (by omega) (by decide)
  have zb : (nI b).toNatClampNeg = b := nI_clamp (by omega)
  have vb : h.1 225 b = nI (q_nm f (F_cell f b)) := ea b hb
  have cb := q_nm_64 wf (fk.2.2.2.2.2.2.2.2.2.2.1 b hb).2.1
  have xcb : am_ix (nI (q_nm f (F_cell f b))) 64 = true := am_ix_nI (by omega) (by decide)
  have zcb : (nI (q_nm f (F_cell f b))).toNatClampNeg = q_nm f (F_cell f b) := nI_clamp (by omega)
  obtain ⟨rb, lb⟩ := hS.val fk b hb
  intro r
  induction r with
  | zero =>
    intro j n z6 hj
    obtain rfl : j = F_n f := by omega
    have h1 : nI (F_n f) ≤ nI (F_n f) := Int32.le_refl _
    refine ⟨z6, ?_⟩
    rw [e278_39]
    simp only [e278_0, e278_1, e278_2, e278_5, e278_6, e278_7, e278_10, e278_13, e278_14, e278_15, e278_16, e278_17, e278_20, e278_23, e278_24, e278_25, e278_26, e278_27, e278_30, e278_33, e278_34, e278_36, e278_37, e278_41, e278_42, e278_45, e278_48, e278_49, e278_52, e278_53, e278_56, e278_58, e278_59, e278_60, e278_61, e278_64, e278_65, e278_68, e278_69, e278_70, e278_71, e278_72, e278_74, e278_76, e278_78, e278_81, e278_83, e278_86, e278_88, e278_89, e278_92, e278_93, e278_96, e278_97, e278_98, e278_100, e278_103, e278_108, e278_109, e278_112, e278_113, e278_114, e278_117, e278_120, e278_121, am_bd_some, Option.toList_some, Option.toList_none, List.cons_append, List.nil_append, am_w8_0, am_w8_1, am_w8_2, am_w8_3, am_w8_4, eq_self, or_true, true_or, am_kd_sI, am_kd_sL, am_kd_sR, am_tc_sI, am_tc_sL, am_tc_sR, am_len_sI, am_len_sL, am_len_sR, am_rfs, if_true, if_false, am_rdL_sI, am_rR_sL, am_rt_cq, am_kd_cq, am_tc_cq, am_len_cq, am_rd_sL, am_rd_sR, am_rdL_sR, okK_211 ok, a5, h1, q_ctB, Nat.add_zero]
  | succ r ih =>
    intro j n z6 hj
    have h1 : ¬ nI (F_n f) ≤ nI j := nI_ge (by omega) (by omega)
    have x : am_ix (nI j) 6 = true := am_ix_nI (by omega) (by decide)
    have z : (nI j).toNatClampNeg = j := nI_clamp (by omega)
    have v : h.1 225 j = nI (q_nm f (F_cell f j)) := ea j (by omega)
    have cj := q_nm_64 wf (fk.2.2.2.2.2.2.2.2.2.2.1 j (by omega)).2.1
    have xc : am_ix (nI (q_nm f (F_cell f j))) 64 = true := am_ix_nI (by omega) (by decide)
    have zc : (nI (q_nm f (F_cell f j))).toNatClampNeg = q_nm f (F_cell f j) := nI_clamp (by omega)
    obtain ⟨rj, lj⟩ := hS.val fk j (by omega)
    have sub := pk_sub_toInt (a := F_K f j) (b := F_K f b) (by omega) (by omega)
    have q1 : nI (F_K f j) - nI (F_K f b) < 0 ↔ F_K f j < F_K f b := by
      rw [Int32.lt_iff_toInt_lt, sub]
      have b0 : (0 : Int32).toInt = 0 := by decide
      rw [b0]
      omega
    have q2 : nI (F_K f j) - nI (F_K f b) = 0 ↔ F_K f j = F_K f b := by
      rw [← Int32.toInt_inj, sub]
      have b0 : (0 : Int32).toInt = 0 := by decide
      rw [b0]
      omega
    have q3 : nI b ≤ nI j ↔ b ≤ j := nI_leI (by omega) (by omega)
    rw [e278_39]
    cases hp : q_ahd (F_K f) b j with
    | true =>
      have e : n + q_ctB (q_ahd (F_K f) b) (r + 1) j = n + 1 + q_ctB (q_ahd (F_K f) b) r (j + 1) := by
        rw [q_ctB, if_pos hp]
        omega
      rw [e]
      unfold q_ahd at hp
      rw [Bool.or_eq_true, Bool.and_eq_true, decide_eq_true_eq, decide_eq_true_eq, decide_eq_true_eq] at hp
      obtain ⟨z', s2⟩ := ih (j + 1) (n + 1) (some (.int (nI (F_K f j) - nI (F_K f b)))) (by omega)
      refine ⟨z', ?_⟩
      by_cases c1 : F_K f j < F_K f b
      · have c1' := q1.mpr c1
        simp only [e278_0, e278_1, e278_2, e278_5, e278_6, e278_7, e278_10, e278_13, e278_14, e278_15, e278_16, e278_17, e278_20, e278_23, e278_24, e278_25, e278_26, e278_27, e278_30, e278_33, e278_34, e278_36, e278_37, e278_41, e278_42, e278_45, e278_48, e278_49, e278_52, e278_53, e278_56, e278_58, e278_59, e278_60, e278_61, e278_64, e278_65, e278_68, e278_69, e278_70, e278_71, e278_72, e278_74, e278_76, e278_78, e278_81, e278_83, e278_86, e278_88, e278_89, e278_92, e278_93, e278_96, e278_97, e278_98, e278_100, e278_103, e278_108, e278_109, e278_112, e278_113, e278_114, e278_117, e278_120, e278_121, am_bd_some, Option.toList_some, Option.toList_none, List.cons_append, List.nil_append, am_w8_0, am_w8_1, am_w8_2, am_w8_3, am_w8_4, eq_self, or_true, true_or, am_kd_sI, am_kd_sL, am_kd_sR, am_tc_sI, am_tc_sL, am_tc_sR, am_len_sI, am_len_sL, am_len_sR, am_rfs, if_true, if_false, am_rdL_sI, am_rR_sL, am_rt_cq, am_kd_cq, am_tc_cq, am_len_cq, am_rd_sL, am_rd_sR, am_rdL_sR, okK_211 ok, okR_211_36 ok, okR_211_44 ok, okT_225 ok, okL_225 ok, okT_230 ok, okL_230 ok, a5, h1, x, z, v, xc, zc, rj, xb, zb, vb, xcb, zcb, rb, c1', nI_1]
        exact s2
      · have c1' : ¬ nI (F_K f j) - nI (F_K f b) < 0 := fun w => c1 (q1.mp w)
        obtain ⟨c2, c3⟩ := hp.resolve_left c1
        have c2' := eq_true (q2.mpr c2)
        have c3' : ¬ nI b ≤ nI j := fun w => by have := q3.mp w; omega
        simp only [e278_0, e278_1, e278_2, e278_5, e278_6, e278_7, e278_10, e278_13, e278_14, e278_15, e278_16, e278_17, e278_20, e278_23, e278_24, e278_25, e278_26, e278_27, e278_30, e278_33, e278_34, e278_36, e278_37, e278_41, e278_42, e278_45, e278_48, e278_49, e278_52, e278_53, e278_56, e278_58, e278_59, e278_60, e278_61, e278_64, e278_65, e278_68, e278_69, e278_70, e278_71, e278_72, e278_74, e278_76, e278_78, e278_81, e278_83, e278_86, e278_88, e278_89, e278_92, e278_93, e278_96, e278_97, e278_98, e278_100, e278_103, e278_108, e278_109, e278_112, e278_113, e278_114, e278_117, e278_120, e278_121, am_bd_some, Option.toList_some, Option.toList_none, List.cons_append, List.nil_append, am_w8_0, am_w8_1, am_w8_2, am_w8_3, am_w8_4, eq_self, or_true, true_or, am_kd_sI, am_kd_sL, am_kd_sR, am_tc_sI, am_tc_sL, am_tc_sR, am_len_sI, am_len_sL, am_len_sR, am_rfs, if_true, if_false, am_rdL_sI, am_rR_sL, am_rt_cq, am_kd_cq, am_tc_cq, am_len_cq, am_rd_sL, am_rd_sR, am_rdL_sR, okK_211 ok, okR_211_36 ok, okR_211_44 ok, okT_225 ok, okL_225 ok, okT_230 ok, okL_230 ok, a5, h1, x, z, v, xc, zc, rj, xb, zb, vb, xcb, zcb, rb, c1', c2', not_true, c3', nI_1]
        exact s2
    | false =>
      have e : n + q_ctB (q_ahd (F_K f) b) (r + 1) j = n + q_ctB (q_ahd (F_K f) b) r (j + 1) := by
        rw [q_ctB, if_neg (by rw [hp]; decide), Nat.zero_add]
      rw [e]
      have hp' : ¬ (F_K f j < F_K f b ∨ (F_K f j = F_K f b ∧ j < b)) := fun w => by
        have : q_ahd (F_K f) b j = true := by
          unfold q_ahd
          rw [Bool.or_eq_true, Bool.and_eq_true, decide_eq_true_eq, decide_eq_true_eq, decide_eq_true_eq]
          exact w
        rw [hp] at this
        cases this
      have c1' : ¬ nI (F_K f j) - nI (F_K f b) < 0 := fun w => hp' (Or.inl (q1.mp w))
      obtain ⟨z', s2⟩ := ih (j + 1) n (some (.int (nI (F_K f j) - nI (F_K f b)))) (by omega)
      refine ⟨z', ?_⟩
      by_cases c2 : F_K f j = F_K f b
      · have c2' := eq_true (q2.mpr c2)
        have c3' : nI b ≤ nI j := q3.mpr (Nat.le_of_not_lt (fun w => hp' (Or.inr ⟨c2, w⟩)))
        simp only [e278_0, e278_1, e278_2, e278_5, e278_6, e278_7, e278_10, e278_13, e278_14, e278_15, e278_16, e278_17, e278_20, e278_23, e278_24, e278_25, e278_26, e278_27, e278_30, e278_33, e278_34, e278_36, e278_37, e278_41, e278_42, e278_45, e278_48, e278_49, e278_52, e278_53, e278_56, e278_58, e278_59, e278_60, e278_61, e278_64, e278_65, e278_68, e278_69, e278_70, e278_71, e278_72, e278_74, e278_76, e278_78, e278_81, e278_83, e278_86, e278_88, e278_89, e278_92, e278_93, e278_96, e278_97, e278_98, e278_100, e278_103, e278_108, e278_109, e278_112, e278_113, e278_114, e278_117, e278_120, e278_121, am_bd_some, Option.toList_some, Option.toList_none, List.cons_append, List.nil_append, am_w8_0, am_w8_1, am_w8_2, am_w8_3, am_w8_4, eq_self, or_true, true_or, am_kd_sI, am_kd_sL, am_kd_sR, am_tc_sI, am_tc_sL, am_tc_sR, am_len_sI, am_len_sL, am_len_sR, am_rfs, if_true, if_false, am_rdL_sI, am_rR_sL, am_rt_cq, am_kd_cq, am_tc_cq, am_len_cq, am_rd_sL, am_rd_sR, am_rdL_sR, okK_211 ok, okR_211_36 ok, okR_211_44 ok, okT_225 ok, okL_225 ok, okT_230 ok, okL_230 ok, a5, h1, x, z, v, xc, zc, rj, xb, zb, vb, xcb, zcb, rb, c1', c2', not_true, c3', Int32.add_zero, nI_1]
        exact s2
      · have c2' : ¬ nI (F_K f j) - nI (F_K f b) = 0 := fun w => c2 (q2.mp w)
        simp only [e278_0, e278_1, e278_2, e278_5, e278_6, e278_7, e278_10, e278_13, e278_14, e278_15, e278_16, e278_17, e278_20, e278_23, e278_24, e278_25, e278_26, e278_27, e278_30, e278_33, e278_34, e278_36, e278_37, e278_41, e278_42, e278_45, e278_48, e278_49, e278_52, e278_53, e278_56, e278_58, e278_59, e278_60, e278_61, e278_64, e278_65, e278_68, e278_69, e278_70, e278_71, e278_72, e278_74, e278_76, e278_78, e278_81, e278_83, e278_86, e278_88, e278_89, e278_92, e278_93, e278_96, e278_97, e278_98, e278_100, e278_103, e278_108, e278_109, e278_112, e278_113, e278_114, e278_117, e278_120, e278_121, am_bd_some, Option.toList_some, Option.toList_none, List.cons_append, List.nil_append, am_w8_0, am_w8_1, am_w8_2, am_w8_3, am_w8_4, eq_self, or_true, true_or, am_kd_sI, am_kd_sL, am_kd_sR, am_tc_sI, am_tc_sL, am_tc_sR, am_len_sI, am_len_sL, am_len_sR, am_rfs, if_true, if_false, am_rdL_sI, am_rR_sL, am_rt_cq, am_kd_cq, am_tc_cq, am_len_cq, am_rd_sL, am_rd_sR, am_rdL_sR, okK_211 ok, okR_211_36 ok, okR_211_44 ok, okT_225 ok, okL_225 ok, okT_230 ok, okL_230 ok, a5, h1, x, z, v, xc, zc, rj, xb, zb, vb, xcb, zcb, rb, c1', c2', not_false_eq_true, Int32.add_zero, nI_1]
        exact s2
theorem q_ln_m (f : q_Fl) (fk : F_ok f) (h : am_H) (mg : q_mg h f (G_0 f)) (hS : q_mSt f h) (a1 k : Int32) : ∀ (r b : Nat) (z4 z5 z6 : Option Value), b + r = F_n f → am_ev 278 25 [some (.ref 211), some (.int a1), some (.int k), some (.int (nI b)), z4, z5, z6] [] h = some (some (.int (q_ov (q_first (fun b => decide (nI (q_aN (F_K f) (F_n f) b) = k)) r b))), h) := by
  have n6 := fk.wf.2.2.2.1
  have ok := mg.1.1
  have a5 := mg.1.2.2.2.2.2.1
  intro r
  induction r with
  | zero =>
    intro b z4 z5 z6 hb
    obtain rfl : b = F_n f := by omega
    have h1 : nI (F_n f) ≤ nI (F_n f) := Int32.le_refl _
    rw [e278_25]
    simp only [e278_0, e278_1, e278_2, e278_5, e278_6, e278_7, e278_10, e278_13, e278_14, e278_15, e278_16, e278_17, e278_20, e278_23, e278_24, e278_26, e278_27, e278_30, e278_33, e278_34, e278_36, e278_37, e278_39, e278_41, e278_42, e278_45, e278_48, e278_49, e278_52, e278_53, e278_56, e278_58, e278_59, e278_60, e278_61, e278_64, e278_65, e278_68, e278_69, e278_70, e278_71, e278_72, e278_74, e278_76, e278_78, e278_81, e278_83, e278_86, e278_88, e278_89, e278_92, e278_93, e278_96, e278_97, e278_98, e278_100, e278_103, e278_106, e278_108, e278_109, e278_112, e278_113, e278_114, e278_117, e278_120, e278_121, am_bd_some, Option.toList_some, Option.toList_none, List.cons_append, List.nil_append, am_w8_0, am_w8_1, am_w8_2, am_w8_3, am_w8_4, eq_self, or_true, true_or, am_kd_sI, am_kd_sL, am_kd_sR, am_tc_sI, am_tc_sL, am_tc_sR, am_len_sI, am_len_sL, am_len_sR, am_rfs, if_true, if_false, am_rdL_sI, am_rR_sL, am_rt_cq, am_kd_cq, am_tc_cq, am_len_cq, am_rd_sL, am_rd_sR, am_rdL_sR, okK_211 ok, a5, h1, q_first]
    rfl
  | succ r ih =>
    intro b z4 z5 z6 hb
    have h1 : ¬ nI (F_n f) ≤ nI b := nI_ge (by omega) (by omega)
    obtain ⟨z6', s1⟩ := q_ai_m f fk h mg hS a1 k b (by omega) (F_n f) 0 0 z6 (by omega)
    rw [Nat.zero_add, nI_0] at s1
    have e : q_ctB (q_ahd (F_K f) b) (F_n f) 0 = q_aN (F_K f) (F_n f) b := rfl
    rw [e] at s1
    rw [e278_25, q_first]
    simp only [e278_0, e278_1, e278_2, e278_5, e278_6, e278_7, e278_10, e278_13, e278_14, e278_15, e278_16, e278_17, e278_20, e278_23, e278_24, e278_26, e278_27, e278_30, e278_33, e278_34, e278_36, e278_37, e278_41, e278_42, e278_45, e278_48, e278_49, e278_52, e278_53, e278_56, e278_58, e278_59, e278_60, e278_61, e278_64, e278_65, e278_68, e278_69, e278_70, e278_71, e278_72, e278_74, e278_76, e278_78, e278_81, e278_83, e278_86, e278_88, e278_89, e278_92, e278_93, e278_96, e278_97, e278_98, e278_100, e278_103, e278_106, e278_108, e278_109, e278_112, e278_113, e278_114, e278_117, e278_120, e278_121, am_bd_some, Option.toList_some, Option.toList_none, List.cons_append, List.nil_append, am_w8_0, am_w8_1, am_w8_2, am_w8_3, am_w8_4, eq_self, or_true, true_or, am_kd_sI, am_kd_sL, am_kd_sR, am_tc_sI, am_tc_sL, am_tc_sR, am_len_sI, am_len_sL, am_len_sR, am_rfs, if_true, if_false, am_rdL_sI, am_rR_sL, am_rt_cq, am_kd_cq, am_tc_cq, am_len_cq, am_rd_sL, am_rd_sR, am_rdL_sR, okK_211 ok, a5, h1]
    rw [s1]
    by_cases c : nI (q_aN (F_K f) (F_n f) b) = k
    · rw [if_pos (decide_eq_true c)]
      have c' := eq_true c
      simp only [e278_0, e278_1, e278_2, e278_5, e278_6, e278_7, e278_10, e278_13, e278_14, e278_15, e278_16, e278_17, e278_20, e278_23, e278_24, e278_26, e278_27, e278_30, e278_33, e278_34, e278_36, e278_37, e278_41, e278_42, e278_45, e278_48, e278_49, e278_52, e278_53, e278_56, e278_58, e278_59, e278_60, e278_61, e278_64, e278_65, e278_68, e278_69, e278_70, e278_71, e278_72, e278_74, e278_76, e278_78, e278_81, e278_83, e278_86, e278_88, e278_89, e278_92, e278_93, e278_96, e278_97, e278_98, e278_100, e278_103, e278_106, e278_108, e278_109, e278_112, e278_113, e278_114, e278_117, e278_120, e278_121, am_bd_some, Option.toList_some, Option.toList_none, List.cons_append, List.nil_append, am_w8_0, am_w8_1, am_w8_2, am_w8_3, am_w8_4, eq_self, or_true, true_or, am_kd_sI, am_kd_sL, am_kd_sR, am_tc_sI, am_tc_sL, am_tc_sR, am_len_sI, am_len_sL, am_len_sR, am_rfs, if_true, if_false, am_rdL_sI, am_rR_sL, am_rt_cq, am_kd_cq, am_tc_cq, am_len_cq, am_rd_sL, am_rd_sR, am_rdL_sR, c', not_true]
      rfl
    · rw [if_neg (by rw [decide_eq_true_eq]; exact c)]
      simp only [e278_0, e278_1, e278_2, e278_5, e278_6, e278_7, e278_10, e278_13, e278_14, e278_15, e278_16, e278_17, e278_20, e278_23, e278_24, e278_26, e278_27, e278_30, e278_33, e278_34, e278_36, e278_37, e278_41, e278_42, e278_45, e278_48, e278_49, e278_52, e278_53, e278_56, e278_58, e278_59, e278_60, e278_61, e278_64, e278_65, e278_68, e278_69, e278_70, e278_71, e278_72, e278_74, e278_76, e278_78, e278_81, e278_83, e278_86, e278_88, e278_89, e278_92, e278_93, e278_96, e278_97, e278_98, e278_100, e278_103, e278_106, e278_108, e278_109, e278_112, e278_113, e278_114, e278_117, e278_120, e278_121, am_bd_some, Option.toList_some, Option.toList_none, List.cons_append, List.nil_append, am_w8_0, am_w8_1, am_w8_2, am_w8_3, am_w8_4, eq_self, or_true, true_or, am_kd_sI, am_kd_sL, am_kd_sR, am_tc_sI, am_tc_sL, am_tc_sR, am_len_sI, am_len_sL, am_len_sR, am_rfs, if_true, if_false, am_rdL_sI, am_rR_sL, am_rt_cq, am_kd_cq, am_tc_cq, am_len_cq, am_rd_sL, am_rd_sR, am_rdL_sR, c, not_false_eq_true, nI_1]
      exact ih (b + 1) _ _ _ (by omega)
noncomputable def F_ln (f : q_Fl) (k : Int32) : Int32 := q_ov (q_first (fun b => decide (nI (q_aN (F_K f) (F_n f) b) = k)) (F_n f) 0)
noncomputable def q_lnA (A : q_All) (a k : Int32) : Int32 := if 0 ≤ a ∧ a < nI (A.2.1 0) then F_ln (A.2.2.1 a.toNatClampNeg) k else -1
theorem F_ln_no {f : q_Fl} (wf : F_wf f) {k : Int32} (h : ¬ (0 ≤ k ∧ k < nI (F_n f))) : F_ln f k = -1 := by
  have n6 := wf.2.2.2.1
  unfold F_ln
  cases hq : q_first (fun b => decide (nI (q_aN (F_K f) (F_n f) b) = k)) (F_n f) 0 with
  | none => rfl
  | some b =>
    obtain ⟨h1, h2, h3⟩ := q_first_lt _ _ _ _ hq
    have h4 := q_aN_lt (K := F_K f) (n := F_n f) (b := b) (by omega)
    have h5 := of_decide_eq_true h3
    exfalso
    apply h
    rw [← h5]
    exact ⟨nI_pos' (by omega), nI_lt h4 (by omega)⟩
theorem den_clined {A : q_All} {h : am_H} (H : q_Rel A h) (a k : Int32) : ∃ h' : am_H, q_wk h h' ∧ am_den 103 [.ref 0, .int a, .int k] h = some (some (.int (q_lnA A a k)), h') := by
  have ok := H.1
  have db := den_hasBeast H a k
  have y : ¬ (1 : Int32) = 0 := by decide
  show ∃ h' : am_H, q_wk h h' ∧ am_ev 103 0 [some (.ref 0), some (.int a), some (.int k), none, none] [] h = _
  unfold q_lnA
  by_cases c : q_fb2 A a k
  · have c' : (0 ≤ a ∧ a < nI (A.2.1 0)) ∧ (0 ≤ k ∧ k < nI (F_n (A.2.2.1 a.toNatClampNeg))) := c
    rw [if_pos c'] at db
    rw [if_pos c.1]
    obtain ⟨c1, c2, c3⟩ := H.cnt 0 (by decide)
    obtain ⟨i, hi, rfl⟩ := q_in2 c1 c.1
    obtain ⟨fk, cF, -⟩ := H.fl i hi
    have wf := fk.wf
    have z : (nI i).toNatClampNeg = i := nI_clamp (by omega)
    have x : am_ix (nI i) 2 = true := am_ix_nI (by omega) (by decide)
    have r := q_fo_ref ok i (by omega)
    have e2 : h.1 (8 + 16 * i) 2 = nI (F_pen (A.2.2.1 i)) := by
      rw [cF.1.2.2.2.1]
      exact if_pos fk.2.2.1.1
    obtain ⟨h1, S, w1, hS, s1⟩ := den_from (8 + 16 * i) (by omega) _ wf _ fk.2.2.1 h ok cF.1
    have lp := q_ln_c (8 + 16 * i) _ fk S h1 (w1.ok ok) (w1.cF (by omega) cF) hS (nI i) k (F_n (A.2.2.1 i)) 0 (by omega)
    rw [nI_0] at lp
    refine ⟨h1, w1.wk ok, ?_⟩
    rw [z]
    simp only [e103_0, e103_1, e103_2, e103_3, e103_6, e103_9, e103_10, e103_11, e103_12, e103_15, e103_18, e103_19f, e103_19d, e103_19b, e103_19l, e103_19t, e103_20, e103_21, e103_22, e103_25, e103_26, e103_27, e103_30, e103_33, e103_34, e103_38, e103_39, e103_42, e103_45, e103_46, e103_47, e103_49, e103_52, e103_53, e103_56, e103_58, e103_59, e103_62, e103_65, e103_66, am_bd_some, Option.toList_some, Option.toList_none, List.cons_append, List.nil_append, am_w8_0, am_w8_1, am_w8_2, am_w8_3, am_w8_4, eq_self, or_true, true_or, am_kd_sI, am_kd_sL, am_kd_sR, am_tc_sI, am_tc_sL, am_tc_sR, am_len_sI, am_len_sL, am_len_sR, am_rfs, if_true, if_false, am_rdL_sI, am_rR_sL, am_rt_cq, am_kd_cq, am_tc_cq, am_len_cq, am_rd_sL, am_rd_sR, am_rdL_sR, okK_0 ok, okR_0_0 ok, okK_1 ok, okR_1_5 ok, okT_4 ok, okL_4 ok, okR_0_8 ok, okK_199 ok, db, y, not_false_eq_true, x, z, r, cF.1.1.1, e2, s1]
    exact lp
  · have c' : ¬ ((0 ≤ a ∧ a < nI (A.2.1 0)) ∧ (0 ≤ k ∧ k < nI (F_n (A.2.2.1 a.toNatClampNeg)))) := c
    rw [if_neg c'] at db
    have e : (if 0 ≤ a ∧ a < nI (A.2.1 0) then F_ln (A.2.2.1 a.toNatClampNeg) k else -1) = -1 := by
      by_cases ca : 0 ≤ a ∧ a < nI (A.2.1 0)
      · rw [if_pos ca]
        obtain ⟨c1, c2, c3⟩ := H.cnt 0 (by decide)
        obtain ⟨i, hi, rfl⟩ := q_in2 c1 ca
        have z : (nI i).toNatClampNeg = i := nI_clamp (by omega)
        rw [z] at c' ⊢
        exact F_ln_no (H.fl i hi).1.wf (fun w => c' ⟨ca, w⟩)
      · rw [if_neg ca]
    rw [e]
    refine ⟨h, q_wk.rf ok, ?_⟩
    simp only [e103_0, e103_1, e103_2, e103_3, e103_6, e103_9, e103_10, e103_11, e103_12, e103_15, e103_18, e103_19f, e103_19d, e103_19b, e103_19l, e103_19t, e103_20, e103_21, e103_22, e103_25, e103_26, e103_27, e103_30, e103_33, e103_34, e103_38, e103_39, e103_42, e103_45, e103_46, e103_47, e103_49, e103_52, e103_53, e103_56, e103_58, e103_59, e103_62, e103_65, e103_66, am_bd_some, Option.toList_some, Option.toList_none, List.cons_append, List.nil_append, am_w8_0, am_w8_1, am_w8_2, am_w8_3, am_w8_4, eq_self, or_true, true_or, am_kd_sI, am_kd_sL, am_kd_sR, am_tc_sI, am_tc_sL, am_tc_sR, am_len_sI, am_len_sL, am_len_sR, am_rfs, if_true, if_false, am_rdL_sI, am_rR_sL, am_rt_cq, am_kd_cq, am_tc_cq, am_len_cq, am_rd_sL, am_rd_sR, am_rdL_sR, okK_0 ok, db, not_true]
theorem den_mlined {A : q_All} {h : am_H} (H : q_Rel A h) (a k : Int32) : ∃ h' : am_H, q_wk h h' ∧ am_den 278 [.ref 211, .int a, .int k] h = some (some (.int (q_lnA A a k)), h') := by
  have ok := H.1
  have h0 := H.2.1
  obtain ⟨c1, c2, c3⟩ := H.cnt 0 (by decide)
  have y : ¬ (1 : Int32) = 0 := by decide
  show ∃ h' : am_H, q_wk h h' ∧ am_ev 278 0 [some (.ref 211), some (.int a), some (.int k), none, none, none, none] [] h = _
  unfold q_lnA
  by_cases ca : 0 ≤ a ∧ a < nI (A.2.1 0)
  · rw [if_pos ca]
    obtain ⟨i, hi, rfl⟩ := q_in2 c1 ca
    obtain ⟨fk, cF, fm⟩ := H.fl i hi
    have wf := fk.wf
    have z : (nI i).toNatClampNeg = i := nI_clamp (by omega)
    obtain ⟨h1, f1, e24, g1, s1⟩ := den_hand1 h ok i (by omega) _ fk fm (A.2.1 0) c1 hi c3
    have ok1 := g1.1.1
    have a3 : h1.1 211 27 = nI (q_nm (A.2.2.1 i) (F_pen (A.2.2.1 i))) := by
      rw [g1.1.2.2.2.1]
      exact if_pos fk.2.2.1.1
    obtain ⟨h2, w2, hS, s2⟩ := den_findWalk _ wf _ _ fk.2.2.1 h1 g1
    have lp := q_ln_m _ fk h2 (w2.mg g1) hS (nI i) k (F_n (A.2.2.1 i)) 0 none none none (by omega)
    rw [nI_0] at lp
    refine ⟨h2, (f1.wk ok).tr (w2.wk ok1), ?_⟩
    rw [z]
    simp only [e278_0, e278_1, e278_2, e278_5, e278_6, e278_7, e278_10, e278_13, e278_14, e278_15, e278_16, e278_17, e278_20, e278_23, e278_24, e278_26, e278_27, e278_30, e278_33, e278_34, e278_36, e278_37, e278_39, e278_41, e278_42, e278_45, e278_48, e278_49, e278_52, e278_53, e278_56, e278_58, e278_59, e278_60, e278_61, e278_64, e278_65, e278_68, e278_69, e278_70, e278_71, e278_72, e278_74, e278_76, e278_78, e278_81, e278_83, e278_86, e278_88, e278_89, e278_92, e278_93, e278_96, e278_97, e278_98, e278_100, e278_103, e278_106, e278_108, e278_109, e278_112, e278_113, e278_114, e278_117, e278_120, e278_121, am_bd_some, Option.toList_some, Option.toList_none, List.cons_append, List.nil_append, am_w8_0, am_w8_1, am_w8_2, am_w8_3, am_w8_4, eq_self, or_true, true_or, am_kd_sI, am_kd_sL, am_kd_sR, am_tc_sI, am_tc_sL, am_tc_sR, am_len_sI, am_len_sL, am_len_sR, am_rfs, if_true, if_false, am_rdL_sI, am_rR_sL, am_rt_cq, am_kd_cq, am_tc_cq, am_len_cq, am_rd_sL, am_rd_sR, am_rdL_sR, okK_211 ok, am_sI_id h0, s1, y, not_false_eq_true, okK_211 ok1, a3, s2]
    exact lp
  · rw [if_neg ca]
    have s0 := den_hand0 h ok (A.2.1 0) c1 c3 a ca
    refine ⟨h, q_wk.rf ok, ?_⟩
    simp only [e278_0, e278_1, e278_2, e278_5, e278_6, e278_7, e278_10, e278_13, e278_14, e278_15, e278_16, e278_17, e278_20, e278_23, e278_24, e278_26, e278_27, e278_30, e278_33, e278_34, e278_36, e278_37, e278_39, e278_41, e278_42, e278_45, e278_48, e278_49, e278_52, e278_53, e278_56, e278_58, e278_59, e278_60, e278_61, e278_64, e278_65, e278_68, e278_69, e278_70, e278_71, e278_72, e278_74, e278_76, e278_78, e278_81, e278_83, e278_86, e278_88, e278_89, e278_92, e278_93, e278_96, e278_97, e278_98, e278_100, e278_103, e278_106, e278_108, e278_109, e278_112, e278_113, e278_114, e278_117, e278_120, e278_121, am_bd_some, Option.toList_some, Option.toList_none, List.cons_append, List.nil_append, am_w8_0, am_w8_1, am_w8_2, am_w8_3, am_w8_4, eq_self, or_true, true_or, am_kd_sI, am_kd_sL, am_kd_sR, am_tc_sI, am_tc_sL, am_tc_sR, am_len_sI, am_len_sL, am_len_sR, am_rfs, if_true, if_false, am_rdL_sI, am_rR_sL, am_rt_cq, am_kd_cq, am_tc_cq, am_len_cq, am_rd_sL, am_rd_sR, am_rdL_sR, okK_211 ok, am_sI_id h0, s0, not_true]
theorem ly_25 : ly_p25 := fun a k => pr_wk (fun A => q_lnA A a k) (fun A h H => den_clined H a k) (fun A h H => den_mlined H a k)
