/-! part 48: the reference's dog obeys -/
theorem q_m1_n (n : Nat) (h : n < 2 ^ 31) : ¬ nI n = -1 := fun w => by
  have := nI_pos' (n := n) h
  rw [w] at this
  exact absurd this (by decide)
def G_may (f : q_Fl) (g : q_G) (c : Nat) : Bool := !F_wall f c && (!decide (c = F_pen f) && !G_bs f g c)
theorem den_may (h : am_H) (f : q_Fl) (g : q_G) (mg : q_mg h f g) (wf : F_wf f) (i : G_in f g) (p : G_pi f g) (c : Nat) (hc : F_in f c) : am_den 214 [.ref 211, .int (nI (q_nm f c))] h = some (some (.int (q_bi (G_may f g c))), h) := by
  have db := den_iba h f g mg wf i p c hc
  have l := q_nm_64 wf hc
  obtain ⟨⟨ok, a1, a2, a3, a4, a5, a6, a7⟩, -⟩ := mg
  have n1 := q_m1_n (q_nm f c) (by omega)
  have x : am_ix (nI (q_nm f c)) 64 = true := am_ix_nI l (by decide)
  have z : (nI (q_nm f c)).toNatClampNeg = q_nm f c := nI_clamp (by omega)
  have w := a6 c hc
  have pe := q_pn_eq wf hc
  show am_ev 214 0 [some (.ref 211), some (.int (nI (q_nm f c)))] [] h = _
  simp only [e214_0, e214_1, e214_2, e214_5, e214_6, e214_9, e214_10, e214_10z, e214_11, e214_14, e214_15, e214_16, e214_19, e214_22, e214_23, e214_24, e214_27, e214_30, e214_31, e214_34, e214_35, am_bd_some, Option.toList_some, Option.toList_none, List.cons_append, List.nil_append, am_w8_0, am_w8_1, am_w8_2, am_w8_3, am_w8_4, eq_self, or_true, true_or, am_kd_sI, am_kd_sL, am_kd_sR, am_tc_sI, am_tc_sL, am_tc_sR, am_len_sI, am_len_sL, am_len_sR, am_rfs, if_true, if_false, am_rdL_sI, am_rR_sL, am_rt_cq, am_kd_cq, am_tc_cq, am_len_cq, am_rd_sL, am_rd_sR, am_rdL_sR, n1, okK_211 ok, okR_211_34 ok, okT_223 ok, okL_223 ok, x, z, w, a3, pe, db, q_bi_0, G_may]
  cases F_wall f c
  · by_cases m : c = F_pen f
    · simp [m, q_bi]
    · cases G_bs f g c
      · simp [m, q_bi]
      · simp [m, q_bi]
  · simp [q_bi]
theorem den_may0 (h : am_H) (ok : am_okH h) : am_den 214 [.ref 211, .int (-1)] h = some (some (.int 0), h) := by
  show am_ev 214 0 [some (.ref 211), some (.int (-1))] [] h = _
  simp only [e214_0, e214_1, e214_2, e214_5, e214_6, e214_9, e214_10, e214_10z, e214_11, e214_14, e214_15, e214_16, e214_19, e214_22, e214_23, e214_24, e214_27, e214_30, e214_31, e214_34, e214_35, am_bd_some, Option.toList_some, Option.toList_none, List.cons_append, List.nil_append, am_w8_0, am_w8_1, am_w8_2, am_w8_3, am_w8_4, eq_self, or_true, true_or, am_kd_sI, am_kd_sL, am_kd_sR, am_tc_sI, am_tc_sL, am_tc_sR, am_len_sI, am_len_sL, am_len_sR, am_rfs, if_true, if_false, am_rdL_sI, am_rR_sL, am_rt_cq, am_kd_cq, am_tc_cq, am_len_cq, am_rd_sL, am_rd_sR, am_rdL_sR]
theorem G_dg_may (f : q_Fl) (g : q_G) (d : Nat) : G_dg f g d = match F_gx f (G_dog g) d with
  | none => none
  | some t => if G_may f g t = true then some (G_slies (G_sdog g t) false) else none := by
  unfold G_dg F_nx
  cases F_gx f (G_dog g) d with
  | none => rfl
  | some t =>
    show (match (if F_wall f t = true then none else some t) with
      | none => none
      | some t => if t = F_pen f ∨ G_bs f g t = true then none else some (G_slies (G_sdog g t) false)) = if G_may f g t = true then some (G_slies (G_sdog g t) false) else none
    unfold G_may
    cases F_wall f t
    · by_cases m : t = F_pen f
      · simp [m]
      · cases hb : G_bs f g t
        · simp [m, hb]
        · simp [m, hb]
    · simp
theorem den_mdg (h : am_H) (f : q_Fl) (g : q_G) (mg : q_mg h f g) (wf : F_wf f) (i : G_in f g) (p : G_pi f g) (d : Nat) (hd : d < 4) : (G_dg f g d = none → am_den 212 [.ref 211, .int (nI d)] h = some (some (.int 0), h)) ∧ ∀ g', G_dg f g d = some g' → ∃ h' : am_H, q_mw h h' ∧ q_mg h' f g' ∧ am_den 212 [.ref 211, .int (nI d)] h = some (some (.int 1), h') := by
  have ok := mg.1.1
  have e1 := mg.2.1.1
  have dn := den_mnext h f mg.1 wf (G_dog g) d i.1 hd
  have sh : am_den 212 [.ref 211, .int (nI d)] h = am_ev 212 0 [some (.ref 211), some (.int (nI d)), none] [] h := rfl
  rw [sh, G_dg_may]
  cases hx : F_gx f (G_dog g) d with
  | none =>
    rw [hx] at dn
    have m1 : q_nv f none = -1 := rfl
    refine ⟨fun _ => ?_, fun g' w => by cases w⟩
    simp only [e212_0, e212_1, e212_2, e212_5, e212_6, e212_9, e212_10, e212_11, e212_12, e212_15, e212_18, e212_19, e212_20, e212_21, e212_22, e212_25, e212_26, e212_27, e212_30, e212_31, am_bd_some, Option.toList_some, Option.toList_none, List.cons_append, List.nil_append, am_w8_0, am_w8_1, am_w8_2, am_w8_3, am_w8_4, eq_self, or_true, true_or, am_kd_sI, am_kd_sL, am_kd_sR, am_tc_sI, am_tc_sL, am_tc_sR, am_len_sI, am_len_sL, am_len_sR, am_rfs, if_true, if_false, am_rdL_sI, am_rR_sL, am_rt_cq, am_kd_cq, am_tc_cq, am_len_cq, am_rd_sL, am_rd_sR, am_rdL_sR, okK_211 ok, e1, dn, m1, den_may0 h ok, not_true]
  | some t =>
    rw [hx] at dn
    have ht := F_gx_in wf i.1 hx
    have m1 : q_nv f (some t) = nI (q_nm f t) := rfl
    have dm := den_may h f g mg wf i p t ht
    cases hm : G_may f g t with
    | false =>
      rw [hm] at dm
      have y : q_bi false = 0 := rfl
      refine ⟨fun _ => ?_, fun g' w => ?_⟩
      · simp only [e212_0, e212_1, e212_2, e212_5, e212_6, e212_9, e212_10, e212_11, e212_12, e212_15, e212_18, e212_19, e212_20, e212_21, e212_22, e212_25, e212_26, e212_27, e212_30, e212_31, am_bd_some, Option.toList_some, Option.toList_none, List.cons_append, List.nil_append, am_w8_0, am_w8_1, am_w8_2, am_w8_3, am_w8_4, eq_self, or_true, true_or, am_kd_sI, am_kd_sL, am_kd_sR, am_tc_sI, am_tc_sL, am_tc_sR, am_len_sI, am_len_sL, am_len_sR, am_rfs, if_true, if_false, am_rdL_sI, am_rR_sL, am_rt_cq, am_kd_cq, am_tc_cq, am_len_cq, am_rd_sL, am_rd_sR, am_rdL_sR, okK_211 ok, e1, dn, m1, dm, y, not_true]
      · have w2 : (if G_may f g t = true then some (G_slies (G_sdog g t) false) else none) = some g' := w
        rw [hm, if_neg (by decide)] at w2
        cases w2
    | true =>
      rw [hm] at dm
      have y : ¬ q_bi true = 0 := by decide
      refine ⟨fun w => ?_, fun g' w => ?_⟩
      · have w2 : (if G_may f g t = true then some (G_slies (G_sdog g t) false) else none) = none := w
        rw [hm, if_pos rfl] at w2
        cases w2
      · have w2 : (if G_may f g t = true then some (G_slies (G_sdog g t) false) else none) = some g' := w
        rw [hm, if_pos rfl] at w2
        obtain rfl := Option.some.inj w2
        refine ⟨am_sI (am_sI h 211 28 (nI (q_nm f t))) 211 32 0, (q_mw_fld 28 _ (by decide) h).tr (q_mw_fld 32 _ (by decide) _), q_mg_lies (q_mg_dog mg t) false, ?_⟩
        simp only [e212_0, e212_1, e212_2, e212_5, e212_6, e212_9, e212_10, e212_11, e212_12, e212_15, e212_18, e212_19, e212_20, e212_21, e212_22, e212_25, e212_26, e212_27, e212_30, e212_31, am_bd_some, Option.toList_some, Option.toList_none, List.cons_append, List.nil_append, am_w8_0, am_w8_1, am_w8_2, am_w8_3, am_w8_4, eq_self, or_true, true_or, am_kd_sI, am_kd_sL, am_kd_sR, am_tc_sI, am_tc_sL, am_tc_sR, am_len_sI, am_len_sL, am_len_sR, am_rfs, if_true, if_false, am_rdL_sI, am_rR_sL, am_rt_cq, am_kd_cq, am_tc_cq, am_len_cq, am_rd_sL, am_rd_sR, am_rdL_sR, okK_211 ok, e1, dn, m1, dm, y, not_false_eq_true]
theorem G_wh_pi {f : q_Fl} {g g' : q_G} {c : Nat} (p : G_pi f g) (h : G_wh f g c = some g') : G_pi f g' := by
  unfold G_wh at h
  split at h
  · unfold G_dg at h
    split at h
    · cases h
    · split at h
      · cases h
      · obtain rfl := Option.some.inj h
        exact p
  · split at h
    · obtain rfl := Option.some.inj h
      exact p
    · split at h
      · cases h
      · obtain rfl := Option.some.inj h
        exact p
theorem G_ob_pi {f : q_Fl} {g g' : q_G} {c : Nat} (wf : F_wf f) (i : G_in f g) (p : G_pi f g) (h : G_ob f g c = some g') : G_pi f g' := by
  unfold G_ob at h
  split at h
  · cases h
  · rename_i u hu
    obtain rfl := Option.some.inj h
    exact G_all_pi wf (F_n f) 0 u (by omega) (G_wh_in wf i hu) (G_wh_pi p hu)
/-- how the reference is told a whistle -/
def q_what (c : Nat) : Int32 := nI (if c < 4 then 0 else c - 3)
def q_wway (c : Nat) : Int32 := if c < 4 then nI c else -1
theorem den_does (h : am_H) (f : q_Fl) (g : q_G) (mg : q_mg h f g) (wf : F_wf f) (i : G_in f g) (p : G_pi f g) (c : Nat) (hc : c < 7) : (G_ob f g c = none → am_den 211 [.ref 211, .int (q_what c), .int (q_wway c)] h = some (some (.int 0), h)) ∧ ∀ g', G_ob f g c = some g' → ∃ h' : am_H, q_mw h h' ∧ q_mg h' f g' ∧ am_den 211 [.ref 211, .int (q_what c), .int (q_wway c)] h = some (some (.int 1), h') := by
  have ok := mg.1.1
  have e3 := mg.2.1.2.2.1
  have e4 := mg.2.1.2.2.2.1
  have sh : am_den 211 [.ref 211, .int (q_what c), .int (q_wway c)] h = am_ev 211 0 [some (.ref 211), some (.int (q_what c)), some (.int (q_wway c)), none] [] h := rfl
  rw [sh]
  have y10 : ¬ (1 : Int32) = 0 := by decide
  unfold G_ob
  by_cases m : c < 4
  · have w1 : q_what c = 0 := by unfold q_what; rw [if_pos m, nI_0]
    have w2 : q_wway c = nI c := by unfold q_wway; rw [if_pos m]
    have w3 : ¬ (0 : Int32) = 3 := by decide
    rw [w1, w2]
    obtain ⟨d1, d2⟩ := den_mdg h f g mg wf i p c m
    have gw : G_wh f g c = G_dg f g c := by unfold G_wh; rw [if_pos m]
    rw [gw]
    cases hg : G_dg f g c with
    | none =>
      refine ⟨fun _ => ?_, fun g' w => by cases w⟩
      simp only [e211_0, e211_1, e211_4, e211_5, e211_6, e211_9, e211_12, e211_13, e211_14, e211_17, e211_18, e211_19, e211_20, e211_23, e211_24, e211_27, e211_28, e211_31, e211_34, e211_35, e211_38, e211_39, e211_40, e211_41, e211_44, e211_45, e211_46, e211_47, e211_50, e211_51, e211_54, e211_57, e211_58, e211_61, e211_62, e211_65, e211_66, e211_69, e211_72, e211_73, e211_76, e211_77, am_bd_some, Option.toList_some, Option.toList_none, List.cons_append, List.nil_append, am_w8_0, am_w8_1, am_w8_2, am_w8_3, am_w8_4, eq_self, or_true, true_or, am_kd_sI, am_kd_sL, am_kd_sR, am_tc_sI, am_tc_sL, am_tc_sR, am_len_sI, am_len_sL, am_len_sR, am_rfs, if_true, if_false, am_rdL_sI, am_rR_sL, am_rt_cq, am_kd_cq, am_tc_cq, am_len_cq, am_rd_sL, am_rd_sR, am_rdL_sR, not_true, okK_211 ok, d1 hg]
    | some u =>
      obtain ⟨h1, f1, g1, s1⟩ := d2 u hg
      obtain ⟨h2, f2, g2, s2⟩ := den_mallGo h1 f u g1 wf (G_dg_in wf i hg) (G_wh_pi p (gw.trans hg))
      have ok1 := g1.1.1
      have e4' := g1.2.1.2.2.2.1
      refine ⟨fun w => (by cases w), fun g' w => ?_⟩
      obtain rfl := Option.some.inj w
      refine ⟨h2, f1.tr f2, g2, ?_⟩
      have bb : q_bi (G_back u) = 0 ∨ q_bi (G_back u) = 1 := by cases G_back u <;> decide
      have id1 : am_sI h1 211 33 (q_bi (G_back u)) = h1 := am_sI_id e4'
      simp only [e211_0, e211_1, e211_4, e211_5, e211_6, e211_9, e211_12, e211_13, e211_14, e211_17, e211_18, e211_19, e211_20, e211_23, e211_24, e211_27, e211_28, e211_31, e211_34, e211_35, e211_38, e211_39, e211_40, e211_41, e211_44, e211_45, e211_46, e211_47, e211_50, e211_51, e211_54, e211_57, e211_58, e211_61, e211_62, e211_65, e211_66, e211_69, e211_72, e211_73, e211_76, e211_77, am_bd_some, Option.toList_some, Option.toList_none, List.cons_append, List.nil_append, am_w8_0, am_w8_1, am_w8_2, am_w8_3, am_w8_4, eq_self, or_true, true_or, am_kd_sI, am_kd_sL, am_kd_sR, am_tc_sI, am_tc_sL, am_tc_sR, am_len_sI, am_len_sL, am_len_sR, am_rfs, if_true, if_false, am_rdL_sI, am_rR_sL, am_rt_cq, am_kd_cq, am_tc_cq, am_len_cq, am_rd_sL, am_rd_sR, am_rdL_sR, not_true, okK_211 ok, s1, y10, w3, not_false_eq_true, okK_211 ok1, e4', bb, id1, s2]
  · by_cases n6 : c = 6
    · subst n6
      have w1 : q_what 6 = 3 := rfl
      have w2 : q_wway 6 = -1 := rfl
      have w0 : ¬ (3 : Int32) = 0 := by decide
      have gw : G_wh f g 6 = some (G_sback g (!G_back g)) := rfl
      rw [w1, w2, gw]
      obtain ⟨h2, f2, g2, s2⟩ := den_mallGo (am_sI h 211 33 (q_bi (!G_back g))) f (G_sback g (!G_back g)) (q_mg_back mg _) wf i p
      refine ⟨fun w => (by cases w), fun g' w => ?_⟩
      obtain rfl := Option.some.inj w
      refine ⟨h2, (q_mw_fld 33 _ (by decide) h).tr f2, g2, ?_⟩
      cases hb : G_back g with
      | true =>
        rw [hb] at s2 e4
        have y : ¬ q_bi true = 0 := by decide
        have y2 : q_bi (!true) = 0 := rfl
        rw [y2] at s2
        simp only [e211_0, e211_1, e211_4, e211_5, e211_6, e211_9, e211_12, e211_13, e211_14, e211_17, e211_18, e211_19, e211_20, e211_23, e211_24, e211_27, e211_28, e211_31, e211_34, e211_35, e211_38, e211_39, e211_40, e211_41, e211_44, e211_45, e211_46, e211_47, e211_50, e211_51, e211_54, e211_57, e211_58, e211_61, e211_62, e211_65, e211_66, e211_69, e211_72, e211_73, e211_76, e211_77, am_bd_some, Option.toList_some, Option.toList_none, List.cons_append, List.nil_append, am_w8_0, am_w8_1, am_w8_2, am_w8_3, am_w8_4, eq_self, or_true, true_or, am_kd_sI, am_kd_sL, am_kd_sR, am_tc_sI, am_tc_sL, am_tc_sR, am_len_sI, am_len_sL, am_len_sR, am_rfs, if_true, if_false, am_rdL_sI, am_rR_sL, am_rt_cq, am_kd_cq, am_tc_cq, am_len_cq, am_rd_sL, am_rd_sR, am_rdL_sR, w0, not_false_eq_true, y10, not_true, okK_211 ok, e4, y, s2]
      | false =>
        rw [hb] at s2 e4
        have y : q_bi false = 0 := rfl
        have y2 : q_bi (!false) = 1 := rfl
        rw [y2] at s2
        simp only [e211_0, e211_1, e211_4, e211_5, e211_6, e211_9, e211_12, e211_13, e211_14, e211_17, e211_18, e211_19, e211_20, e211_23, e211_24, e211_27, e211_28, e211_31, e211_34, e211_35, e211_38, e211_39, e211_40, e211_41, e211_44, e211_45, e211_46, e211_47, e211_50, e211_51, e211_54, e211_57, e211_58, e211_61, e211_62, e211_65, e211_66, e211_69, e211_72, e211_73, e211_76, e211_77, am_bd_some, Option.toList_some, Option.toList_none, List.cons_append, List.nil_append, am_w8_0, am_w8_1, am_w8_2, am_w8_3, am_w8_4, eq_self, or_true, true_or, am_kd_sI, am_kd_sL, am_kd_sR, am_tc_sI, am_tc_sL, am_tc_sR, am_len_sI, am_len_sL, am_len_sR, am_rfs, if_true, if_false, am_rdL_sI, am_rR_sL, am_rt_cq, am_kd_cq, am_tc_cq, am_len_cq, am_rd_sL, am_rd_sR, am_rdL_sR, w0, not_false_eq_true, y10, not_true, okK_211 ok, e4, y, s2]
    · have gw : G_wh f g c = if G_lies g = decide (c = 4) then none else some (G_slies g (decide (c = 4))) := by unfold G_wh; rw [if_neg m, if_neg n6]
      rw [gw]
      have w2 : q_wway c = -1 := by unfold q_wway; rw [if_neg m]
      have w1 : q_what c = if c = 4 then 1 else 2 := by
        have : c = 4 ∨ c = 5 := by omega
        rcases this with rfl | rfl <;> rfl
      have w0 : ¬ q_what c = 0 := by rw [w1]; split <;> decide
      have w3 : ¬ q_what c = 3 := by rw [w1]; split <;> decide
      have w4 : q_what c = 1 ↔ c = 4 := by
        rw [w1]
        by_cases t : c = 4
        · simp [t]
        · simp [t]
      have bi : ∀ a b : Bool, q_bi a = q_bi b ↔ a = b := by decide
      have ld : am_den 216 [.ref 211, .int (q_bi (decide (c = 4)))] h = some (some (.int (if G_lies g = decide (c = 4) then 0 else 1)), am_sI h 211 32 (q_bi (decide (c = 4)))) := by
        have b01 : q_bi (decide (c = 4)) = 0 ∨ q_bi (decide (c = 4)) = 1 := by cases decide (c = 4) <;> decide
        show am_ev 216 0 [some (.ref 211), some (.int (q_bi (decide (c = 4)))), none] [] h = _
        simp only [e216_0, e216_1, e216_4, e216_5, e216_8, e216_9, e216_12, e216_13, e216_14, e216_15, e216_16, e216_19, e216_20, am_bd_some, Option.toList_some, Option.toList_none, List.cons_append, List.nil_append, am_w8_0, am_w8_1, am_w8_2, am_w8_3, am_w8_4, eq_self, or_true, true_or, am_kd_sI, am_kd_sL, am_kd_sR, am_tc_sI, am_tc_sL, am_tc_sR, am_len_sI, am_len_sL, am_len_sR, am_rfs, if_true, if_false, am_rdL_sI, am_rR_sL, am_rt_cq, am_kd_cq, am_tc_cq, am_len_cq, am_rd_sL, am_rd_sR, am_rdL_sR, okK_211 ok, e3, bi, b01]
        by_cases v : G_lies g = decide (c = 4)
        · simp [v]
        · simp [v]
      have go : am_ev 211 0 [some (.ref 211), some (.int (q_what c)), some (.int (q_wway c)), none] [] h = if G_lies g = decide (c = 4) then some (some (.int 0), am_sI h 211 32 (q_bi (decide (c = 4)))) else am_ev 211 44 [some (.ref 211), some (.int (q_what c)), some (.int (q_wway c)), some (.int 1)] [] (am_sI h 211 32 (q_bi (decide (c = 4)))) := by
        have okl : am_okH (am_sI h 211 32 (q_bi (decide (c = 4)))) := ok
        by_cases t : c = 4
        · have t' := w4.mpr t
          have y : q_bi (decide (c = 4)) = 1 := by rw [t]; rfl
          rw [y] at ld ⊢
          by_cases v : G_lies g = decide (c = 4)
          · rw [if_pos v] at ld ⊢
            simp only [e211_0, e211_1, e211_4, e211_5, e211_6, e211_9, e211_12, e211_13, e211_14, e211_17, e211_18, e211_19, e211_20, e211_23, e211_24, e211_27, e211_28, e211_31, e211_34, e211_35, e211_38, e211_39, e211_40, e211_41, e211_45, e211_46, e211_47, e211_50, e211_51, e211_54, e211_57, e211_58, e211_61, e211_62, e211_65, e211_66, e211_69, e211_72, e211_73, e211_76, e211_77, am_bd_some, Option.toList_some, Option.toList_none, List.cons_append, List.nil_append, am_w8_0, am_w8_1, am_w8_2, am_w8_3, am_w8_4, eq_self, or_true, true_or, am_kd_sI, am_kd_sL, am_kd_sR, am_tc_sI, am_tc_sL, am_tc_sR, am_len_sI, am_len_sL, am_len_sR, am_rfs, if_true, if_false, am_rdL_sI, am_rR_sL, am_rt_cq, am_kd_cq, am_tc_cq, am_len_cq, am_rd_sL, am_rd_sR, am_rdL_sR, w0, not_false_eq_true, w3, eq_true t', not_true, okK_211 ok, ld]
          · rw [if_neg v] at ld ⊢
            simp only [e211_0, e211_1, e211_4, e211_5, e211_6, e211_9, e211_12, e211_13, e211_14, e211_17, e211_18, e211_19, e211_20, e211_23, e211_24, e211_27, e211_28, e211_31, e211_34, e211_35, e211_38, e211_39, e211_40, e211_41, e211_45, e211_46, e211_47, e211_50, e211_51, e211_54, e211_57, e211_58, e211_61, e211_62, e211_65, e211_66, e211_69, e211_72, e211_73, e211_76, e211_77, am_bd_some, Option.toList_some, Option.toList_none, List.cons_append, List.nil_append, am_w8_0, am_w8_1, am_w8_2, am_w8_3, am_w8_4, eq_self, or_true, true_or, am_kd_sI, am_kd_sL, am_kd_sR, am_tc_sI, am_tc_sL, am_tc_sR, am_len_sI, am_len_sL, am_len_sR, am_rfs, if_true, if_false, am_rdL_sI, am_rR_sL, am_rt_cq, am_kd_cq, am_tc_cq, am_len_cq, am_rd_sL, am_rd_sR, am_rdL_sR, w0, not_false_eq_true, w3, eq_true t', not_true, okK_211 ok, ld, y10]
        · have t' : ¬ q_what c = 1 := fun v => t (w4.mp v)
          have y : q_bi (decide (c = 4)) = 0 := by simp [t, q_bi]
          rw [y] at ld ⊢
          by_cases v : G_lies g = decide (c = 4)
          · rw [if_pos v] at ld ⊢
            simp only [e211_0, e211_1, e211_4, e211_5, e211_6, e211_9, e211_12, e211_13, e211_14, e211_17, e211_18, e211_19, e211_20, e211_23, e211_24, e211_27, e211_28, e211_31, e211_34, e211_35, e211_38, e211_39, e211_40, e211_41, e211_45, e211_46, e211_47, e211_50, e211_51, e211_54, e211_57, e211_58, e211_61, e211_62, e211_65, e211_66, e211_69, e211_72, e211_73, e211_76, e211_77, am_bd_some, Option.toList_some, Option.toList_none, List.cons_append, List.nil_append, am_w8_0, am_w8_1, am_w8_2, am_w8_3, am_w8_4, eq_self, or_true, true_or, am_kd_sI, am_kd_sL, am_kd_sR, am_tc_sI, am_tc_sL, am_tc_sR, am_len_sI, am_len_sL, am_len_sR, am_rfs, if_true, if_false, am_rdL_sI, am_rR_sL, am_rt_cq, am_kd_cq, am_tc_cq, am_len_cq, am_rd_sL, am_rd_sR, am_rdL_sR, w0, not_false_eq_true, w3, t', okK_211 ok, ld]
          · rw [if_neg v] at ld ⊢
            simp only [e211_0, e211_1, e211_4, e211_5, e211_6, e211_9, e211_12, e211_13, e211_14, e211_17, e211_18, e211_19, e211_20, e211_23, e211_24, e211_27, e211_28, e211_31, e211_34, e211_35, e211_38, e211_39, e211_40, e211_41, e211_45, e211_46, e211_47, e211_50, e211_51, e211_54, e211_57, e211_58, e211_61, e211_62, e211_65, e211_66, e211_69, e211_72, e211_73, e211_76, e211_77, am_bd_some, Option.toList_some, Option.toList_none, List.cons_append, List.nil_append, am_w8_0, am_w8_1, am_w8_2, am_w8_3, am_w8_4, eq_self, or_true, true_or, am_kd_sI, am_kd_sL, am_kd_sR, am_tc_sI, am_tc_sL, am_tc_sR, am_len_sI, am_len_sL, am_len_sR, am_rfs, if_true, if_false, am_rdL_sI, am_rR_sL, am_rt_cq, am_kd_cq, am_tc_cq, am_len_cq, am_rd_sL, am_rd_sR, am_rdL_sR, w0, not_false_eq_true, w3, t', okK_211 ok, ld, y10]
      rw [go]
      by_cases v : G_lies g = decide (c = 4)
      · rw [if_pos v, if_pos v]
        have idl : am_sI h 211 32 (q_bi (decide (c = 4))) = h := am_sI_id (by rw [e3, v])
        rw [idl]
        exact ⟨fun _ => rfl, fun g' w => (by cases w)⟩
      · rw [if_neg v, if_neg v]
        have mg1 := q_mg_lies mg (decide (c = 4))
        obtain ⟨h2, f2, g2, s2⟩ := den_mallGo (am_sI h 211 32 (q_bi (decide (c = 4)))) f (G_slies g (decide (c = 4))) mg1 wf i p
        refine ⟨fun w => (by cases w), fun g' w => ?_⟩
        obtain rfl := Option.some.inj w
        refine ⟨h2, (q_mw_fld 32 _ (by decide) h).tr f2, g2, ?_⟩
        have e4' : (am_sI h 211 32 (q_bi (decide (c = 4)))).1 211 33 = q_bi (G_back g) := e4
        have bb : q_bi (G_back g) = 0 ∨ q_bi (G_back g) = 1 := by cases G_back g <;> decide
        have id1 := am_sI_id e4'
        have okl : am_okH (am_sI h 211 32 (q_bi (decide (c = 4)))) := ok
        simp only [e211_0, e211_1, e211_4, e211_5, e211_6, e211_9, e211_12, e211_13, e211_14, e211_17, e211_18, e211_19, e211_20, e211_23, e211_24, e211_27, e211_28, e211_31, e211_34, e211_35, e211_38, e211_39, e211_40, e211_41, e211_44, e211_45, e211_46, e211_47, e211_50, e211_51, e211_54, e211_57, e211_58, e211_61, e211_62, e211_65, e211_66, e211_69, e211_72, e211_73, e211_76, e211_77, am_bd_some, Option.toList_some, Option.toList_none, List.cons_append, List.nil_append, am_w8_0, am_w8_1, am_w8_2, am_w8_3, am_w8_4, eq_self, or_true, true_or, am_kd_sI, am_kd_sL, am_kd_sR, am_tc_sI, am_tc_sL, am_tc_sR, am_len_sI, am_len_sL, am_len_sR, am_rfs, if_true, if_false, am_rdL_sI, am_rR_sL, am_rt_cq, am_kd_cq, am_tc_cq, am_len_cq, am_rd_sL, am_rd_sR, am_rdL_sR, w3, not_false_eq_true, okK_211 okl, okK_211 ok, e4', bb, id1, s2, y10]
