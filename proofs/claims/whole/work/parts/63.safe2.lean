/-! part 63: safe -/
def F_ps (f : q_Fl) (c : Nat) : Bool := G_may f (G_0 f) c && !q_any (G_went1 f (G_sdog (G_0 f) c)) (F_n f) 0
theorem q_or_ne (m b : Nat) : m ||| 2 ^ b ≠ 0 := fun h => by
  have := congrArg (fun x => x.testBit b) h
  simp at this
theorem G_wm_0 (f : q_Fl) (g : q_G) : ∀ r b m, G_wm f g r b m = 0 ↔ m = 0 ∧ q_any (G_went1 f g) r b = false := by
  intro r
  induction r with
  | zero => intro b m; exact ⟨fun h => ⟨h, rfl⟩, fun h => h.1⟩
  | succ r ih =>
    intro b m
    show G_wm f g r (b + 1) (if G_went1 f g b = true then m ||| 2 ^ b else m) = 0 ↔ m = 0 ∧ (G_went1 f g b || q_any (G_went1 f g) r (b + 1)) = false
    rw [ih]
    cases G_went1 f g b with
    | true =>
      rw [if_pos rfl]
      exact ⟨fun w => absurd w.1 (q_or_ne m b), fun w => by simp at w⟩
    | false =>
      rw [if_neg (by decide), Bool.false_or]
theorem q_saf_c (o : Nat) (ho : o + 2 < 178) (f : q_Fl) (fk : F_ok f) (a1 le : Int32) : ∀ (r c k c0 : Nat) (fi : Option Nat) (h : am_H), c + r = 64 → (∀ x, fi = some x → x < 64) → am_okH h → F_in f c0 → q_cg h 178 o f (G_sdog (G_0 f) c0) → q_cF h o f → ∃ h' : am_H, q_ff 178 h h' ∧ am_ev 93 42 [some (.ref 0), some (.int a1), some (.int le), some (.ref o), some (.int (nI k)), some (.int (q_oc fi)), some (.int (nI c))] [] h = am_ev 93 104 [some (.ref 0), some (.int a1), some (.int le), some (.ref o), some (.int (nI ((List.range' c r).foldl (F_pc f (F_ps f)) (k, fi)).1)), some (.int (q_oc ((List.range' c r).foldl (F_pc f (F_ps f)) (k, fi)).2)), some (.int (nI 64))] [] h' := by
  have wf := fk.wf
  have n6 := wf.2.2.2.1
  have i0 := G_0_in fk
  intro r
  induction r with
  | zero =>
    intro c k c0 fi h hc hfi ok hin cg cF
    obtain rfl : c = 64 := by omega
    have h1 : (64 : Int32) ≤ nI 64 := by decide
    refine ⟨h, q_ff.rf _ h, ?_⟩
    rw [e93_42]
    simp only [e93_0, e93_1, e93_4, e93_5, e93_6, e93_9, e93_12, e93_14, e93_15, e93_16, e93_19, e93_22, e93_23f, e93_23d, e93_23b, e93_23l, e93_23t, e93_24, e93_25, e93_26, e93_29, e93_30, e93_33, e93_34, e93_36, e93_37, e93_39, e93_40, e93_44, e93_46, e93_49, e93_50, e93_52, e93_55, e93_58, e93_61, e93_62, e93_65, e93_67, e93_70, e93_71, e93_74, e93_77, e93_80, e93_83, e93_85, e93_86, e93_89, e93_91, e93_94, e93_96, e93_98, e93_101, e93_105, e93_108, e93_109, e93_111, e93_114, e93_117, e93_119, am_bd_some, Option.toList_some, Option.toList_none, List.cons_append, List.nil_append, am_w8_0, am_w8_1, am_w8_2, am_w8_3, am_w8_4, eq_self, or_true, true_or, am_kd_sI, am_kd_sL, am_kd_sR, am_tc_sI, am_tc_sL, am_tc_sR, am_len_sI, am_len_sL, am_len_sR, am_rfs, if_true, if_false, am_rdL_sI, am_rR_sL, am_rt_cq, am_kd_cq, am_tc_cq, am_len_cq, am_rd_sL, am_rd_sR, am_rdL_sR, h1, List.range'_zero, List.foldl_nil]
  | succ r ih =>
    intro c k c0 fi h hc hfi ok hin cg cF
    have h1 : ¬ (64 : Int32) ≤ nI c := fun w => nI_ge (b := 64) (a := c) (by omega) (by decide) w
    have dp := den_place h o f cF fk c (by omega)
    rw [List.range'_succ, List.foldl_cons]
    cases hp : F_pl f c with
    | false =>
      rw [hp] at dp
      have y : q_bi false = 0 := rfl
      have cs : F_pc f (F_ps f) (k, fi) c = (k, fi) := by
        unfold F_pl at hp
        unfold F_pc q_st1 F_ps
        cases hi : F_insB (F_w f) (F_h f) c with
        | false => rfl
        | true => rw [hi, Bool.true_and] at hp; rw [hp]; rfl
      obtain ⟨h'', f2, s2⟩ := ih (c + 1) k c0 fi h (by omega) hfi ok hin cg cF
      refine ⟨h'', f2, ?_⟩
      rw [cs, e93_42]
      simp only [e93_0, e93_1, e93_4, e93_5, e93_6, e93_9, e93_12, e93_14, e93_15, e93_16, e93_19, e93_22, e93_23f, e93_23d, e93_23b, e93_23l, e93_23t, e93_24, e93_25, e93_26, e93_29, e93_30, e93_33, e93_34, e93_36, e93_37, e93_39, e93_40, e93_44, e93_46, e93_49, e93_50, e93_52, e93_55, e93_58, e93_61, e93_62, e93_65, e93_67, e93_70, e93_71, e93_74, e93_77, e93_80, e93_83, e93_85, e93_86, e93_89, e93_91, e93_94, e93_96, e93_98, e93_101, e93_105, e93_108, e93_109, e93_111, e93_114, e93_117, e93_119, am_bd_some, Option.toList_some, Option.toList_none, List.cons_append, List.nil_append, am_w8_0, am_w8_1, am_w8_2, am_w8_3, am_w8_4, eq_self, or_true, true_or, am_kd_sI, am_kd_sL, am_kd_sR, am_tc_sI, am_tc_sL, am_tc_sR, am_len_sI, am_len_sL, am_len_sR, am_rfs, if_true, if_false, am_rdL_sI, am_rR_sL, am_rt_cq, am_kd_cq, am_tc_cq, am_len_cq, am_rd_sL, am_rd_sR, am_rdL_sR, h1, cF.1.1.1, dp, y, not_true, nI_1]
      exact s2
    | true =>
      rw [hp] at dp
      have y : ¬ q_bi true = 0 := by decide
      have hp2 := hp
      unfold F_pl at hp2
      rw [Bool.and_eq_true] at hp2
      have hin2 : F_in f c := F_insB_in (by omega) hp2.1
      have cg1 : q_cg (am_sI h 178 1 (nI c)) 178 o f (G_sdog (G_0 f) c) := q_cg_dog cg c
      have ok1 : am_okH (am_sI h 178 1 (nI c)) := ok
      have f1 := q_ff_fld 178 1 (nI c) h
      have gi : G_in f (G_sdog (G_0 f) c) := ⟨hin2, i0.2⟩
      have dw := den_cwould (am_sI h 178 1 (nI c)) 178 o f _ cg1 wf gi
      have wl := G_wm_lt f (G_sdog (G_0 f) c) (F_n f) 0 0 (by omega) (by decide)
      have cF1 := f1.fb.cF cF (show o + 2 < 178 ∨ 178 + 5 < o by omega)
      have key : nI (G_wm f (G_sdog (G_0 f) c) (F_n f) 0 0) = 0 ↔ F_ps f c = true := by
        have e0 : nI (G_wm f (G_sdog (G_0 f) c) (F_n f) 0 0) = 0 ↔ G_wm f (G_sdog (G_0 f) c) (F_n f) 0 0 = 0 := nI_eq (b := 0) (by omega) (by decide)
        rw [e0, G_wm_0]
        unfold F_ps
        rw [hp2.2, Bool.true_and]
        cases q_any (G_went1 f (G_sdog (G_0 f) c)) (F_n f) 0 <;> simp
      cases hpp : F_ps f c with
      | false =>
        have nk : ¬ nI (G_wm f (G_sdog (G_0 f) c) (F_n f) 0 0) = 0 := fun w => by rw [key.mp w] at hpp; cases hpp
        have cs : F_pc f (F_ps f) (k, fi) c = (k, fi) := by
          unfold F_pc q_st1
          rw [if_pos hp2.1, hpp]
          rfl
        obtain ⟨h'', f2, s2⟩ := ih (c + 1) k c fi (am_sI h 178 1 (nI c)) (by omega) hfi ok1 hin2 cg1 cF1
        refine ⟨h'', f1.tr f2, ?_⟩
        rw [cs, e93_42]
        simp only [e93_0, e93_1, e93_4, e93_5, e93_6, e93_9, e93_12, e93_14, e93_15, e93_16, e93_19, e93_22, e93_23f, e93_23d, e93_23b, e93_23l, e93_23t, e93_24, e93_25, e93_26, e93_29, e93_30, e93_33, e93_34, e93_36, e93_37, e93_39, e93_40, e93_44, e93_46, e93_49, e93_50, e93_52, e93_55, e93_58, e93_61, e93_62, e93_65, e93_67, e93_70, e93_71, e93_74, e93_77, e93_80, e93_83, e93_85, e93_86, e93_89, e93_91, e93_94, e93_96, e93_98, e93_101, e93_105, e93_108, e93_109, e93_111, e93_114, e93_117, e93_119, am_bd_some, Option.toList_some, Option.toList_none, List.cons_append, List.nil_append, am_w8_0, am_w8_1, am_w8_2, am_w8_3, am_w8_4, eq_self, or_true, true_or, am_kd_sI, am_kd_sL, am_kd_sR, am_tc_sI, am_tc_sL, am_tc_sR, am_len_sI, am_len_sL, am_len_sR, am_rfs, if_true, if_false, am_rdL_sI, am_rR_sL, am_rt_cq, am_kd_cq, am_tc_cq, am_len_cq, am_rd_sL, am_rd_sR, am_rdL_sR, h1, cF.1.1.1, dp, y, not_false_eq_true, okK_0 ok, okR_0_4 ok, okK_178 ok, dw, nk, nI_1]
        exact s2
      | true =>
        have nk := key.mpr hpp
        cases hf : fi with
        | none =>
          have cs : F_pc f (F_ps f) (k, none) c = (k + 1, some c) := by
            unfold F_pc q_st1
            rw [if_pos hp2.1, hpp]
            rfl
          have q1 : q_oc none = -1 := rfl
          have q2 : q_oc (some c) = nI c := rfl
          obtain ⟨h'', f2, s2⟩ := ih (c + 1) (k + 1) c (some c) (am_sI h 178 1 (nI c)) (by omega) (fun x hx => by cases hx; omega) ok1 hin2 cg1 cF1
          refine ⟨h'', f1.tr f2, ?_⟩
          rw [cs, e93_42]
          rw [q2] at s2
          simp only [e93_0, e93_1, e93_4, e93_5, e93_6, e93_9, e93_12, e93_14, e93_15, e93_16, e93_19, e93_22, e93_23f, e93_23d, e93_23b, e93_23l, e93_23t, e93_24, e93_25, e93_26, e93_29, e93_30, e93_33, e93_34, e93_36, e93_37, e93_39, e93_40, e93_44, e93_46, e93_49, e93_50, e93_52, e93_55, e93_58, e93_61, e93_62, e93_65, e93_67, e93_70, e93_71, e93_74, e93_77, e93_80, e93_83, e93_85, e93_86, e93_89, e93_91, e93_94, e93_96, e93_98, e93_101, e93_105, e93_108, e93_109, e93_111, e93_114, e93_117, e93_119, am_bd_some, Option.toList_some, Option.toList_none, List.cons_append, List.nil_append, am_w8_0, am_w8_1, am_w8_2, am_w8_3, am_w8_4, eq_self, or_true, true_or, am_kd_sI, am_kd_sL, am_kd_sR, am_tc_sI, am_tc_sL, am_tc_sR, am_len_sI, am_len_sL, am_len_sR, am_rfs, if_true, if_false, am_rdL_sI, am_rR_sL, am_rt_cq, am_kd_cq, am_tc_cq, am_len_cq, am_rd_sL, am_rd_sR, am_rdL_sR, h1, cF.1.1.1, dp, y, not_false_eq_true, okK_0 ok, okR_0_4 ok, okK_178 ok, dw, eq_true nk, not_true, q1, nI_1]
          exact s2
        | some x =>
          have cs : F_pc f (F_ps f) (k, some x) c = (k + 1, some x) := by
            unfold F_pc q_st1
            rw [if_pos hp2.1, hpp]
            rfl
          have q1 : ¬ q_oc (some x) = -1 := q_m1_n x (by have := hfi x hf; omega)
          obtain ⟨h'', f2, s2⟩ := ih (c + 1) (k + 1) c (some x) (am_sI h 178 1 (nI c)) (by omega) (fun x' hx => hfi x' (hf.trans hx)) ok1 hin2 cg1 cF1
          refine ⟨h'', f1.tr f2, ?_⟩
          rw [cs, e93_42]
          simp only [e93_0, e93_1, e93_4, e93_5, e93_6, e93_9, e93_12, e93_14, e93_15, e93_16, e93_19, e93_22, e93_23f, e93_23d, e93_23b, e93_23l, e93_23t, e93_24, e93_25, e93_26, e93_29, e93_30, e93_33, e93_34, e93_36, e93_37, e93_39, e93_40, e93_44, e93_46, e93_49, e93_50, e93_52, e93_55, e93_58, e93_61, e93_62, e93_65, e93_67, e93_70, e93_71, e93_74, e93_77, e93_80, e93_83, e93_85, e93_86, e93_89, e93_91, e93_94, e93_96, e93_98, e93_101, e93_105, e93_108, e93_109, e93_111, e93_114, e93_117, e93_119, am_bd_some, Option.toList_some, Option.toList_none, List.cons_append, List.nil_append, am_w8_0, am_w8_1, am_w8_2, am_w8_3, am_w8_4, eq_self, or_true, true_or, am_kd_sI, am_kd_sL, am_kd_sR, am_tc_sI, am_tc_sL, am_tc_sR, am_len_sI, am_len_sL, am_len_sR, am_rfs, if_true, if_false, am_rdL_sI, am_rR_sL, am_rt_cq, am_kd_cq, am_tc_cq, am_len_cq, am_rd_sL, am_rd_sR, am_rdL_sR, h1, cF.1.1.1, dp, y, not_false_eq_true, okK_0 ok, okR_0_4 ok, okK_178 ok, dw, eq_true nk, not_true, q1, nI_1]
          exact s2
theorem q_saf_mi (f : q_Fl) (fk : F_ok f) (a1 le : Int32) (k : Nat) (be : Int32) (t : Nat) (ht : F_in f t) : ∀ (r b c0 : Nat) (is : Bool) (h : am_H), b + r = F_n f → F_in f c0 → q_mg h f (G_sdog (G_0 f) c0) → ∃ (h' : am_H) (c1 : Nat) (z7 : Option Value), q_mw h h' ∧ F_in f c1 ∧ q_mg h' f (G_sdog (G_0 f) c1) ∧ am_ev 237 45 [some (.ref 211), some (.int a1), some (.int le), some (.int (nI k)), some (.int be), some (.int (nI (q_nm f t))), some (.int (q_bi is)), some (.int (nI b))] [] h = am_ev 237 83 [some (.ref 211), some (.int a1), some (.int le), some (.int (nI k)), some (.int be), some (.int (nI (q_nm f t))), some (.int (q_bi (is && !q_any (G_went1 f (G_sdog (G_0 f) t)) r b))), z7] [] h' := by
  have wf := fk.wf
  have n6 := wf.2.2.2.1
  have i0 := G_0_in fk
  have p0 := G_0_pi fk
  intro r
  induction r with
  | zero =>
    intro b c0 is h hb hin mg
    have ok := mg.1.1
    have a5 := mg.1.2.2.2.2.2.1
    have h1 : nI (F_n f) ≤ nI b := nI_le (by omega) (by omega)
    have e : (is && !q_any (G_went1 f (G_sdog (G_0 f) t)) 0 b) = is := by show (is && !false) = is; cases is <;> rfl
    refine ⟨h, c0, some (.int (nI b)), q_mw.rf h, hin, mg, ?_⟩
    rw [e, e237_45]
    simp only [e237_0, e237_1, e237_2, e237_5, e237_6, e237_7, e237_10, e237_13, e237_15, e237_16, e237_17, e237_18, e237_19, e237_21, e237_22, e237_25, e237_26, e237_27, e237_29, e237_31, e237_34, e237_35, e237_37, e237_40, e237_42, e237_43, e237_47, e237_48, e237_51, e237_54, e237_56, e237_59, e237_60, e237_62, e237_64, e237_67, e237_70, e237_71, e237_74, e237_75, e237_77, e237_80, e237_84, e237_86, e237_89, e237_90, e237_93, e237_94, e237_95, e237_96, e237_98, e237_101, e237_103, e237_106, e237_108, e237_110, e237_113, e237_116, e237_117, e237_120, e237_122, e237_125, e237_126, am_bd_some, Option.toList_some, Option.toList_none, List.cons_append, List.nil_append, am_w8_0, am_w8_1, am_w8_2, am_w8_3, am_w8_4, eq_self, or_true, true_or, am_kd_sI, am_kd_sL, am_kd_sR, am_tc_sI, am_tc_sL, am_tc_sR, am_len_sI, am_len_sL, am_len_sR, am_rfs, if_true, if_false, am_rdL_sI, am_rR_sL, am_rt_cq, am_kd_cq, am_tc_cq, am_len_cq, am_rd_sL, am_rd_sR, am_rdL_sR, okK_211 ok, a5, h1]
  | succ r ih =>
    intro b c0 is h hb hin mg
    have ok := mg.1.1
    have a5 := mg.1.2.2.2.2.2.1
    have h1 : ¬ nI (F_n f) ≤ nI b := nI_ge (by omega) (by omega)
    cases is with
    | false =>
      have y : q_bi false = 0 := rfl
      refine ⟨h, c0, some (.int (nI b)), q_mw.rf h, hin, mg, ?_⟩
      rw [Bool.false_and, e237_45]
      simp only [e237_0, e237_1, e237_2, e237_5, e237_6, e237_7, e237_10, e237_13, e237_15, e237_16, e237_17, e237_18, e237_19, e237_21, e237_22, e237_25, e237_26, e237_27, e237_29, e237_31, e237_34, e237_35, e237_37, e237_40, e237_42, e237_43, e237_47, e237_48, e237_51, e237_54, e237_56, e237_59, e237_60, e237_62, e237_64, e237_67, e237_70, e237_71, e237_74, e237_75, e237_77, e237_80, e237_84, e237_86, e237_89, e237_90, e237_93, e237_94, e237_95, e237_96, e237_98, e237_101, e237_103, e237_106, e237_108, e237_110, e237_113, e237_116, e237_117, e237_120, e237_122, e237_125, e237_126, am_bd_some, Option.toList_some, Option.toList_none, List.cons_append, List.nil_append, am_w8_0, am_w8_1, am_w8_2, am_w8_3, am_w8_4, eq_self, or_true, true_or, am_kd_sI, am_kd_sL, am_kd_sR, am_tc_sI, am_tc_sL, am_tc_sR, am_len_sI, am_len_sL, am_len_sR, am_rfs, if_true, if_false, am_rdL_sI, am_rR_sL, am_rt_cq, am_kd_cq, am_tc_cq, am_len_cq, am_rd_sL, am_rd_sR, am_rdL_sR, okK_211 ok, a5, h1, y]
    | true =>
      have y : ¬ q_bi true = 0 := by decide
      have gi : G_in f (G_sdog (G_0 f) c0) := ⟨hin, i0.2⟩
      obtain ⟨mg1, dw⟩ := den_mwould h f _ mg wf gi p0 b t (by omega) ht
      have mg1' : q_mg (am_sI h 211 28 (nI (q_nm f t))) f (G_sdog (G_0 f) t) := mg1
      have dw' : am_den 238 [.ref 211, .int (nI b), .int (nI (q_nm f t))] h = some (some (.int (q_bi (G_went1 f (G_sdog (G_0 f) t) b))), am_sI h 211 28 (nI (q_nm f t))) := dw
      have f1 := q_mw_fld 28 (nI (q_nm f t)) (by decide) h
      obtain ⟨h'', c1, z7, f2, i2, g2, s2⟩ := ih (b + 1) t (!G_went1 f (G_sdog (G_0 f) t) b) (am_sI h 211 28 (nI (q_nm f t))) (by omega) ht mg1'
      have e : (true && !q_any (G_went1 f (G_sdog (G_0 f) t)) (r + 1) b) = (!G_went1 f (G_sdog (G_0 f) t) b && !q_any (G_went1 f (G_sdog (G_0 f) t)) r (b + 1)) := by
        rw [q_any]
        cases G_went1 f (G_sdog (G_0 f) t) b <;> rfl
      refine ⟨h'', c1, z7, f1.tr f2, i2, g2, ?_⟩
      rw [e, e237_45]
      cases hw : G_went1 f (G_sdog (G_0 f) t) b with
      | true =>
        rw [hw] at dw' s2
        have y2 : q_bi (!true) = 0 := rfl
        rw [y2] at s2
        simp only [e237_0, e237_1, e237_2, e237_5, e237_6, e237_7, e237_10, e237_13, e237_15, e237_16, e237_17, e237_18, e237_19, e237_21, e237_22, e237_25, e237_26, e237_27, e237_29, e237_31, e237_34, e237_35, e237_37, e237_40, e237_42, e237_43, e237_47, e237_48, e237_51, e237_54, e237_56, e237_59, e237_60, e237_62, e237_64, e237_67, e237_70, e237_71, e237_74, e237_75, e237_77, e237_80, e237_84, e237_86, e237_89, e237_90, e237_93, e237_94, e237_95, e237_96, e237_98, e237_101, e237_103, e237_106, e237_108, e237_110, e237_113, e237_116, e237_117, e237_120, e237_122, e237_125, e237_126, am_bd_some, Option.toList_some, Option.toList_none, List.cons_append, List.nil_append, am_w8_0, am_w8_1, am_w8_2, am_w8_3, am_w8_4, eq_self, or_true, true_or, am_kd_sI, am_kd_sL, am_kd_sR, am_tc_sI, am_tc_sL, am_tc_sR, am_len_sI, am_len_sL, am_len_sR, am_rfs, if_true, if_false, am_rdL_sI, am_rR_sL, am_rt_cq, am_kd_cq, am_tc_cq, am_len_cq, am_rd_sL, am_rd_sR, am_rdL_sR, okK_211 ok, a5, h1, y, dw', not_false_eq_true, nI_1]
        exact s2
      | false =>
        rw [hw] at dw' s2
        have y0 : q_bi false = 0 := rfl
        have y2 : q_bi (!false) = 1 := rfl
        rw [y2] at s2
        simp only [e237_0, e237_1, e237_2, e237_5, e237_6, e237_7, e237_10, e237_13, e237_15, e237_16, e237_17, e237_18, e237_19, e237_21, e237_22, e237_25, e237_26, e237_27, e237_29, e237_31, e237_34, e237_35, e237_37, e237_40, e237_42, e237_43, e237_47, e237_48, e237_51, e237_54, e237_56, e237_59, e237_60, e237_62, e237_64, e237_67, e237_70, e237_71, e237_74, e237_75, e237_77, e237_80, e237_84, e237_86, e237_89, e237_90, e237_93, e237_94, e237_95, e237_96, e237_98, e237_101, e237_103, e237_106, e237_108, e237_110, e237_113, e237_116, e237_117, e237_120, e237_122, e237_125, e237_126, am_bd_some, Option.toList_some, Option.toList_none, List.cons_append, List.nil_append, am_w8_0, am_w8_1, am_w8_2, am_w8_3, am_w8_4, eq_self, or_true, true_or, am_kd_sI, am_kd_sL, am_kd_sR, am_tc_sI, am_tc_sL, am_tc_sR, am_len_sI, am_len_sL, am_len_sR, am_rfs, if_true, if_false, am_rdL_sI, am_rR_sL, am_rt_cq, am_kd_cq, am_tc_cq, am_len_cq, am_rd_sL, am_rd_sR, am_rdL_sR, okK_211 ok, a5, h1, y, dw', y0, not_true, nI_1]
        exact s2
theorem q_saf_m (f : q_Fl) (fk : F_ok f) (a1 le : Int32) : ∀ (r k c0 : Nat) (be : Option Nat) (h : am_H) (z6 z7 : Option Value), r ≤ F_w f * F_h f → F_in f c0 → q_mg h f (G_sdog (G_0 f) c0) → ∃ h' : am_H, q_mw h h' ∧ am_ev 237 29 [some (.ref 211), some (.int a1), some (.int le), some (.int (nI k)), some (.int (q_oc be)), some (.int (q_dn r)), z6, z7] [] h = some (some (.int (if le = 0 then nI ((List.range r).foldr (q_st2 (fun m => F_ps f (q_cell (F_w f) m))) (k, be)).1 else q_oc ((List.range r).foldr (q_st2 (fun m => F_ps f (q_cell (F_w f) m))) (k, be)).2)), h') := by
  have wf := fk.wf
  have n6 := wf.2.2.2.1
  have c64 := wf.c64
  have i0 := G_0_in fk
  have p0 := G_0_pi fk
  intro r
  induction r with
  | zero =>
    intro k c0 be h z6 z7 hr hin mg
    have h1 : q_dn 0 < 0 := by decide
    refine ⟨h, q_mw.rf h, ?_⟩
    rw [e237_29]
    by_cases c : le = 0
    · simp only [e237_0, e237_1, e237_2, e237_5, e237_6, e237_7, e237_10, e237_13, e237_15, e237_16, e237_17, e237_18, e237_19, e237_21, e237_22, e237_25, e237_26, e237_27, e237_31, e237_34, e237_35, e237_37, e237_40, e237_42, e237_43, e237_45, e237_47, e237_48, e237_51, e237_54, e237_56, e237_59, e237_60, e237_62, e237_64, e237_67, e237_70, e237_71, e237_74, e237_75, e237_77, e237_80, e237_83, e237_84, e237_86, e237_89, e237_90, e237_93, e237_94, e237_95, e237_96, e237_98, e237_101, e237_103, e237_106, e237_108, e237_110, e237_113, e237_116, e237_117, e237_120, e237_122, e237_125, e237_126, am_bd_some, Option.toList_some, Option.toList_none, List.cons_append, List.nil_append, am_w8_0, am_w8_1, am_w8_2, am_w8_3, am_w8_4, eq_self, or_true, true_or, am_kd_sI, am_kd_sL, am_kd_sR, am_tc_sI, am_tc_sL, am_tc_sR, am_len_sI, am_len_sL, am_len_sR, am_rfs, if_true, if_false, am_rdL_sI, am_rR_sL, am_rt_cq, am_kd_cq, am_tc_cq, am_len_cq, am_rd_sL, am_rd_sR, am_rdL_sR, h1, c, List.range_zero, List.foldr_nil]
    · simp only [e237_0, e237_1, e237_2, e237_5, e237_6, e237_7, e237_10, e237_13, e237_15, e237_16, e237_17, e237_18, e237_19, e237_21, e237_22, e237_25, e237_26, e237_27, e237_31, e237_34, e237_35, e237_37, e237_40, e237_42, e237_43, e237_45, e237_47, e237_48, e237_51, e237_54, e237_56, e237_59, e237_60, e237_62, e237_64, e237_67, e237_70, e237_71, e237_74, e237_75, e237_77, e237_80, e237_83, e237_84, e237_86, e237_89, e237_90, e237_93, e237_94, e237_95, e237_96, e237_98, e237_101, e237_103, e237_106, e237_108, e237_110, e237_113, e237_116, e237_117, e237_120, e237_122, e237_125, e237_126, am_bd_some, Option.toList_some, Option.toList_none, List.cons_append, List.nil_append, am_w8_0, am_w8_1, am_w8_2, am_w8_3, am_w8_4, eq_self, or_true, true_or, am_kd_sI, am_kd_sL, am_kd_sR, am_tc_sI, am_tc_sL, am_tc_sR, am_len_sI, am_len_sL, am_len_sR, am_rfs, if_true, if_false, am_rdL_sI, am_rR_sL, am_rt_cq, am_kd_cq, am_tc_cq, am_len_cq, am_rd_sL, am_rd_sR, am_rdL_sR, h1, c, List.range_zero, List.foldr_nil]
  | succ r ih =>
    intro k c0 be h z6 z7 hr hin mg
    have ok := mg.1.1
    have dn : q_dn (r + 1) = nI r := by unfold q_dn; rw [if_neg (by omega)]; rfl
    have h1 : ¬ nI r < 0 := nI_pos (by omega)
    obtain ⟨ci, cn⟩ := q_cell_in wf (m := r) (by omega)
    have gi : G_in f (G_sdog (G_0 f) c0) := ⟨hin, i0.2⟩
    have dm : am_den 214 [.ref 211, .int (nI (q_nm f (q_cell (F_w f) r)))] h = some (some (.int (q_bi (G_may f (G_0 f) (q_cell (F_w f) r)))), h) := den_may h f _ mg wf gi p0 _ ci
    rw [cn] at dm
    have nx : nI r + -1 = q_dn r := by
      unfold q_dn
      by_cases c : r = 0
      · subst c; rw [if_pos rfl, nI_0]; rfl
      · rw [if_neg c]; exact q_m1n r c
    obtain ⟨h', c1, z7', f1, i1, g1, s1⟩ := q_saf_mi f fk a1 le k (q_oc be) (q_cell (F_w f) r) ci (F_n f) 0 c0 (G_may f (G_0 f) (q_cell (F_w f) r)) h (by omega) hin mg
    have fe : (G_may f (G_0 f) (q_cell (F_w f) r) && !q_any (G_went1 f (G_sdog (G_0 f) (q_cell (F_w f) r))) (F_n f) 0) = F_ps f (q_cell (F_w f) r) := rfl
    rw [fe, cn, nI_0] at s1
    rw [List.range_succ, List.foldr_append, List.foldr_cons, List.foldr_nil, dn, e237_29]
    cases hp : F_ps f (q_cell (F_w f) r) with
    | true =>
      rw [hp] at s1
      have cs : q_st2 (fun m => F_ps f (q_cell (F_w f) m)) r (k, be) = (k + 1, some r) := q_st2_p hp
      have y : ¬ q_bi true = 0 := by decide
      have q2 : q_oc (some r) = nI r := rfl
      obtain ⟨h'', f2, s2⟩ := ih (k + 1) c1 (some r) h' (some (.int (q_bi true))) z7' (by omega) i1 g1
      rw [q2] at s2
      refine ⟨h'', f1.tr f2, ?_⟩
      rw [cs]
      simp only [e237_0, e237_1, e237_2, e237_5, e237_6, e237_7, e237_10, e237_13, e237_15, e237_16, e237_17, e237_18, e237_19, e237_21, e237_22, e237_25, e237_26, e237_27, e237_31, e237_34, e237_35, e237_37, e237_40, e237_42, e237_43, e237_47, e237_48, e237_51, e237_54, e237_56, e237_59, e237_60, e237_62, e237_64, e237_67, e237_70, e237_71, e237_74, e237_75, e237_77, e237_80, e237_84, e237_86, e237_89, e237_90, e237_93, e237_94, e237_95, e237_96, e237_98, e237_101, e237_103, e237_106, e237_108, e237_110, e237_113, e237_116, e237_117, e237_120, e237_122, e237_125, e237_126, am_bd_some, Option.toList_some, Option.toList_none, List.cons_append, List.nil_append, am_w8_0, am_w8_1, am_w8_2, am_w8_3, am_w8_4, eq_self, or_true, true_or, am_kd_sI, am_kd_sL, am_kd_sR, am_tc_sI, am_tc_sL, am_tc_sR, am_len_sI, am_len_sL, am_len_sR, am_rfs, if_true, if_false, am_rdL_sI, am_rR_sL, am_rt_cq, am_kd_cq, am_tc_cq, am_len_cq, am_rd_sL, am_rd_sR, am_rdL_sR, h1, okK_211 ok, dm]
      rw [s1]
      simp only [e237_0, e237_1, e237_2, e237_5, e237_6, e237_7, e237_10, e237_13, e237_15, e237_16, e237_17, e237_18, e237_19, e237_21, e237_22, e237_25, e237_26, e237_27, e237_31, e237_34, e237_35, e237_37, e237_40, e237_42, e237_43, e237_47, e237_48, e237_51, e237_54, e237_56, e237_59, e237_60, e237_62, e237_64, e237_67, e237_70, e237_71, e237_74, e237_75, e237_77, e237_80, e237_83, e237_84, e237_86, e237_89, e237_90, e237_93, e237_94, e237_95, e237_96, e237_98, e237_101, e237_103, e237_106, e237_108, e237_110, e237_113, e237_116, e237_117, e237_120, e237_122, e237_125, e237_126, am_bd_some, Option.toList_some, Option.toList_none, List.cons_append, List.nil_append, am_w8_0, am_w8_1, am_w8_2, am_w8_3, am_w8_4, eq_self, or_true, true_or, am_kd_sI, am_kd_sL, am_kd_sR, am_tc_sI, am_tc_sL, am_tc_sR, am_len_sI, am_len_sL, am_len_sR, am_rfs, if_true, if_false, am_rdL_sI, am_rR_sL, am_rt_cq, am_kd_cq, am_tc_cq, am_len_cq, am_rd_sL, am_rd_sR, am_rdL_sR, y, nI_1, nx]
      exact s2
    | false =>
      rw [hp] at s1
      have cs : q_st2 (fun m => F_ps f (q_cell (F_w f) m)) r (k, be) = (k, be) := q_st2_n hp
      have y : q_bi false = 0 := rfl
      have a0 : nI k + 0 = nI k := by rw [← nI_0, nI_add]; rfl
      obtain ⟨h'', f2, s2⟩ := ih k c1 be h' (some (.int 0)) z7' (by omega) i1 g1
      refine ⟨h'', f1.tr f2, ?_⟩
      rw [cs]
      simp only [e237_0, e237_1, e237_2, e237_5, e237_6, e237_7, e237_10, e237_13, e237_15, e237_16, e237_17, e237_18, e237_19, e237_21, e237_22, e237_25, e237_26, e237_27, e237_31, e237_34, e237_35, e237_37, e237_40, e237_42, e237_43, e237_47, e237_48, e237_51, e237_54, e237_56, e237_59, e237_60, e237_62, e237_64, e237_67, e237_70, e237_71, e237_74, e237_75, e237_77, e237_80, e237_84, e237_86, e237_89, e237_90, e237_93, e237_94, e237_95, e237_96, e237_98, e237_101, e237_103, e237_106, e237_108, e237_110, e237_113, e237_116, e237_117, e237_120, e237_122, e237_125, e237_126, am_bd_some, Option.toList_some, Option.toList_none, List.cons_append, List.nil_append, am_w8_0, am_w8_1, am_w8_2, am_w8_3, am_w8_4, eq_self, or_true, true_or, am_kd_sI, am_kd_sL, am_kd_sR, am_tc_sI, am_tc_sL, am_tc_sR, am_len_sI, am_len_sL, am_len_sR, am_rfs, if_true, if_false, am_rdL_sI, am_rR_sL, am_rt_cq, am_kd_cq, am_tc_cq, am_len_cq, am_rd_sL, am_rd_sR, am_rdL_sR, h1, okK_211 ok, dm]
      rw [s1]
      simp only [e237_0, e237_1, e237_2, e237_5, e237_6, e237_7, e237_10, e237_13, e237_15, e237_16, e237_17, e237_18, e237_19, e237_21, e237_22, e237_25, e237_26, e237_27, e237_31, e237_34, e237_35, e237_37, e237_40, e237_42, e237_43, e237_47, e237_48, e237_51, e237_54, e237_56, e237_59, e237_60, e237_62, e237_64, e237_67, e237_70, e237_71, e237_74, e237_75, e237_77, e237_80, e237_83, e237_84, e237_86, e237_89, e237_90, e237_93, e237_94, e237_95, e237_96, e237_98, e237_101, e237_103, e237_106, e237_108, e237_110, e237_113, e237_116, e237_117, e237_120, e237_122, e237_125, e237_126, am_bd_some, Option.toList_some, Option.toList_none, List.cons_append, List.nil_append, am_w8_0, am_w8_1, am_w8_2, am_w8_3, am_w8_4, eq_self, or_true, true_or, am_kd_sI, am_kd_sL, am_kd_sR, am_tc_sI, am_tc_sL, am_tc_sR, am_len_sI, am_len_sL, am_len_sR, am_rfs, if_true, if_false, am_rdL_sI, am_rR_sL, am_rt_cq, am_kd_cq, am_tc_cq, am_len_cq, am_rd_sL, am_rd_sR, am_rdL_sR, y, a0, nx]
      exact s2
def q_safA (A : q_All) (a le : Int32) : Int32 := if 0 ≤ a ∧ a < nI (A.2.1 0) then (if le = 0 then nI (q_R (A.2.2.1 a.toNatClampNeg) (F_ps (A.2.2.1 a.toNatClampNeg))).1 else q_oc (q_R (A.2.2.1 a.toNatClampNeg) (F_ps (A.2.2.1 a.toNatClampNeg))).2) else -2
theorem den_csafe {A : q_All} {h : am_H} (H : q_Rel A h) (a le : Int32) : ∃ h' : am_H, q_wk h h' ∧ am_den 93 [.ref 0, .int a, .int le] h = some (some (.int (q_safA A a le)), h') := by
  have ok := H.1
  obtain ⟨c1, c2, c3⟩ := H.cnt 0 (by decide)
  have dh := den_has h ok 0 (by decide) (A.2.1 0) c1 c2 a
  rw [nI_0] at dh
  have y : ¬ (1 : Int32) = 0 := by decide
  show ∃ h' : am_H, q_wk h h' ∧ am_ev 93 0 [some (.ref 0), some (.int a), some (.int le), none, none, none, none] [] h = _
  unfold q_safA
  by_cases ca : 0 ≤ a ∧ a < nI (A.2.1 0)
  · rw [if_pos ca] at dh ⊢
    obtain ⟨i, hi, rfl⟩ := q_in2 c1 ca
    obtain ⟨fk, cF, -⟩ := H.fl i hi
    have wf := fk.wf
    have z : (nI i).toNatClampNeg = i := nI_clamp (by omega)
    have x : am_ix (nI i) 2 = true := am_ix_nI (by omega) (by decide)
    have r := q_fo_ref ok i (by omega)
    have q178 : q_flk 178 := Or.inl rfl
    obtain ⟨h1, f1, g1, s1⟩ := den_begin h ok 178 (8 + 16 * i) q178 (by omega) _ wf cF
    have ok1 := f1.ok q178 ok
    have cF1 := f1.cF cF (by omega)
    obtain ⟨h2, f2, s2⟩ := q_saf_c (8 + 16 * i) (by omega) _ fk (nI i) le 64 0 0 (F_dog (A.2.2.1 i)) none h1 (by omega) (fun x hx => by cases hx) ok1 fk.2.2.2.1 g1 cF1
    have cF2 := f2.fb.cF cF1 (show 8 + 16 * i + 2 < 178 ∨ 178 + 5 < 8 + 16 * i by omega)
    have ce' : (List.range' 0 64).foldl (F_pc (A.2.2.1 i) (F_ps (A.2.2.1 i))) (0, none) = ((q_R (A.2.2.1 i) (F_ps (A.2.2.1 i))).1, (q_R (A.2.2.1 i) (F_ps (A.2.2.1 i))).2.map (q_cell (F_w (A.2.2.1 i)))) := by
      rw [← List.range_eq_range']
      exact q_cnt_eq wf (F_ps (A.2.2.1 i))
    rw [ce', nI_0] at s2
    have q1 : q_oc none = -1 := rfl
    rw [q1] at s2
    have rn := q_R_num h2 (8 + 16 * i) _ cF2.1 wf (F_ps (A.2.2.1 i))
    refine ⟨h2, (f1.tr f2.fb).wk q178 ok, ?_⟩
    rw [z]
    have s0 : am_ev 93 0 [some (.ref 0), some (.int (nI i)), some (.int le), none, none, none, none] [] h = am_ev 93 42 [some (.ref 0), some (.int (nI i)), some (.int le), some (.ref (8 + 16 * i)), some (.int 0), some (.int (-1)), some (.int 0)] [] h1 := by
      simp only [e93_0, e93_1, e93_4, e93_5, e93_6, e93_9, e93_12, e93_14, e93_15, e93_16, e93_19, e93_22, e93_23f, e93_23d, e93_23b, e93_23l, e93_23t, e93_24, e93_25, e93_26, e93_29, e93_30, e93_33, e93_34, e93_36, e93_37, e93_39, e93_40, e93_44, e93_46, e93_49, e93_50, e93_52, e93_55, e93_58, e93_61, e93_62, e93_65, e93_67, e93_70, e93_71, e93_74, e93_77, e93_80, e93_83, e93_85, e93_86, e93_89, e93_91, e93_94, e93_96, e93_98, e93_101, e93_104, e93_105, e93_108, e93_109, e93_111, e93_114, e93_117, e93_119, am_bd_some, Option.toList_some, Option.toList_none, List.cons_append, List.nil_append, am_w8_0, am_w8_1, am_w8_2, am_w8_3, am_w8_4, eq_self, or_true, true_or, am_kd_sI, am_kd_sL, am_kd_sR, am_tc_sI, am_tc_sL, am_tc_sR, am_len_sI, am_len_sL, am_len_sR, am_rfs, if_true, if_false, am_rdL_sI, am_rR_sL, am_rt_cq, am_kd_cq, am_tc_cq, am_len_cq, am_rd_sL, am_rd_sR, am_rdL_sR, okK_0 ok, okR_0_0 ok, okK_1 ok, okR_1_5 ok, okT_4 ok, okL_4 ok, okR_0_4 ok, okK_178 ok, dh, y, not_false_eq_true, x, z, r, s1]
    rw [s0, s2]
    by_cases m : le = 0
    · simp only [e93_0, e93_1, e93_4, e93_5, e93_6, e93_9, e93_12, e93_14, e93_15, e93_16, e93_19, e93_22, e93_23f, e93_23d, e93_23b, e93_23l, e93_23t, e93_24, e93_25, e93_26, e93_29, e93_30, e93_33, e93_34, e93_36, e93_37, e93_39, e93_40, e93_44, e93_46, e93_49, e93_50, e93_52, e93_55, e93_58, e93_61, e93_62, e93_65, e93_67, e93_70, e93_71, e93_74, e93_77, e93_80, e93_83, e93_85, e93_86, e93_89, e93_91, e93_94, e93_96, e93_98, e93_101, e93_104, e93_105, e93_108, e93_109, e93_111, e93_114, e93_117, e93_119, am_bd_some, Option.toList_some, Option.toList_none, List.cons_append, List.nil_append, am_w8_0, am_w8_1, am_w8_2, am_w8_3, am_w8_4, eq_self, or_true, true_or, am_kd_sI, am_kd_sL, am_kd_sR, am_tc_sI, am_tc_sL, am_tc_sR, am_len_sI, am_len_sL, am_len_sR, am_rfs, if_true, if_false, am_rdL_sI, am_rR_sL, am_rt_cq, am_kd_cq, am_tc_cq, am_len_cq, am_rd_sL, am_rd_sR, am_rdL_sR, m]
    · simp only [e93_0, e93_1, e93_4, e93_5, e93_6, e93_9, e93_12, e93_14, e93_15, e93_16, e93_19, e93_22, e93_23f, e93_23d, e93_23b, e93_23l, e93_23t, e93_24, e93_25, e93_26, e93_29, e93_30, e93_33, e93_34, e93_36, e93_37, e93_39, e93_40, e93_44, e93_46, e93_49, e93_50, e93_52, e93_55, e93_58, e93_61, e93_62, e93_65, e93_67, e93_70, e93_71, e93_74, e93_77, e93_80, e93_83, e93_85, e93_86, e93_89, e93_91, e93_94, e93_96, e93_98, e93_101, e93_104, e93_105, e93_108, e93_109, e93_111, e93_114, e93_117, e93_119, am_bd_some, Option.toList_some, Option.toList_none, List.cons_append, List.nil_append, am_w8_0, am_w8_1, am_w8_2, am_w8_3, am_w8_4, eq_self, or_true, true_or, am_kd_sI, am_kd_sL, am_kd_sR, am_tc_sI, am_tc_sL, am_tc_sR, am_len_sI, am_len_sL, am_len_sR, am_rfs, if_true, if_false, am_rdL_sI, am_rR_sL, am_rt_cq, am_kd_cq, am_tc_cq, am_len_cq, am_rd_sL, am_rd_sR, am_rdL_sR, m, cF2.1.1.1, rn]
  · rw [if_neg ca] at dh ⊢
    refine ⟨h, q_wk.rf ok, ?_⟩
    simp only [e93_0, e93_1, e93_4, e93_5, e93_6, e93_9, e93_12, e93_14, e93_15, e93_16, e93_19, e93_22, e93_23f, e93_23d, e93_23b, e93_23l, e93_23t, e93_24, e93_25, e93_26, e93_29, e93_30, e93_33, e93_34, e93_36, e93_37, e93_39, e93_40, e93_44, e93_46, e93_49, e93_50, e93_52, e93_55, e93_58, e93_61, e93_62, e93_65, e93_67, e93_70, e93_71, e93_74, e93_77, e93_80, e93_83, e93_85, e93_86, e93_89, e93_91, e93_94, e93_96, e93_98, e93_101, e93_104, e93_105, e93_108, e93_109, e93_111, e93_114, e93_117, e93_119, am_bd_some, Option.toList_some, Option.toList_none, List.cons_append, List.nil_append, am_w8_0, am_w8_1, am_w8_2, am_w8_3, am_w8_4, eq_self, or_true, true_or, am_kd_sI, am_kd_sL, am_kd_sR, am_tc_sI, am_tc_sL, am_tc_sR, am_len_sI, am_len_sL, am_len_sR, am_rfs, if_true, if_false, am_rdL_sI, am_rR_sL, am_rt_cq, am_kd_cq, am_tc_cq, am_len_cq, am_rd_sL, am_rd_sR, am_rdL_sR, okK_0 ok, okR_0_0 ok, okK_1 ok, dh, not_true]
theorem den_msafe {A : q_All} {h : am_H} (H : q_Rel A h) (a le : Int32) : ∃ h' : am_H, q_wk h h' ∧ am_den 237 [.ref 211, .int a, .int le] h = some (some (.int (q_safA A a le)), h') := by
  have ok := H.1
  have h0 := H.2.1
  obtain ⟨c1, c2, c3⟩ := H.cnt 0 (by decide)
  have y : ¬ (1 : Int32) = 0 := by decide
  show ∃ h' : am_H, q_wk h h' ∧ am_ev 237 0 [some (.ref 211), some (.int a), some (.int le), none, none, none, none, none] [] h = _
  unfold q_safA
  by_cases ca : 0 ≤ a ∧ a < nI (A.2.1 0)
  · rw [if_pos ca]
    obtain ⟨i, hi, rfl⟩ := q_in2 c1 ca
    obtain ⟨fk, cF, fm⟩ := H.fl i hi
    have wf := fk.wf
    have c64 := wf.c64
    have z : (nI i).toNatClampNeg = i := nI_clamp (by omega)
    obtain ⟨h1, f1, e24, g1, s1⟩ := den_hand1 h ok i (by omega) _ fk fm (A.2.1 0) c1 hi c3
    have ok1 := g1.1.1
    have a2 := g1.1.2.2.1
    have w4 : 2 * 2 ≤ F_w (A.2.2.1 i) * F_h (A.2.2.1 i) := Nat.mul_le_mul wf.1.1 wf.2.1.1
    have dn : nI (F_w (A.2.2.1 i) * F_h (A.2.2.1 i)) - 1 = q_dn (F_w (A.2.2.1 i) * F_h (A.2.2.1 i)) := by
      unfold q_dn
      rw [if_neg (by omega)]
      exact pk_sub (b := 1) (by omega)
    obtain ⟨h2, f2, s2⟩ := q_saf_m _ fk (nI i) le (F_w (A.2.2.1 i) * F_h (A.2.2.1 i)) 0 (F_dog (A.2.2.1 i)) none h1 none none (Nat.le_refl _) fk.2.2.2.1 g1
    have q1 : q_oc none = -1 := rfl
    rw [nI_0, q1] at s2
    refine ⟨h2, (f1.wk ok).tr (f2.wk ok1), ?_⟩
    rw [z]
    simp only [e237_0, e237_1, e237_2, e237_5, e237_6, e237_7, e237_10, e237_13, e237_15, e237_16, e237_17, e237_18, e237_19, e237_21, e237_22, e237_25, e237_26, e237_27, e237_31, e237_34, e237_35, e237_37, e237_40, e237_42, e237_43, e237_45, e237_47, e237_48, e237_51, e237_54, e237_56, e237_59, e237_60, e237_62, e237_64, e237_67, e237_70, e237_71, e237_74, e237_75, e237_77, e237_80, e237_83, e237_84, e237_86, e237_89, e237_90, e237_93, e237_94, e237_95, e237_96, e237_98, e237_101, e237_103, e237_106, e237_108, e237_110, e237_113, e237_116, e237_117, e237_120, e237_122, e237_125, e237_126, am_bd_some, Option.toList_some, Option.toList_none, List.cons_append, List.nil_append, am_w8_0, am_w8_1, am_w8_2, am_w8_3, am_w8_4, eq_self, or_true, true_or, am_kd_sI, am_kd_sL, am_kd_sR, am_tc_sI, am_tc_sL, am_tc_sR, am_len_sI, am_len_sL, am_len_sR, am_rfs, if_true, if_false, am_rdL_sI, am_rR_sL, am_rt_cq, am_kd_cq, am_tc_cq, am_len_cq, am_rd_sL, am_rd_sR, am_rdL_sR, okK_211 ok, am_sI_id h0, s1, y, not_false_eq_true, okK_211 ok1, a2, dn]
    exact s2
  · rw [if_neg ca]
    have s0 := den_hand0 h ok (A.2.1 0) c1 c3 a ca
    refine ⟨h, q_wk.rf ok, ?_⟩
    simp only [e237_0, e237_1, e237_2, e237_5, e237_6, e237_7, e237_10, e237_13, e237_15, e237_16, e237_17, e237_18, e237_19, e237_21, e237_22, e237_25, e237_26, e237_27, e237_31, e237_34, e237_35, e237_37, e237_40, e237_42, e237_43, e237_45, e237_47, e237_48, e237_51, e237_54, e237_56, e237_59, e237_60, e237_62, e237_64, e237_67, e237_70, e237_71, e237_74, e237_75, e237_77, e237_80, e237_83, e237_84, e237_86, e237_89, e237_90, e237_93, e237_94, e237_95, e237_96, e237_98, e237_101, e237_103, e237_106, e237_108, e237_110, e237_113, e237_116, e237_117, e237_120, e237_122, e237_125, e237_126, am_bd_some, Option.toList_some, Option.toList_none, List.cons_append, List.nil_append, am_w8_0, am_w8_1, am_w8_2, am_w8_3, am_w8_4, eq_self, or_true, true_or, am_kd_sI, am_kd_sL, am_kd_sR, am_tc_sI, am_tc_sL, am_tc_sR, am_len_sI, am_len_sL, am_len_sR, am_rfs, if_true, if_false, am_rdL_sI, am_rR_sL, am_rt_cq, am_kd_cq, am_tc_cq, am_len_cq, am_rd_sL, am_rd_sR, am_rdL_sR, okK_211 ok, am_sI_id h0, s0, not_true]
theorem ly_11 : ly_p11 := fun a le _ => pr_wk (fun A => q_safA A a le) (fun A h H => den_csafe H a le) (fun A h H => den_msafe H a le)
