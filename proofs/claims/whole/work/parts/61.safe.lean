/-! part 61: counting cells; post -/
def q_st1 (P : Nat → Bool) (s : Nat × Option Nat) (c : Nat) : Nat × Option Nat := if P c = true then (s.1 + 1, match s.2 with
  | none => some c
  | some x => some x) else s
def q_st2 (P : Nat → Bool) (m : Nat) (s : Nat × Option Nat) : Nat × Option Nat := if P m = true then (s.1 + 1, some m) else s
theorem q_st2_p {P : Nat → Bool} {m : Nat} {s : Nat × Option Nat} (h : P m = true) : q_st2 P m s = (s.1 + 1, some m) := if_pos h
theorem q_st2_n {P : Nat → Bool} {m : Nat} {s : Nat × Option Nat} (h : P m = false) : q_st2 P m s = s := if_neg (by rw [h]; decide)
theorem q_st1_l (P : Nat → Bool) (F : Nat → Nat) : ∀ (l : List Nat) (s : Nat × Option Nat), l.foldl (fun s m => q_st1 P s (F m)) s = (s.1 + l.countP (fun m => P (F m)), match s.2 with
  | none => (l.find? (fun m => P (F m))).map F
  | some x => some x) := by
  intro l
  induction l with
  | nil => intro s; obtain ⟨k, o⟩ := s; cases o <;> rfl
  | cons m l ih =>
    intro s
    obtain ⟨k, o⟩ := s
    rw [List.foldl_cons, ih]
    unfold q_st1
    cases hp : P (F m) with
    | true =>
      cases o with
      | none => simp [hp]; omega
      | some x => simp [hp]; omega
    | false =>
      cases o with
      | none => simp [hp]
      | some x => simp [hp]
theorem q_st2_l (P : Nat → Bool) : ∀ (l : List Nat), l.foldr (q_st2 P) (0, none) = (l.countP P, l.find? P) := by
  intro l
  induction l with
  | nil => rfl
  | cons m l ih =>
    rw [List.foldr_cons, ih]
    unfold q_st2
    cases hp : P m with
    | true => simp [hp]
    | false => simp [hp]
/-- the class's count and first cell are the reference's -/
theorem q_cnt_eq {f : q_Fl} (wf : F_wf f) (P : Nat → Bool) : (List.range 64).foldl (fun s c => if F_insB (F_w f) (F_h f) c = true then q_st1 P s c else s) (0, none) = (((List.range (F_w f * F_h f)).foldr (q_st2 (fun m => P (q_cell (F_w f) m))) (0, none)).1, ((List.range (F_w f * F_h f)).foldr (q_st2 (fun m => P (q_cell (F_w f) m))) (0, none)).2.map (q_cell (F_w f))) := by
  rw [q_fold wf, q_st1_l, q_st2_l]
  simp
theorem q_st2_lt {f : q_Fl} (P : Nat → Bool) (N m : Nat) (h : ((List.range N).foldr (q_st2 P) (0, none)).2 = some m) : m < N := by
  rw [q_st2_l] at h
  exact List.mem_range.mp (List.mem_of_find?_eq_some h)
def q_dn (r : Nat) : Int32 := if r = 0 then -1 else nI (r - 1)
def q_oc (o : Option Nat) : Int32 := match o with
  | none => -1
  | some c => nI c
def F_pp (f : q_Fl) (b d : Nat) (c : Nat) : Bool := G_may f (G_0 f) c && (G_drv f (G_sdog (G_0 f) c) b && decide (G_way f (G_sdog (G_0 f) c) b = some d))
def F_pc (f : q_Fl) (P : Nat → Bool) (s : Nat × Option Nat) (c : Nat) : Nat × Option Nat := if F_insB (F_w f) (F_h f) c = true then q_st1 P s c else s
theorem q_oc_m1 (o : Option Nat) (h : ∀ c, o = some c → c < 64) : q_oc o = -1 ↔ o = none := q_ov_m1 o h
theorem q_pst_c (o : Nat) (ho : o + 2 < 178) (f : q_Fl) (fk : F_ok f) (b d : Nat) (hb : b < F_n f) (hd : d < 4) (a1 many : Int32) : ∀ (r c k c0 : Nat) (fi : Option Nat) (h : am_H), c + r = 64 → (∀ x, fi = some x → x < 64) → am_okH h → F_in f c0 → q_cg h 178 o f (G_sdog (G_0 f) c0) → q_cF h o f → ∃ h' : am_H, q_ff 178 h h' ∧ am_ev 101 50 [some (.ref 0), some (.int a1), some (.int (nI b)), some (.int (nI d)), some (.int many), some (.ref o), some (.int (nI k)), some (.int (q_oc fi)), some (.int (nI c))] [] h = am_ev 101 115 [some (.ref 0), some (.int a1), some (.int (nI b)), some (.int (nI d)), some (.int many), some (.ref o), some (.int (nI ((List.range' c r).foldl (F_pc f (F_pp f b d)) (k, fi)).1)), some (.int (q_oc ((List.range' c r).foldl (F_pc f (F_pp f b d)) (k, fi)).2)), some (.int (nI 64))] [] h' := by
  have wf := fk.wf
  have n6 := wf.2.2.2.1
  have i0 := G_0_in fk
  intro r
  induction r with
  | zero =>
    intro c k c0 fi h hc hfi ok hin cg cF
    obtain rfl : c = 64 := by omega
    have h1 : (64 : Int32) ≤ nI 64 := by decide
    refine ⟨h, q_ff.rf _ h, ?_⟩
    rw [e101_50]
    simp only [e101_0, e101_1, e101_2, e101_3, e101_6, e101_9, e101_10, e101_13, e101_14, e101_15, e101_18, e101_20, e101_21, e101_22, e101_25, e101_28, e101_29f, e101_29d, e101_29b, e101_29l, e101_29t, e101_30, e101_32, e101_33, e101_36, e101_38, e101_41, e101_42, e101_44, e101_45, e101_47, e101_48, e101_52, e101_54, e101_57, e101_59, e101_61, e101_64, e101_67, e101_70, e101_71, e101_74, e101_76, e101_79, e101_80, e101_83, e101_84, e101_87, e101_88, e101_91, e101_94, e101_96, e101_97, e101_100, e101_102, e101_105, e101_107, e101_109, e101_112, e101_117, e101_120, e101_122, e101_125, e101_127, e101_129, e101_132, am_bd_some, Option.toList_some, Option.toList_none, List.cons_append, List.nil_append, am_w8_0, am_w8_1, am_w8_2, am_w8_3, am_w8_4, eq_self, or_true, true_or, am_kd_sI, am_kd_sL, am_kd_sR, am_tc_sI, am_tc_sL, am_tc_sR, am_len_sI, am_len_sL, am_len_sR, am_rfs, if_true, if_false, am_rdL_sI, am_rR_sL, am_rt_cq, am_kd_cq, am_tc_cq, am_len_cq, am_rd_sL, am_rd_sR, am_rdL_sR, h1, List.range'_zero, List.foldl_nil]
  | succ r ih =>
    intro c k c0 fi h hc hfi ok hin cg cF
    have h1 : ¬ (64 : Int32) ≤ nI c := fun w => nI_ge (b := 64) (a := c) (by omega) (by decide) w
    have dp := den_place h o f cF fk c (by omega)
    rw [List.range'_succ, List.foldl_cons]
    cases hp : F_pl f c with
    | false =>
      rw [hp] at dp
      have y : q_bi false = 0 := rfl
      have cs : F_pc f (F_pp f b d) (k, fi) c = (k, fi) := by
        unfold F_pl at hp
        unfold F_pc q_st1 F_pp
        cases hi : F_insB (F_w f) (F_h f) c with
        | false => rfl
        | true => rw [hi, Bool.true_and] at hp; rw [hp]; rfl
      obtain ⟨h'', f2, s2⟩ := ih (c + 1) k c0 fi h (by omega) hfi ok hin cg cF
      refine ⟨h'', f2, ?_⟩
      rw [cs, e101_50]
      simp only [e101_0, e101_1, e101_2, e101_3, e101_6, e101_9, e101_10, e101_13, e101_14, e101_15, e101_18, e101_20, e101_21, e101_22, e101_25, e101_28, e101_29f, e101_29d, e101_29b, e101_29l, e101_29t, e101_30, e101_32, e101_33, e101_36, e101_38, e101_41, e101_42, e101_44, e101_45, e101_47, e101_48, e101_52, e101_54, e101_57, e101_59, e101_61, e101_64, e101_67, e101_70, e101_71, e101_74, e101_76, e101_79, e101_80, e101_83, e101_84, e101_87, e101_88, e101_91, e101_94, e101_96, e101_97, e101_100, e101_102, e101_105, e101_107, e101_109, e101_112, e101_117, e101_120, e101_122, e101_125, e101_127, e101_129, e101_132, am_bd_some, Option.toList_some, Option.toList_none, List.cons_append, List.nil_append, am_w8_0, am_w8_1, am_w8_2, am_w8_3, am_w8_4, eq_self, or_true, true_or, am_kd_sI, am_kd_sL, am_kd_sR, am_tc_sI, am_tc_sL, am_tc_sR, am_len_sI, am_len_sL, am_len_sR, am_rfs, if_true, if_false, am_rdL_sI, am_rR_sL, am_rt_cq, am_kd_cq, am_tc_cq, am_len_cq, am_rd_sL, am_rd_sR, am_rdL_sR, h1, cF.1.1.1, dp, y, not_true, nI_1]
      exact s2
    | true =>
      rw [hp] at dp
      have y : ¬ q_bi true = 0 := by decide
      have hp2 := hp
      unfold F_pl at hp2
      rw [Bool.and_eq_true] at hp2
      have hin2 : F_in f c := F_insB_in (by omega) hp2.1
      have cg1 : q_cg (am_sI h 178 1 (nI c)) 178 o f (G_sdog (G_0 f) c) := q_cg_dog cg c
      have ok1 : am_okH (am_sI h 178 1 (nI c)) := ok
      have f1 := q_ff_fld 178 1 (nI c) h
      have gi : G_in f (G_sdog (G_0 f) c) := ⟨hin2, i0.2⟩
      have dw := den_wayDriven (am_sI h 178 1 (nI c)) 178 o f _ cg1 wf gi b hb
      have cF1 := f1.fb.cF cF (show o + 2 < 178 ∨ 178 + 5 < o by omega)
      have key : (if G_drv f (G_sdog (G_0 f) c) b = true then q_ov (G_way f (G_sdog (G_0 f) c) b) else -1) = nI d ↔ F_pp f b d c = true := by
        unfold F_pp
        rw [hp2.2, Bool.true_and, Bool.and_eq_true]
        cases hdr : G_drv f (G_sdog (G_0 f) c) b with
        | false =>
          rw [if_neg (by decide)]
          exact ⟨fun w => absurd w.symm (q_m1_n d (by omega)), fun w => by cases w.1⟩
        | true =>
          rw [if_pos rfl]
          cases hw : G_way f (G_sdog (G_0 f) c) b with
          | none => exact ⟨fun w => absurd w.symm (q_m1_n d (by omega)), fun w => by simp at w⟩
          | some e =>
            have he := (G_way_lt hw).1
            have : q_ov (some e) = nI d ↔ e = d := nI_eq (by omega) (by omega)
            rw [this]
            simp
      cases hpp : F_pp f b d c with
      | false =>
        have nk : ¬ (if G_drv f (G_sdog (G_0 f) c) b = true then q_ov (G_way f (G_sdog (G_0 f) c) b) else -1) = nI d := fun w => by rw [key.mp w] at hpp; cases hpp
        have cs : F_pc f (F_pp f b d) (k, fi) c = (k, fi) := by
          unfold F_pc q_st1
          rw [if_pos hp2.1, hpp]
          rfl
        obtain ⟨h'', f2, s2⟩ := ih (c + 1) k c fi (am_sI h 178 1 (nI c)) (by omega) hfi ok1 hin2 cg1 cF1
        refine ⟨h'', f1.tr f2, ?_⟩
        rw [cs, e101_50]
        simp only [e101_0, e101_1, e101_2, e101_3, e101_6, e101_9, e101_10, e101_13, e101_14, e101_15, e101_18, e101_20, e101_21, e101_22, e101_25, e101_28, e101_29f, e101_29d, e101_29b, e101_29l, e101_29t, e101_30, e101_32, e101_33, e101_36, e101_38, e101_41, e101_42, e101_44, e101_45, e101_47, e101_48, e101_52, e101_54, e101_57, e101_59, e101_61, e101_64, e101_67, e101_70, e101_71, e101_74, e101_76, e101_79, e101_80, e101_83, e101_84, e101_87, e101_88, e101_91, e101_94, e101_96, e101_97, e101_100, e101_102, e101_105, e101_107, e101_109, e101_112, e101_117, e101_120, e101_122, e101_125, e101_127, e101_129, e101_132, am_bd_some, Option.toList_some, Option.toList_none, List.cons_append, List.nil_append, am_w8_0, am_w8_1, am_w8_2, am_w8_3, am_w8_4, eq_self, or_true, true_or, am_kd_sI, am_kd_sL, am_kd_sR, am_tc_sI, am_tc_sL, am_tc_sR, am_len_sI, am_len_sL, am_len_sR, am_rfs, if_true, if_false, am_rdL_sI, am_rR_sL, am_rt_cq, am_kd_cq, am_tc_cq, am_len_cq, am_rd_sL, am_rd_sR, am_rdL_sR, h1, cF.1.1.1, dp, y, not_false_eq_true, okK_0 ok, okR_0_4 ok, okK_178 ok, dw, nk, nI_1]
        exact s2
      | true =>
        have nk := key.mpr hpp
        cases hf : fi with
        | none =>
          have cs : F_pc f (F_pp f b d) (k, none) c = (k + 1, some c) := by
            unfold F_pc q_st1
            rw [if_pos hp2.1, hpp]
            rfl
          have q1 : q_oc none = -1 := rfl
          have q2 : q_oc (some c) = nI c := rfl
          obtain ⟨h'', f2, s2⟩ := ih (c + 1) (k + 1) c (some c) (am_sI h 178 1 (nI c)) (by omega) (fun x hx => by cases hx; omega) ok1 hin2 cg1 cF1
          refine ⟨h'', f1.tr f2, ?_⟩
          rw [cs, e101_50]
          rw [q2] at s2
          simp only [e101_0, e101_1, e101_2, e101_3, e101_6, e101_9, e101_10, e101_13, e101_14, e101_15, e101_18, e101_20, e101_21, e101_22, e101_25, e101_28, e101_29f, e101_29d, e101_29b, e101_29l, e101_29t, e101_30, e101_32, e101_33, e101_36, e101_38, e101_41, e101_42, e101_44, e101_45, e101_47, e101_48, e101_52, e101_54, e101_57, e101_59, e101_61, e101_64, e101_67, e101_70, e101_71, e101_74, e101_76, e101_79, e101_80, e101_83, e101_84, e101_87, e101_88, e101_91, e101_94, e101_96, e101_97, e101_100, e101_102, e101_105, e101_107, e101_109, e101_112, e101_117, e101_120, e101_122, e101_125, e101_127, e101_129, e101_132, am_bd_some, Option.toList_some, Option.toList_none, List.cons_append, List.nil_append, am_w8_0, am_w8_1, am_w8_2, am_w8_3, am_w8_4, eq_self, or_true, true_or, am_kd_sI, am_kd_sL, am_kd_sR, am_tc_sI, am_tc_sL, am_tc_sR, am_len_sI, am_len_sL, am_len_sR, am_rfs, if_true, if_false, am_rdL_sI, am_rR_sL, am_rt_cq, am_kd_cq, am_tc_cq, am_len_cq, am_rd_sL, am_rd_sR, am_rdL_sR, h1, cF.1.1.1, dp, y, not_false_eq_true, okK_0 ok, okR_0_4 ok, okK_178 ok, dw, nk, not_true, q1, nI_1]
          exact s2
        | some x =>
          have cs : F_pc f (F_pp f b d) (k, some x) c = (k + 1, some x) := by
            unfold F_pc q_st1
            rw [if_pos hp2.1, hpp]
            rfl
          have q1 : ¬ q_oc (some x) = -1 := q_m1_n x (by have := hfi x hf; omega)
          obtain ⟨h'', f2, s2⟩ := ih (c + 1) (k + 1) c (some x) (am_sI h 178 1 (nI c)) (by omega) (fun x' hx => hfi x' (hf.trans hx)) ok1 hin2 cg1 cF1
          refine ⟨h'', f1.tr f2, ?_⟩
          rw [cs, e101_50]
          simp only [e101_0, e101_1, e101_2, e101_3, e101_6, e101_9, e101_10, e101_13, e101_14, e101_15, e101_18, e101_20, e101_21, e101_22, e101_25, e101_28, e101_29f, e101_29d, e101_29b, e101_29l, e101_29t, e101_30, e101_32, e101_33, e101_36, e101_38, e101_41, e101_42, e101_44, e101_45, e101_47, e101_48, e101_52, e101_54, e101_57, e101_59, e101_61, e101_64, e101_67, e101_70, e101_71, e101_74, e101_76, e101_79, e101_80, e101_83, e101_84, e101_87, e101_88, e101_91, e101_94, e101_96, e101_97, e101_100, e101_102, e101_105, e101_107, e101_109, e101_112, e101_117, e101_120, e101_122, e101_125, e101_127, e101_129, e101_132, am_bd_some, Option.toList_some, Option.toList_none, List.cons_append, List.nil_append, am_w8_0, am_w8_1, am_w8_2, am_w8_3, am_w8_4, eq_self, or_true, true_or, am_kd_sI, am_kd_sL, am_kd_sR, am_tc_sI, am_tc_sL, am_tc_sR, am_len_sI, am_len_sL, am_len_sR, am_rfs, if_true, if_false, am_rdL_sI, am_rR_sL, am_rt_cq, am_kd_cq, am_tc_cq, am_len_cq, am_rd_sL, am_rd_sR, am_rdL_sR, h1, cF.1.1.1, dp, y, not_false_eq_true, okK_0 ok, okR_0_4 ok, okK_178 ok, dw, nk, not_true, q1, nI_1]
          exact s2
theorem q_pst_m (f : q_Fl) (fk : F_ok f) (b d : Nat) (hb : b < F_n f) (hd : d < 4) (a1 many : Int32) : ∀ (r k c0 : Nat) (be : Option Nat) (h : am_H), r ≤ F_w f * F_h f → F_in f c0 → q_mg h f (G_sdog (G_0 f) c0) → ∃ h' : am_H, q_mw h h' ∧ am_ev 276 47 [some (.ref 211), some (.int a1), some (.int (nI b)), some (.int (nI d)), some (.int many), some (.int (nI k)), some (.int (q_oc be)), some (.int (q_dn r))] [] h = some (some (.int (if many = 0 then q_oc ((List.range r).foldr (q_st2 (fun m => F_pp f b d (q_cell (F_w f) m))) (k, be)).2 else nI ((List.range r).foldr (q_st2 (fun m => F_pp f b d (q_cell (F_w f) m))) (k, be)).1)), h') := by
  have wf := fk.wf
  have n6 := wf.2.2.2.1
  have c64 := wf.c64
  have i0 := G_0_in fk
  have p0 := G_0_pi fk
  intro r
  induction r with
  | zero =>
    intro k c0 be h hr hin mg
    have h1 : q_dn 0 < 0 := by decide
    refine ⟨h, q_mw.rf h, ?_⟩
    rw [e276_47]
    by_cases c : many = 0
    · simp only [e276_0, e276_1, e276_2, e276_5, e276_6, e276_7, e276_8, e276_11, e276_14, e276_15, e276_16, e276_19, e276_22, e276_23, e276_24, e276_27, e276_30, e276_32, e276_33, e276_34, e276_36, e276_37, e276_39, e276_40, e276_43, e276_44, e276_45, e276_49, e276_52, e276_53, e276_55, e276_58, e276_61, e276_62, e276_63, e276_65, e276_68, e276_71, e276_72, e276_73, e276_76, e276_77, e276_80, e276_83, e276_85, e276_87, e276_90, e276_93, e276_95, e276_98, e276_100, e276_103, e276_105, am_bd_some, Option.toList_some, Option.toList_none, List.cons_append, List.nil_append, am_w8_0, am_w8_1, am_w8_2, am_w8_3, am_w8_4, eq_self, or_true, true_or, am_kd_sI, am_kd_sL, am_kd_sR, am_tc_sI, am_tc_sL, am_tc_sR, am_len_sI, am_len_sL, am_len_sR, am_rfs, if_true, if_false, am_rdL_sI, am_rR_sL, am_rt_cq, am_kd_cq, am_tc_cq, am_len_cq, am_rd_sL, am_rd_sR, am_rdL_sR, h1, c, List.range_zero, List.foldr_nil]
    · simp only [e276_0, e276_1, e276_2, e276_5, e276_6, e276_7, e276_8, e276_11, e276_14, e276_15, e276_16, e276_19, e276_22, e276_23, e276_24, e276_27, e276_30, e276_32, e276_33, e276_34, e276_36, e276_37, e276_39, e276_40, e276_43, e276_44, e276_45, e276_49, e276_52, e276_53, e276_55, e276_58, e276_61, e276_62, e276_63, e276_65, e276_68, e276_71, e276_72, e276_73, e276_76, e276_77, e276_80, e276_83, e276_85, e276_87, e276_90, e276_93, e276_95, e276_98, e276_100, e276_103, e276_105, am_bd_some, Option.toList_some, Option.toList_none, List.cons_append, List.nil_append, am_w8_0, am_w8_1, am_w8_2, am_w8_3, am_w8_4, eq_self, or_true, true_or, am_kd_sI, am_kd_sL, am_kd_sR, am_tc_sI, am_tc_sL, am_tc_sR, am_len_sI, am_len_sL, am_len_sR, am_rfs, if_true, if_false, am_rdL_sI, am_rR_sL, am_rt_cq, am_kd_cq, am_tc_cq, am_len_cq, am_rd_sL, am_rd_sR, am_rdL_sR, h1, c, List.range_zero, List.foldr_nil]
  | succ r ih =>
    intro k c0 be h hr hin mg
    have ok := mg.1.1
    have dn : q_dn (r + 1) = nI r := by unfold q_dn; rw [if_neg (by omega)]; rfl
    have h1 : ¬ nI r < 0 := nI_pos (by omega)
    obtain ⟨ci, cn⟩ := q_cell_in wf (m := r) (by omega)
    have gi : G_in f (G_sdog (G_0 f) c0) := ⟨hin, i0.2⟩
    have dm : am_den 214 [.ref 211, .int (nI (q_nm f (q_cell (F_w f) r)))] h = some (some (.int (q_bi (G_may f (G_0 f) (q_cell (F_w f) r)))), h) := den_may h f _ mg wf gi p0 _ ci
    rw [cn] at dm
    have nx : nI r + -1 = q_dn r := by
      unfold q_dn
      by_cases c : r = 0
      · subst c; rw [if_pos rfl, nI_0]; rfl
      · rw [if_neg c]; exact q_m1n r c
    rw [List.range_succ, List.foldr_append, List.foldr_cons, List.foldr_nil, dn, e276_47]
    cases hm : G_may f (G_0 f) (q_cell (F_w f) r) with
    | false =>
      rw [hm] at dm
      have y : q_bi false = 0 := rfl
      have cs : q_st2 (fun m => F_pp f b d (q_cell (F_w f) m)) r (k, be) = (k, be) := by
        have : F_pp f b d (q_cell (F_w f) r) = false := by unfold F_pp; rw [hm]; rfl
        exact q_st2_n this
      obtain ⟨h'', f2, s2⟩ := ih k c0 be h (by omega) hin mg
      refine ⟨h'', f2, ?_⟩
      rw [cs]
      simp only [e276_0, e276_1, e276_2, e276_5, e276_6, e276_7, e276_8, e276_11, e276_14, e276_15, e276_16, e276_19, e276_22, e276_23, e276_24, e276_27, e276_30, e276_32, e276_33, e276_34, e276_36, e276_37, e276_39, e276_40, e276_43, e276_44, e276_45, e276_49, e276_52, e276_53, e276_55, e276_58, e276_61, e276_62, e276_63, e276_65, e276_68, e276_71, e276_72, e276_73, e276_76, e276_77, e276_80, e276_83, e276_85, e276_87, e276_90, e276_93, e276_95, e276_98, e276_100, e276_103, e276_105, am_bd_some, Option.toList_some, Option.toList_none, List.cons_append, List.nil_append, am_w8_0, am_w8_1, am_w8_2, am_w8_3, am_w8_4, eq_self, or_true, true_or, am_kd_sI, am_kd_sL, am_kd_sR, am_tc_sI, am_tc_sL, am_tc_sR, am_len_sI, am_len_sL, am_len_sR, am_rfs, if_true, if_false, am_rdL_sI, am_rR_sL, am_rt_cq, am_kd_cq, am_tc_cq, am_len_cq, am_rd_sL, am_rd_sR, am_rdL_sR, h1, okK_211 ok, dm, y, nx]
      exact s2
    | true =>
      rw [hm] at dm
      have y : ¬ q_bi true = 0 := by decide
      obtain ⟨mg1, dw⟩ := den_mwould h f _ mg wf gi p0 b (q_cell (F_w f) r) hb ci
      rw [cn] at mg1 dw
      have mg1' : q_mg (am_sI h 211 28 (nI r)) f (G_sdog (G_0 f) (q_cell (F_w f) r)) := mg1
      have dw' : am_den 238 [.ref 211, .int (nI b), .int (nI r)] h = some (some (.int (q_bi (G_went1 f (G_sdog (G_0 f) (q_cell (F_w f) r)) b))), am_sI h 211 28 (nI r)) := dw
      have f1 := q_mw_fld 28 (nI r) (by decide) h
      have ok1 := mg1'.1.1
      have gi1 : G_in f (G_sdog (G_0 f) (q_cell (F_w f) r)) := ⟨ci, i0.2⟩
      have dy := den_mway (am_sI h 211 28 (nI r)) f _ mg1' wf gi1 p0 b hb
      cases hw : G_went1 f (G_sdog (G_0 f) (q_cell (F_w f) r)) b with
      | false =>
        rw [hw] at dw'
        have y0 : q_bi false = 0 := rfl
        have cs : q_st2 (fun m => F_pp f b d (q_cell (F_w f) m)) r (k, be) = (k, be) := by
          have : F_pp f b d (q_cell (F_w f) r) = false := by
            unfold F_pp
            unfold G_went1 at hw
            cases hdr : G_drv f (G_sdog (G_0 f) (q_cell (F_w f) r)) b with
            | false => simp
            | true =>
              rw [hdr, Bool.true_and] at hw
              cases hy : G_way f (G_sdog (G_0 f) (q_cell (F_w f) r)) b with
              | none => simp
              | some e => rw [hy] at hw; cases hw
          exact q_st2_n this
        obtain ⟨h'', f2, s2⟩ := ih k (q_cell (F_w f) r) be (am_sI h 211 28 (nI r)) (by omega) ci mg1'
        refine ⟨h'', f1.tr f2, ?_⟩
        rw [cs]
        simp only [e276_0, e276_1, e276_2, e276_5, e276_6, e276_7, e276_8, e276_11, e276_14, e276_15, e276_16, e276_19, e276_22, e276_23, e276_24, e276_27, e276_30, e276_32, e276_33, e276_34, e276_36, e276_37, e276_39, e276_40, e276_43, e276_44, e276_45, e276_49, e276_52, e276_53, e276_55, e276_58, e276_61, e276_62, e276_63, e276_65, e276_68, e276_71, e276_72, e276_73, e276_76, e276_77, e276_80, e276_83, e276_85, e276_87, e276_90, e276_93, e276_95, e276_98, e276_100, e276_103, e276_105, am_bd_some, Option.toList_some, Option.toList_none, List.cons_append, List.nil_append, am_w8_0, am_w8_1, am_w8_2, am_w8_3, am_w8_4, eq_self, or_true, true_or, am_kd_sI, am_kd_sL, am_kd_sR, am_tc_sI, am_tc_sL, am_tc_sR, am_len_sI, am_len_sL, am_len_sR, am_rfs, if_true, if_false, am_rdL_sI, am_rR_sL, am_rt_cq, am_kd_cq, am_tc_cq, am_len_cq, am_rd_sL, am_rd_sR, am_rdL_sR, h1, okK_211 ok, dm, y, dw', y0, nx]
        exact s2
      | true =>
        rw [hw] at dw'
        have hw2 := hw
        unfold G_went1 at hw2
        rw [Bool.and_eq_true] at hw2
        have ov : q_ov (G_way f (G_sdog (G_0 f) (q_cell (F_w f) r)) b) = nI d ↔ G_way f (G_sdog (G_0 f) (q_cell (F_w f) r)) b = some d := by
          cases hy : G_way f (G_sdog (G_0 f) (q_cell (F_w f) r)) b with
          | none => exact ⟨fun w => absurd w.symm (q_m1_n d (by omega)), fun w => by cases w⟩
          | some e =>
            have he := (G_way_lt hy).1
            have : q_ov (some e) = nI d ↔ e = d := nI_eq (by omega) (by omega)
            rw [this]
            exact ⟨fun w => by rw [w], fun w => Option.some.inj w⟩
        by_cases hy : G_way f (G_sdog (G_0 f) (q_cell (F_w f) r)) b = some d
        · have ov' := ov.mpr hy
          have cs : q_st2 (fun m => F_pp f b d (q_cell (F_w f) m)) r (k, be) = (k + 1, some r) := by
            have : F_pp f b d (q_cell (F_w f) r) = true := by
              unfold F_pp
              rw [hm, hw2.1, hy]
              simp
            exact q_st2_p this
          have q2 : q_oc (some r) = nI r := rfl
          obtain ⟨h'', f2, s2⟩ := ih (k + 1) (q_cell (F_w f) r) (some r) (am_sI h 211 28 (nI r)) (by omega) ci mg1'
          rw [q2] at s2
          refine ⟨h'', f1.tr f2, ?_⟩
          rw [cs]
          simp only [e276_0, e276_1, e276_2, e276_5, e276_6, e276_7, e276_8, e276_11, e276_14, e276_15, e276_16, e276_19, e276_22, e276_23, e276_24, e276_27, e276_30, e276_32, e276_33, e276_34, e276_36, e276_37, e276_39, e276_40, e276_43, e276_44, e276_45, e276_49, e276_52, e276_53, e276_55, e276_58, e276_61, e276_62, e276_63, e276_65, e276_68, e276_71, e276_72, e276_73, e276_76, e276_77, e276_80, e276_83, e276_85, e276_87, e276_90, e276_93, e276_95, e276_98, e276_100, e276_103, e276_105, am_bd_some, Option.toList_some, Option.toList_none, List.cons_append, List.nil_append, am_w8_0, am_w8_1, am_w8_2, am_w8_3, am_w8_4, eq_self, or_true, true_or, am_kd_sI, am_kd_sL, am_kd_sR, am_tc_sI, am_tc_sL, am_tc_sR, am_len_sI, am_len_sL, am_len_sR, am_rfs, if_true, if_false, am_rdL_sI, am_rR_sL, am_rt_cq, am_kd_cq, am_tc_cq, am_len_cq, am_rd_sL, am_rd_sR, am_rdL_sR, h1, okK_211 ok, dm, y, dw', okK_211 ok1, dy, eq_true ov', not_true, nI_1, nx]
          exact s2
        · have ov' : ¬ q_ov (G_way f (G_sdog (G_0 f) (q_cell (F_w f) r)) b) = nI d := fun w => hy (ov.mp w)
          have cs : q_st2 (fun m => F_pp f b d (q_cell (F_w f) m)) r (k, be) = (k, be) := by
            have : F_pp f b d (q_cell (F_w f) r) = false := by
              unfold F_pp
              simp [hy]
            exact q_st2_n this
          obtain ⟨h'', f2, s2⟩ := ih k (q_cell (F_w f) r) be (am_sI h 211 28 (nI r)) (by omega) ci mg1'
          refine ⟨h'', f1.tr f2, ?_⟩
          rw [cs]
          simp only [e276_0, e276_1, e276_2, e276_5, e276_6, e276_7, e276_8, e276_11, e276_14, e276_15, e276_16, e276_19, e276_22, e276_23, e276_24, e276_27, e276_30, e276_32, e276_33, e276_34, e276_36, e276_37, e276_39, e276_40, e276_43, e276_44, e276_45, e276_49, e276_52, e276_53, e276_55, e276_58, e276_61, e276_62, e276_63, e276_65, e276_68, e276_71, e276_72, e276_73, e276_76, e276_77, e276_80, e276_83, e276_85, e276_87, e276_90, e276_93, e276_95, e276_98, e276_100, e276_103, e276_105, am_bd_some, Option.toList_some, Option.toList_none, List.cons_append, List.nil_append, am_w8_0, am_w8_1, am_w8_2, am_w8_3, am_w8_4, eq_self, or_true, true_or, am_kd_sI, am_kd_sL, am_kd_sR, am_tc_sI, am_tc_sL, am_tc_sR, am_len_sI, am_len_sL, am_len_sR, am_rfs, if_true, if_false, am_rdL_sI, am_rR_sL, am_rt_cq, am_kd_cq, am_tc_cq, am_len_cq, am_rd_sL, am_rd_sR, am_rdL_sR, h1, okK_211 ok, dm, y, dw', okK_211 ok1, dy, ov', not_false_eq_true, nx]
          exact s2
