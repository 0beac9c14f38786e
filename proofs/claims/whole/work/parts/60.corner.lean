/-! part 60: cornered -/
theorem q_an : ∀ s, s < 64 → ∀ m, m < 64 → (nI s &&& (nI m ^^^ -1) = nI (s &&& (63 ^^^ m))) := by decide +kernel
theorem q_an_lt : ∀ s, s < 64 → ∀ m : Nat, s &&& m < 64 := fun s hs m => Nat.lt_of_le_of_lt Nat.and_le_left hs
theorem q_an1 : ∀ b, b < 6 → ((1 : Int32) <<< (nI b &&& 31) = nI (2 ^ b)) ∧ 2 ^ b < 64 := by decide +kernel
theorem q_an2 : ∀ s, s < 64 → ∀ m, m < 64 → ∀ b, b < 6 → (s &&& (63 ^^^ m)) &&& (63 ^^^ 2 ^ b) = s &&& (63 ^^^ (m ||| 2 ^ b)) := by decide +kernel
def G_cm (f : q_Fl) (g : q_G) : Nat → Nat → Nat → Nat
  | 0, _, s => s
  | r + 1, b, s => G_cm f g r (b + 1) (if G_went1 f g b = true then s &&& (63 ^^^ 2 ^ b) else s)
theorem G_cm_wm (f : q_Fl) (g : q_G) : ∀ r b m s, b + r ≤ 6 → m < 64 → s < 64 → G_cm f g r b (s &&& (63 ^^^ m)) = s &&& (63 ^^^ G_wm f g r b m) := by
  intro r
  induction r with
  | zero => intro b m s _ _ _; rfl
  | succ r ih =>
    intro b m s hb hm hs
    show G_cm f g r (b + 1) (if G_went1 f g b = true then (s &&& (63 ^^^ m)) &&& (63 ^^^ 2 ^ b) else s &&& (63 ^^^ m)) = s &&& (63 ^^^ G_wm f g r (b + 1) (if G_went1 f g b = true then m ||| 2 ^ b else m))
    by_cases c : G_went1 f g b = true
    · rw [if_pos c, if_pos c, q_an2 s hs m hm b (by omega)]
      exact ih (b + 1) _ s (by omega) (q_or64 m hm b (by omega)) hs
    · rw [if_neg c, if_neg c]
      exact ih (b + 1) m s (by omega) hm hs
theorem q_63 : ∀ s, s < 64 → s &&& (63 ^^^ 0) = s := by decide +kernel
def F_cs (f : q_Fl) (s c : Nat) : Nat := if G_may f (G_0 f) c = true then s &&& (63 ^^^ G_wm f (G_sdog (G_0 f) c) (F_n f) 0 0) else s
theorem F_cs_lt {f : q_Fl} {s c : Nat} (hs : s < 64) : F_cs f s c < 64 := by
  unfold F_cs
  split
  · exact q_an_lt s hs _
  · exact hs
def F_cc (f : q_Fl) (s c : Nat) : Nat := if F_insB (F_w f) (F_h f) c = true then F_cs f s c else s
theorem q_cor_c (o : Nat) (ho : o + 2 < 178) (f : q_Fl) (fk : F_ok f) (a1 : Int32) : ∀ (r c s c0 : Nat) (h : am_H), c + r = 64 → s < 64 → am_okH h → F_in f c0 → q_cg h 178 o f (G_sdog (G_0 f) c0) → q_cF h o f → ∃ h' : am_H, q_ff 178 h h' ∧ am_ev 102 44 [some (.ref 0), some (.int a1), some (.ref o), some (.int (nI s)), some (.int (nI c))] [] h = some (some (.int (nI ((List.range' c r).foldl (F_cc f) s))), h') := by
  have wf := fk.wf
  have n6 := wf.2.2.2.1
  have i0 := G_0_in fk
  intro r
  induction r with
  | zero =>
    intro c s c0 h hc hs ok hin cg cF
    obtain rfl : c = 64 := by omega
    have h1 : (64 : Int32) ≤ nI 64 := by decide
    refine ⟨h, q_ff.rf _ h, ?_⟩
    rw [e102_44]
    simp only [e102_0, e102_1, e102_4, e102_5, e102_6, e102_9, e102_12, e102_13, e102_14, e102_15, e102_18, e102_21, e102_22f, e102_22d, e102_22b, e102_22l, e102_22t, e102_23, e102_24, e102_25, e102_28, e102_29, e102_32, e102_33, e102_34, e102_37, e102_38, e102_39, e102_40, e102_41, e102_42, e102_46, e102_48, e102_51, e102_52, e102_54, e102_57, e102_60, e102_61, e102_64, e102_66, e102_69, e102_70, e102_71, e102_74, e102_77, e102_78, e102_79, e102_80, e102_81, e102_84, e102_87, e102_88, am_bd_some, Option.toList_some, Option.toList_none, List.cons_append, List.nil_append, am_w8_0, am_w8_1, am_w8_2, am_w8_3, am_w8_4, eq_self, or_true, true_or, am_kd_sI, am_kd_sL, am_kd_sR, am_tc_sI, am_tc_sL, am_tc_sR, am_len_sI, am_len_sL, am_len_sR, am_rfs, if_true, if_false, am_rdL_sI, am_rR_sL, am_rt_cq, am_kd_cq, am_tc_cq, am_len_cq, am_rd_sL, am_rd_sR, am_rdL_sR, h1, List.range'_zero, List.foldl_nil]
  | succ r ih =>
    intro c s c0 h hc hs ok hin cg cF
    have h1 : ¬ (64 : Int32) ≤ nI c := fun w => nI_ge (b := 64) (a := c) (by omega) (by decide) w
    have dp := den_place h o f cF fk c (by omega)
    rw [List.range'_succ, List.foldl_cons]
    cases hp : F_pl f c with
    | false =>
      rw [hp] at dp
      have y : q_bi false = 0 := rfl
      have cs : F_cc f s c = s := by
        unfold F_pl at hp
        unfold F_cc F_cs
        cases hi : F_insB (F_w f) (F_h f) c with
        | false => rfl
        | true => rw [hi, Bool.true_and] at hp; rw [hp]; rfl
      obtain ⟨h'', f2, s2⟩ := ih (c + 1) s c0 h (by omega) hs ok hin cg cF
      refine ⟨h'', f2, ?_⟩
      rw [cs, e102_44]
      simp only [e102_0, e102_1, e102_4, e102_5, e102_6, e102_9, e102_12, e102_13, e102_14, e102_15, e102_18, e102_21, e102_22f, e102_22d, e102_22b, e102_22l, e102_22t, e102_23, e102_24, e102_25, e102_28, e102_29, e102_32, e102_33, e102_34, e102_37, e102_38, e102_39, e102_40, e102_41, e102_42, e102_46, e102_48, e102_51, e102_52, e102_54, e102_57, e102_60, e102_61, e102_64, e102_66, e102_69, e102_70, e102_71, e102_74, e102_77, e102_78, e102_79, e102_80, e102_81, e102_84, e102_87, e102_88, am_bd_some, Option.toList_some, Option.toList_none, List.cons_append, List.nil_append, am_w8_0, am_w8_1, am_w8_2, am_w8_3, am_w8_4, eq_self, or_true, true_or, am_kd_sI, am_kd_sL, am_kd_sR, am_tc_sI, am_tc_sL, am_tc_sR, am_len_sI, am_len_sL, am_len_sR, am_rfs, if_true, if_false, am_rdL_sI, am_rR_sL, am_rt_cq, am_kd_cq, am_tc_cq, am_len_cq, am_rd_sL, am_rd_sR, am_rdL_sR, h1, cF.1.1.1, dp, y, nI_1]
      exact s2
    | true =>
      rw [hp] at dp
      have y : ¬ q_bi true = 0 := by decide
      have hp2 := hp
      unfold F_pl at hp2
      rw [Bool.and_eq_true] at hp2
      have hin2 : F_in f c := F_insB_in (by omega) hp2.1
      have cg1 : q_cg (am_sI h 178 1 (nI c)) 178 o f (G_sdog (G_0 f) c) := q_cg_dog cg c
      have ok1 : am_okH (am_sI h 178 1 (nI c)) := ok
      have f1 := q_ff_fld 178 1 (nI c) h
      have gi : G_in f (G_sdog (G_0 f) c) := ⟨hin2, i0.2⟩
      have dw := den_cwould (am_sI h 178 1 (nI c)) 178 o f _ cg1 wf gi
      have wl := G_wm_lt f (G_sdog (G_0 f) c) (F_n f) 0 0 (by omega) (by decide)
      have an := q_an s hs _ wl
      have cs : F_cc f s c = s &&& (63 ^^^ G_wm f (G_sdog (G_0 f) c) (F_n f) 0 0) := by
        unfold F_cc F_cs
        rw [if_pos hp2.1, if_pos hp2.2]
      obtain ⟨h'', f2, s2⟩ := ih (c + 1) (F_cc f s c) c (am_sI h 178 1 (nI c)) (by omega) (by rw [cs]; exact q_an_lt s hs _) ok1 hin2 cg1 (f1.fb.cF cF (by omega))
      refine ⟨h'', f1.tr f2, ?_⟩
      rw [e102_44]
      rw [cs] at s2 ⊢
      simp only [e102_0, e102_1, e102_4, e102_5, e102_6, e102_9, e102_12, e102_13, e102_14, e102_15, e102_18, e102_21, e102_22f, e102_22d, e102_22b, e102_22l, e102_22t, e102_23, e102_24, e102_25, e102_28, e102_29, e102_32, e102_33, e102_34, e102_37, e102_38, e102_39, e102_40, e102_41, e102_42, e102_46, e102_48, e102_51, e102_52, e102_54, e102_57, e102_60, e102_61, e102_64, e102_66, e102_69, e102_70, e102_71, e102_74, e102_77, e102_78, e102_79, e102_80, e102_81, e102_84, e102_87, e102_88, am_bd_some, Option.toList_some, Option.toList_none, List.cons_append, List.nil_append, am_w8_0, am_w8_1, am_w8_2, am_w8_3, am_w8_4, eq_self, or_true, true_or, am_kd_sI, am_kd_sL, am_kd_sR, am_tc_sI, am_tc_sL, am_tc_sR, am_len_sI, am_len_sL, am_len_sR, am_rfs, if_true, if_false, am_rdL_sI, am_rR_sL, am_rt_cq, am_kd_cq, am_tc_cq, am_len_cq, am_rd_sL, am_rd_sR, am_rdL_sR, h1, cF.1.1.1, dp, y, okK_0 ok, okR_0_4 ok, okK_178 ok, dw, an, nI_1]
      exact s2
theorem q_cor_mi (f : q_Fl) (fk : F_ok f) (a1 : Int32) (t : Nat) (ht : F_in f t) : ∀ (r b s c0 : Nat) (h : am_H), b + r = F_n f → s < 64 → F_in f c0 → q_mg h f (G_sdog (G_0 f) c0) → ∃ (h' : am_H) (c1 : Nat), q_mw h h' ∧ F_in f c1 ∧ q_mg h' f (G_sdog (G_0 f) c1) ∧ am_ev 277 37 [some (.ref 211), some (.int a1), some (.int (nI s)), some (.int (nI (q_nm f t))), some (.int (nI b))] [] h = am_ev 277 26 [some (.ref 211), some (.int a1), some (.int (nI (if G_may f (G_0 f) t = true then G_cm f (G_sdog (G_0 f) t) r b s else s))), some (.int (nI (q_nm f t + 1))), some (.int (nI (F_n f)))] [] h' := by
  have wf := fk.wf
  have n6 := wf.2.2.2.1
  have i0 := G_0_in fk
  have p0 := G_0_pi fk
  intro r
  induction r with
  | zero =>
    intro b s c0 h hb hs hin mg
    obtain rfl : b = F_n f := by omega
    have ok := mg.1.1
    have a5 := mg.1.2.2.2.2.2.1
    have h1 : nI (F_n f) ≤ nI (F_n f) := Int32.le_refl _
    have e : (if G_may f (G_0 f) t = true then G_cm f (G_sdog (G_0 f) t) 0 (F_n f) s else s) = s := by split <;> rfl
    refine ⟨h, c0, q_mw.rf h, hin, mg, ?_⟩
    rw [e, e277_37]
    simp only [e277_0, e277_1, e277_2, e277_5, e277_6, e277_7, e277_10, e277_13, e277_14, e277_15, e277_16, e277_17, e277_20, e277_21, e277_22, e277_23, e277_24, e277_25, e277_27, e277_28, e277_31, e277_34, e277_35, e277_39, e277_40, e277_43, e277_46, e277_47, e277_48, e277_49, e277_52, e277_55, e277_56, e277_58, e277_59, e277_62, e277_65, e277_66, e277_68, e277_69, e277_70, e277_71, e277_74, e277_75, e277_76, e277_77, e277_80, e277_83, e277_86, e277_89, e277_90, am_bd_some, Option.toList_some, Option.toList_none, List.cons_append, List.nil_append, am_w8_0, am_w8_1, am_w8_2, am_w8_3, am_w8_4, eq_self, or_true, true_or, am_kd_sI, am_kd_sL, am_kd_sR, am_tc_sI, am_tc_sL, am_tc_sR, am_len_sI, am_len_sL, am_len_sR, am_rfs, if_true, if_false, am_rdL_sI, am_rR_sL, am_rt_cq, am_kd_cq, am_tc_cq, am_len_cq, am_rd_sL, am_rd_sR, am_rdL_sR, okK_211 ok, a5, h1, nI_1]
  | succ r ih =>
    intro b s c0 h hb hs hin mg
    have ok := mg.1.1
    have a5 := mg.1.2.2.2.2.2.1
    have h1 : ¬ nI (F_n f) ≤ nI b := nI_ge (by omega) (by omega)
    have gi : G_in f (G_sdog (G_0 f) c0) := ⟨hin, i0.2⟩
    have dm : am_den 214 [.ref 211, .int (nI (q_nm f t))] h = some (some (.int (q_bi (G_may f (G_0 f) t))), h) := den_may h f _ mg wf gi p0 t ht
    have am1 : nI s &&& -1 = nI s := by
      have := q_an s hs 0 (by decide)
      rw [q_63 s hs, nI_0] at this
      have e : (0 : Int32) ^^^ -1 = -1 := by decide
      rw [e] at this
      exact this
    rw [e277_37]
    cases hm : G_may f (G_0 f) t with
    | false =>
      rw [hm] at dm
      have y : q_bi false = 0 := rfl
      obtain ⟨h'', c1, f2, i2, g2, s2⟩ := ih (b + 1) s c0 h (by omega) hs hin mg
      rw [hm, if_neg (by decide)] at s2
      refine ⟨h'', c1, f2, i2, g2, ?_⟩
      rw [if_neg (by decide)]
      simp only [e277_0, e277_1, e277_2, e277_5, e277_6, e277_7, e277_10, e277_13, e277_14, e277_15, e277_16, e277_17, e277_20, e277_21, e277_22, e277_23, e277_24, e277_25, e277_27, e277_28, e277_31, e277_34, e277_35, e277_39, e277_40, e277_43, e277_46, e277_47, e277_48, e277_49, e277_52, e277_55, e277_56, e277_58, e277_59, e277_62, e277_65, e277_66, e277_68, e277_69, e277_70, e277_71, e277_74, e277_75, e277_76, e277_77, e277_80, e277_83, e277_86, e277_89, e277_90, am_bd_some, Option.toList_some, Option.toList_none, List.cons_append, List.nil_append, am_w8_0, am_w8_1, am_w8_2, am_w8_3, am_w8_4, eq_self, or_true, true_or, am_kd_sI, am_kd_sL, am_kd_sR, am_tc_sI, am_tc_sL, am_tc_sR, am_len_sI, am_len_sL, am_len_sR, am_rfs, if_true, if_false, am_rdL_sI, am_rR_sL, am_rt_cq, am_kd_cq, am_tc_cq, am_len_cq, am_rd_sL, am_rd_sR, am_rdL_sR, okK_211 ok, a5, h1, dm, y, am1, nI_1]
      exact s2
    | true =>
      rw [hm] at dm
      have y : ¬ q_bi true = 0 := by decide
      obtain ⟨mg1, dw⟩ := den_mwould h f _ mg wf gi p0 b t (by omega) ht
      have mg1' : q_mg (am_sI h 211 28 (nI (q_nm f t))) f (G_sdog (G_0 f) t) := mg1
      have dw' : am_den 238 [.ref 211, .int (nI b), .int (nI (q_nm f t))] h = some (some (.int (q_bi (G_went1 f (G_sdog (G_0 f) t) b))), am_sI h 211 28 (nI (q_nm f t))) := dw
      have f1 := q_mw_fld 28 (nI (q_nm f t)) (by decide) h
      have ok1 := mg1'.1.1
      obtain ⟨sh, sl⟩ := q_an1 b (by omega)
      have an := q_an s hs (2 ^ b) sl
      cases hw : G_went1 f (G_sdog (G_0 f) t) b with
      | true =>
        rw [hw] at dw'
        obtain ⟨h'', c1, f2, i2, g2, s2⟩ := ih (b + 1) (s &&& (63 ^^^ 2 ^ b)) t (am_sI h 211 28 (nI (q_nm f t))) (by omega) (q_an_lt s hs _) ht mg1'
        rw [hm, if_pos rfl] at s2
        refine ⟨h'', c1, f1.tr f2, i2, g2, ?_⟩
        rw [if_pos rfl, G_cm, if_pos hw]
        simp only [e277_0, e277_1, e277_2, e277_5, e277_6, e277_7, e277_10, e277_13, e277_14, e277_15, e277_16, e277_17, e277_20, e277_21, e277_22, e277_23, e277_24, e277_25, e277_27, e277_28, e277_31, e277_34, e277_35, e277_39, e277_40, e277_43, e277_46, e277_47, e277_48, e277_49, e277_52, e277_55, e277_56, e277_58, e277_59, e277_62, e277_65, e277_66, e277_68, e277_69, e277_70, e277_71, e277_74, e277_75, e277_76, e277_77, e277_80, e277_83, e277_86, e277_89, e277_90, am_bd_some, Option.toList_some, Option.toList_none, List.cons_append, List.nil_append, am_w8_0, am_w8_1, am_w8_2, am_w8_3, am_w8_4, eq_self, or_true, true_or, am_kd_sI, am_kd_sL, am_kd_sR, am_tc_sI, am_tc_sL, am_tc_sR, am_len_sI, am_len_sL, am_len_sR, am_rfs, if_true, if_false, am_rdL_sI, am_rR_sL, am_rt_cq, am_kd_cq, am_tc_cq, am_len_cq, am_rd_sL, am_rd_sR, am_rdL_sR, okK_211 ok, a5, h1, dm, y, dw', sh, an, nI_1]
        exact s2
      | false =>
        rw [hw] at dw'
        have y0 : q_bi false = 0 := rfl
        obtain ⟨h'', c1, f2, i2, g2, s2⟩ := ih (b + 1) s t (am_sI h 211 28 (nI (q_nm f t))) (by omega) hs ht mg1'
        rw [hm, if_pos rfl] at s2
        refine ⟨h'', c1, f1.tr f2, i2, g2, ?_⟩
        rw [if_pos rfl, G_cm, if_neg (by rw [hw]; decide)]
        simp only [e277_0, e277_1, e277_2, e277_5, e277_6, e277_7, e277_10, e277_13, e277_14, e277_15, e277_16, e277_17, e277_20, e277_21, e277_22, e277_23, e277_24, e277_25, e277_27, e277_28, e277_31, e277_34, e277_35, e277_39, e277_40, e277_43, e277_46, e277_47, e277_48, e277_49, e277_52, e277_55, e277_56, e277_58, e277_59, e277_62, e277_65, e277_66, e277_68, e277_69, e277_70, e277_71, e277_74, e277_75, e277_76, e277_77, e277_80, e277_83, e277_86, e277_89, e277_90, am_bd_some, Option.toList_some, Option.toList_none, List.cons_append, List.nil_append, am_w8_0, am_w8_1, am_w8_2, am_w8_3, am_w8_4, eq_self, or_true, true_or, am_kd_sI, am_kd_sL, am_kd_sR, am_tc_sI, am_tc_sL, am_tc_sR, am_len_sI, am_len_sL, am_len_sR, am_rfs, if_true, if_false, am_rdL_sI, am_rR_sL, am_rt_cq, am_kd_cq, am_tc_cq, am_len_cq, am_rd_sL, am_rd_sR, am_rdL_sR, okK_211 ok, a5, h1, dm, y, dw', y0, am1, nI_1]
        exact s2
theorem q_cor_m (f : q_Fl) (fk : F_ok f) (a1 : Int32) : ∀ (r m s c0 : Nat) (h : am_H) (z4 : Option Value), m + r = F_w f * F_h f → s < 64 → F_in f c0 → q_mg h f (G_sdog (G_0 f) c0) → ∃ h' : am_H, q_mw h h' ∧ am_ev 277 26 [some (.ref 211), some (.int a1), some (.int (nI s)), some (.int (nI m)), z4] [] h = some (some (.int (nI ((List.range' m r).foldl (fun s m => F_cs f s (q_cell (F_w f) m)) s))), h') := by
  have wf := fk.wf
  have n6 := wf.2.2.2.1
  have c64 := wf.c64
  intro r
  induction r with
  | zero =>
    intro m s c0 h z4 hm hs hin mg
    have ok := mg.1.1
    have a2 := mg.1.2.2.1
    have h1 : nI (F_w f * F_h f) ≤ nI m := nI_le (by omega) (by omega)
    refine ⟨h, q_mw.rf h, ?_⟩
    rw [e277_26]
    simp only [e277_0, e277_1, e277_2, e277_5, e277_6, e277_7, e277_10, e277_13, e277_14, e277_15, e277_16, e277_17, e277_20, e277_21, e277_22, e277_23, e277_24, e277_25, e277_27, e277_28, e277_31, e277_34, e277_35, e277_39, e277_40, e277_43, e277_46, e277_47, e277_48, e277_49, e277_52, e277_55, e277_56, e277_58, e277_59, e277_62, e277_65, e277_66, e277_68, e277_69, e277_70, e277_71, e277_74, e277_75, e277_76, e277_77, e277_80, e277_83, e277_86, e277_89, e277_90, am_bd_some, Option.toList_some, Option.toList_none, List.cons_append, List.nil_append, am_w8_0, am_w8_1, am_w8_2, am_w8_3, am_w8_4, eq_self, or_true, true_or, am_kd_sI, am_kd_sL, am_kd_sR, am_tc_sI, am_tc_sL, am_tc_sR, am_len_sI, am_len_sL, am_len_sR, am_rfs, if_true, if_false, am_rdL_sI, am_rR_sL, am_rt_cq, am_kd_cq, am_tc_cq, am_len_cq, am_rd_sL, am_rd_sR, am_rdL_sR, okK_211 ok, a2, h1, List.range'_zero, List.foldl_nil]
  | succ r ih =>
    intro m s c0 h z4 hm hs hin mg
    have ok := mg.1.1
    have a2 := mg.1.2.2.1
    have h1 : ¬ nI (F_w f * F_h f) ≤ nI m := nI_ge (by omega) (by omega)
    obtain ⟨ci, cn⟩ := q_cell_in wf (m := m) (by omega)
    obtain ⟨h', c1, f1, i1, g1, s1⟩ := q_cor_mi f fk a1 (q_cell (F_w f) m) ci (F_n f) 0 s c0 h (by omega) hs hin mg
    have e : (if G_may f (G_0 f) (q_cell (F_w f) m) = true then G_cm f (G_sdog (G_0 f) (q_cell (F_w f) m)) (F_n f) 0 s else s) = F_cs f s (q_cell (F_w f) m) := by
      unfold F_cs
      split
      · have := G_cm_wm f (G_sdog (G_0 f) (q_cell (F_w f) m)) (F_n f) 0 0 s (by omega) (by decide) hs
        rw [q_63 s hs] at this
        exact this
      · rfl
    rw [e, cn, nI_0] at s1
    obtain ⟨h'', f2, s2⟩ := ih (m + 1) (F_cs f s (q_cell (F_w f) m)) c1 h' (some (.int (nI (F_n f)))) (by omega) (F_cs_lt hs) i1 g1
    refine ⟨h'', f1.tr f2, ?_⟩
    rw [List.range'_succ, List.foldl_cons, e277_26]
    simp only [e277_0, e277_1, e277_2, e277_5, e277_6, e277_7, e277_10, e277_13, e277_14, e277_15, e277_16, e277_17, e277_20, e277_21, e277_22, e277_23, e277_24, e277_25, e277_27, e277_28, e277_31, e277_34, e277_35, e277_39, e277_40, e277_43, e277_46, e277_47, e277_48, e277_49, e277_52, e277_55, e277_56, e277_58, e277_59, e277_62, e277_65, e277_66, e277_68, e277_69, e277_70, e277_71, e277_74, e277_75, e277_76, e277_77, e277_80, e277_83, e277_86, e277_89, e277_90, am_bd_some, Option.toList_some, Option.toList_none, List.cons_append, List.nil_append, am_w8_0, am_w8_1, am_w8_2, am_w8_3, am_w8_4, eq_self, or_true, true_or, am_kd_sI, am_kd_sL, am_kd_sR, am_tc_sI, am_tc_sL, am_tc_sR, am_len_sI, am_len_sL, am_len_sR, am_rfs, if_true, if_false, am_rdL_sI, am_rR_sL, am_rt_cq, am_kd_cq, am_tc_cq, am_len_cq, am_rd_sL, am_rd_sR, am_rdL_sR, okK_211 ok, a2, h1]
    rw [s1]
    exact s2
theorem q_shl1 : ∀ n, n ≤ 6 → ((1 : Int32) <<< (nI n &&& 31) - 1 = nI (2 ^ n - 1)) ∧ 2 ^ n - 1 < 64 := by decide +kernel
def q_corA (A : q_All) (a : Int32) : Int32 := if 0 ≤ a ∧ a < nI (A.2.1 0) then nI ((List.range (F_w (A.2.2.1 a.toNatClampNeg) * F_h (A.2.2.1 a.toNatClampNeg))).foldl (fun s m => F_cs (A.2.2.1 a.toNatClampNeg) s (q_cell (F_w (A.2.2.1 a.toNatClampNeg)) m)) (2 ^ F_n (A.2.2.1 a.toNatClampNeg) - 1)) else -1
theorem den_ccor {A : q_All} {h : am_H} (H : q_Rel A h) (a : Int32) : ∃ h' : am_H, q_wk h h' ∧ am_den 102 [.ref 0, .int a] h = some (some (.int (q_corA A a)), h') := by
  have ok := H.1
  obtain ⟨c1, c2, c3⟩ := H.cnt 0 (by decide)
  have dh := den_has h ok 0 (by decide) (A.2.1 0) c1 c2 a
  rw [nI_0] at dh
  have y : ¬ (1 : Int32) = 0 := by decide
  show ∃ h' : am_H, q_wk h h' ∧ am_ev 102 0 [some (.ref 0), some (.int a), none, none, none] [] h = _
  unfold q_corA
  by_cases ca : 0 ≤ a ∧ a < nI (A.2.1 0)
  · rw [if_pos ca] at dh ⊢
    obtain ⟨i, hi, rfl⟩ := q_in2 c1 ca
    obtain ⟨fk, cF, -⟩ := H.fl i hi
    have wf := fk.wf
    have n6 := wf.2.2.2.1
    have z : (nI i).toNatClampNeg = i := nI_clamp (by omega)
    have x : am_ix (nI i) 2 = true := am_ix_nI (by omega) (by decide)
    have r := q_fo_ref ok i (by omega)
    have q178 : q_flk 178 := Or.inl rfl
    obtain ⟨h1, f1, g1, s1⟩ := den_begin h ok 178 (8 + 16 * i) q178 (by omega) _ wf cF
    have ok1 := f1.ok q178 ok
    have cF1 := f1.cF cF (by omega)
    have e5 := cF1.1.2.2.2.2.2.1
    obtain ⟨sh, sl⟩ := q_shl1 (F_n (A.2.2.1 i)) n6
    obtain ⟨h2, f2, s2⟩ := q_cor_c (8 + 16 * i) (by omega) _ fk (nI i) 64 0 _ (F_dog (A.2.2.1 i)) h1 (by omega) sl ok1 fk.2.2.2.1 g1 cF1
    rw [nI_0, ← List.range_eq_range'] at s2
    have fo := q_fold wf (F_cs (A.2.2.1 i)) (2 ^ F_n (A.2.2.1 i) - 1)
    have fo' : (List.range 64).foldl (F_cc (A.2.2.1 i)) (2 ^ F_n (A.2.2.1 i) - 1) = (List.range (F_w (A.2.2.1 i) * F_h (A.2.2.1 i))).foldl (fun s m => F_cs (A.2.2.1 i) s (q_cell (F_w (A.2.2.1 i)) m)) (2 ^ F_n (A.2.2.1 i) - 1) := fo
    rw [fo'] at s2
    refine ⟨h2, (f1.tr f2.fb).wk q178 ok, ?_⟩
    rw [z]
    simp only [e102_0, e102_1, e102_4, e102_5, e102_6, e102_9, e102_12, e102_13, e102_14, e102_15, e102_18, e102_21, e102_22f, e102_22d, e102_22b, e102_22l, e102_22t, e102_23, e102_24, e102_25, e102_28, e102_29, e102_32, e102_33, e102_34, e102_37, e102_38, e102_39, e102_40, e102_41, e102_42, e102_46, e102_48, e102_51, e102_52, e102_54, e102_57, e102_60, e102_61, e102_64, e102_66, e102_69, e102_70, e102_71, e102_74, e102_77, e102_78, e102_79, e102_80, e102_81, e102_84, e102_87, e102_88, am_bd_some, Option.toList_some, Option.toList_none, List.cons_append, List.nil_append, am_w8_0, am_w8_1, am_w8_2, am_w8_3, am_w8_4, eq_self, or_true, true_or, am_kd_sI, am_kd_sL, am_kd_sR, am_tc_sI, am_tc_sL, am_tc_sR, am_len_sI, am_len_sL, am_len_sR, am_rfs, if_true, if_false, am_rdL_sI, am_rR_sL, am_rt_cq, am_kd_cq, am_tc_cq, am_len_cq, am_rd_sL, am_rd_sR, am_rdL_sR, okK_0 ok, okR_0_0 ok, okK_1 ok, okR_1_5 ok, okT_4 ok, okL_4 ok, okR_0_4 ok, okK_178 ok, dh, y, not_false_eq_true, x, z, r, s1, cF1.1.1.1, e5, sh]
    exact s2
  · rw [if_neg ca] at dh ⊢
    refine ⟨h, q_wk.rf ok, ?_⟩
    simp only [e102_0, e102_1, e102_4, e102_5, e102_6, e102_9, e102_12, e102_13, e102_14, e102_15, e102_18, e102_21, e102_22f, e102_22d, e102_22b, e102_22l, e102_22t, e102_23, e102_24, e102_25, e102_28, e102_29, e102_32, e102_33, e102_34, e102_37, e102_38, e102_39, e102_40, e102_41, e102_42, e102_46, e102_48, e102_51, e102_52, e102_54, e102_57, e102_60, e102_61, e102_64, e102_66, e102_69, e102_70, e102_71, e102_74, e102_77, e102_78, e102_79, e102_80, e102_81, e102_84, e102_87, e102_88, am_bd_some, Option.toList_some, Option.toList_none, List.cons_append, List.nil_append, am_w8_0, am_w8_1, am_w8_2, am_w8_3, am_w8_4, eq_self, or_true, true_or, am_kd_sI, am_kd_sL, am_kd_sR, am_tc_sI, am_tc_sL, am_tc_sR, am_len_sI, am_len_sL, am_len_sR, am_rfs, if_true, if_false, am_rdL_sI, am_rR_sL, am_rt_cq, am_kd_cq, am_tc_cq, am_len_cq, am_rd_sL, am_rd_sR, am_rdL_sR, okK_0 ok, okR_0_0 ok, okK_1 ok, dh, not_true]
theorem den_mcor {A : q_All} {h : am_H} (H : q_Rel A h) (a : Int32) : ∃ h' : am_H, q_wk h h' ∧ am_den 277 [.ref 211, .int a] h = some (some (.int (q_corA A a)), h') := by
  have ok := H.1
  have h0 := H.2.1
  obtain ⟨c1, c2, c3⟩ := H.cnt 0 (by decide)
  have y : ¬ (1 : Int32) = 0 := by decide
  show ∃ h' : am_H, q_wk h h' ∧ am_ev 277 0 [some (.ref 211), some (.int a), none, none, none] [] h = _
  unfold q_corA
  by_cases ca : 0 ≤ a ∧ a < nI (A.2.1 0)
  · rw [if_pos ca]
    obtain ⟨i, hi, rfl⟩ := q_in2 c1 ca
    obtain ⟨fk, cF, fm⟩ := H.fl i hi
    have wf := fk.wf
    have n6 := wf.2.2.2.1
    have z : (nI i).toNatClampNeg = i := nI_clamp (by omega)
    obtain ⟨h1, f1, e24, g1, s1⟩ := den_hand1 h ok i (by omega) _ fk fm (A.2.1 0) c1 hi c3
    have ok1 := g1.1.1
    have a5 := g1.1.2.2.2.2.2.1
    obtain ⟨sh, sl⟩ := q_shl1 (F_n (A.2.2.1 i)) n6
    obtain ⟨h2, f2, s2⟩ := q_cor_m _ fk (nI i) (F_w (A.2.2.1 i) * F_h (A.2.2.1 i)) 0 _ (F_dog (A.2.2.1 i)) h1 none (by omega) sl fk.2.2.2.1 g1
    rw [nI_0, ← List.range_eq_range'] at s2
    refine ⟨h2, (f1.wk ok).tr (f2.wk ok1), ?_⟩
    rw [z]
    simp only [e277_0, e277_1, e277_2, e277_5, e277_6, e277_7, e277_10, e277_13, e277_14, e277_15, e277_16, e277_17, e277_20, e277_21, e277_22, e277_23, e277_24, e277_25, e277_27, e277_28, e277_31, e277_34, e277_35, e277_37, e277_39, e277_40, e277_43, e277_46, e277_47, e277_48, e277_49, e277_52, e277_55, e277_56, e277_58, e277_59, e277_62, e277_65, e277_66, e277_68, e277_69, e277_70, e277_71, e277_74, e277_75, e277_76, e277_77, e277_80, e277_83, e277_86, e277_89, e277_90, am_bd_some, Option.toList_some, Option.toList_none, List.cons_append, List.nil_append, am_w8_0, am_w8_1, am_w8_2, am_w8_3, am_w8_4, eq_self, or_true, true_or, am_kd_sI, am_kd_sL, am_kd_sR, am_tc_sI, am_tc_sL, am_tc_sR, am_len_sI, am_len_sL, am_len_sR, am_rfs, if_true, if_false, am_rdL_sI, am_rR_sL, am_rt_cq, am_kd_cq, am_tc_cq, am_len_cq, am_rd_sL, am_rd_sR, am_rdL_sR, okK_211 ok, am_sI_id h0, s1, y, not_false_eq_true, okK_211 ok1, a5, sh]
    exact s2
  · rw [if_neg ca]
    have s0 := den_hand0 h ok (A.2.1 0) c1 c3 a ca
    refine ⟨h, q_wk.rf ok, ?_⟩
    simp only [e277_0, e277_1, e277_2, e277_5, e277_6, e277_7, e277_10, e277_13, e277_14, e277_15, e277_16, e277_17, e277_20, e277_21, e277_22, e277_23, e277_24, e277_25, e277_27, e277_28, e277_31, e277_34, e277_35, e277_37, e277_39, e277_40, e277_43, e277_46, e277_47, e277_48, e277_49, e277_52, e277_55, e277_56, e277_58, e277_59, e277_62, e277_65, e277_66, e277_68, e277_69, e277_70, e277_71, e277_74, e277_75, e277_76, e277_77, e277_80, e277_83, e277_86, e277_89, e277_90, am_bd_some, Option.toList_some, Option.toList_none, List.cons_append, List.nil_append, am_w8_0, am_w8_1, am_w8_2, am_w8_3, am_w8_4, eq_self, or_true, true_or, am_kd_sI, am_kd_sL, am_kd_sR, am_tc_sI, am_tc_sL, am_tc_sR, am_len_sI, am_len_sL, am_len_sR, am_rfs, if_true, if_false, am_rdL_sI, am_rR_sL, am_rt_cq, am_kd_cq, am_tc_cq, am_len_cq, am_rd_sL, am_rd_sR, am_rdL_sR, okK_211 ok, am_sI_id h0, s0, not_true]
theorem ly_24 : ly_p24 := fun a => pr_wk (fun A => q_corA A a) (fun A h H => den_ccor H a) (fun A h H => den_mcor H a)
