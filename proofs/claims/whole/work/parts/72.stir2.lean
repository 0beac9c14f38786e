/-! part 72: stir, both sides -/
theorem q_imx (a b : Int32) : (if a ≤ b then b else a) = if b ≤ a then a else b := by
  by_cases h1 : a ≤ b
  · by_cases h2 : b ≤ a
    · have e : a = b := Int32.toInt_inj.mp (by
        have := Int32.le_iff_toInt_le.mp h1
        have := Int32.le_iff_toInt_le.mp h2
        omega)
      rw [e]
    · rw [if_pos h1, if_neg h2]
  · rw [if_neg h1, if_pos]
    exact Int32.le_iff_toInt_le.mpr (by
      have : ¬ a.toInt ≤ b.toInt := fun w => h1 (Int32.le_iff_toInt_le.mpr w)
      omega)
theorem q_stir_c (o : Nat) (ho : o + 2 < 178) (f : q_Fl) (fk : F_ok f) (a1 many : Int32) : ∀ (r c : Nat) (s : Option (Nat × Nat)) (h : am_H) (z7 : Option Value), c + r = 64 → (∀ b v, s = some (b, v) → v ≤ 6) → am_okH h → q_cF h o f → ∃ (h' : am_H) (z7' : Option Value), q_fb 178 h h' ∧ am_ev 110 33 [some (.ref 0), some (.int a1), some (.int many), some (.ref o), some (.int (q_m1o s)), some (.int (q_s2o s)), some (.int (nI c)), z7] [] h = am_ev 110 99 [some (.ref 0), some (.int a1), some (.int many), some (.ref o), some (.int (q_m1o ((List.range' c r).foldl (F_sc f) s))), some (.int (q_s2o ((List.range' c r).foldl (F_sc f) s))), some (.int (nI 64)), z7'] [] h' := by
  have wf := fk.wf
  have n6 := wf.2.2.2.1
  have i0 := G_0_in fk
  have q178 : q_flk 178 := Or.inl rfl
  intro r
  induction r with
  | zero =>
    intro c s h z7 hc hs ok cF
    obtain rfl : c = 64 := by omega
    have h1 : (64 : Int32) ≤ nI 64 := by decide
    refine ⟨h, z7, q_fb.rf _ h, ?_⟩
    rw [e110_33]
    simp only [e110_0, e110_1, e110_4, e110_5, e110_6, e110_9, e110_12, e110_13, e110_14, e110_15, e110_18, e110_21, e110_22f, e110_22d, e110_22b, e110_22l, e110_22t, e110_23, e110_24, e110_25, e110_27, e110_28, e110_30, e110_31, e110_35, e110_37, e110_40, e110_41, e110_43, e110_46, e110_49, e110_52, e110_53, e110_56, e110_57, e110_60, e110_61, e110_64, e110_66, e110_69, e110_70, e110_73, e110_76, e110_78, e110_80, e110_82, e110_85, e110_87, e110_89, e110_91, e110_93, e110_96, e110_100, e110_103, e110_105, e110_108, e110_109, e110_111, e110_114, am_bd_some, Option.toList_some, Option.toList_none, List.cons_append, List.nil_append, am_w8_0, am_w8_1, am_w8_2, am_w8_3, am_w8_4, eq_self, or_true, true_or, am_kd_sI, am_kd_sL, am_kd_sR, am_tc_sI, am_tc_sL, am_tc_sR, am_len_sI, am_len_sL, am_len_sR, am_rfs, if_true, if_false, am_rdL_sI, am_rR_sL, am_rt_cq, am_kd_cq, am_tc_cq, am_len_cq, am_rd_sL, am_rd_sR, am_rdL_sR, h1, List.range'_zero, List.foldl_nil]
  | succ r ih =>
    intro c s h z7 hc hs ok cF
    have h1 : ¬ (64 : Int32) ≤ nI c := fun w => nI_ge (b := 64) (a := c) (by omega) (by decide) w
    have dp := den_place h o f cF fk c (by omega)
    rw [List.range'_succ, List.foldl_cons]
    cases hp : F_pl f c with
    | false =>
      rw [hp] at dp
      have y : q_bi false = 0 := rfl
      have cs : F_sc f s c = s := by
        unfold F_pl at hp
        unfold F_sc F_sr
        cases hi : F_insB (F_w f) (F_h f) c with
        | false => rfl
        | true => rw [hi, Bool.true_and] at hp; rw [hp]; rfl
      obtain ⟨h'', z'', f2, s2⟩ := ih (c + 1) s h z7 (by omega) hs ok cF
      refine ⟨h'', z'', f2, ?_⟩
      rw [cs, e110_33]
      simp only [e110_0, e110_1, e110_4, e110_5, e110_6, e110_9, e110_12, e110_13, e110_14, e110_15, e110_18, e110_21, e110_22f, e110_22d, e110_22b, e110_22l, e110_22t, e110_23, e110_24, e110_25, e110_27, e110_28, e110_30, e110_31, e110_35, e110_37, e110_40, e110_41, e110_43, e110_46, e110_49, e110_52, e110_53, e110_56, e110_57, e110_60, e110_61, e110_64, e110_66, e110_69, e110_70, e110_73, e110_76, e110_78, e110_80, e110_82, e110_85, e110_87, e110_89, e110_91, e110_93, e110_96, e110_100, e110_103, e110_105, e110_108, e110_109, e110_111, e110_114, am_bd_some, Option.toList_some, Option.toList_none, List.cons_append, List.nil_append, am_w8_0, am_w8_1, am_w8_2, am_w8_3, am_w8_4, eq_self, or_true, true_or, am_kd_sI, am_kd_sL, am_kd_sR, am_tc_sI, am_tc_sL, am_tc_sR, am_len_sI, am_len_sL, am_len_sR, am_rfs, if_true, if_false, am_rdL_sI, am_rR_sL, am_rt_cq, am_kd_cq, am_tc_cq, am_len_cq, am_rd_sL, am_rd_sR, am_rdL_sR, h1, cF.1.1.1, dp, y, not_true, nI_1]
      exact s2
    | true =>
      rw [hp] at dp
      have y : ¬ q_bi true = 0 := by decide
      have hp2 := hp
      unfold F_pl at hp2
      rw [Bool.and_eq_true] at hp2
      have hin2 : F_in f c := F_insB_in (by omega) hp2.1
      obtain ⟨hb, fb, gb, sb⟩ := den_begin h ok 178 o q178 (Or.inl ho) f wf cF
      have okb := fb.ok q178 ok
      have cFb := fb.cF cF (Or.inl ho)
      have cg1 : q_cg (am_sI hb 178 1 (nI c)) 178 o f (G_sdog (G_0 f) c) := q_cg_dog gb c
      have ok1 : am_okH (am_sI hb 178 1 (nI c)) := okb
      have f1 := q_ff_fld 178 1 (nI c) hb
      have gi : G_in f (G_sdog (G_0 f) c) := ⟨hin2, i0.2⟩
      obtain ⟨ha, fa, ga, sa⟩ := den_allGo 178 o f wf _ (am_sI hb 178 1 (nI c)) cg1 gi
      have fbt : q_fb 178 h ha := fb.tr (f1.fb.tr fa.fb)
      have oka := fbt.ok q178 ok
      have cFa := fbt.cF cF (Or.inl ho)
      have ecn : G_cnt f (F_n f) 0 (G_sdog (G_0 f) c) 0 = F_cn f c := rfl
      rw [ecn] at sa
      have c6 := F_cn_le wf c
      have cs : F_sc f s c = F_sr f s c := by
        unfold F_sc
        rw [if_pos hp2.1]
      have le := q_s2_le c6 hs
      obtain ⟨h'', z'', f2, s2⟩ := ih (c + 1) (F_sr f s c) ha (some (.int (nI (F_cn f c)))) (by omega) (F_sr_le wf hs) oka cFa
      refine ⟨h'', z'', fbt.tr f2, ?_⟩
      rw [cs, e110_33]
      by_cases m : nI (F_cn f c) ≤ q_s2o s
      · have e1 := F_sr_n (f := f) (c := c) (le.mp m)
        rw [e1] at s2 ⊢
        simp only [e110_0, e110_1, e110_4, e110_5, e110_6, e110_9, e110_12, e110_13, e110_14, e110_15, e110_18, e110_21, e110_22f, e110_22d, e110_22b, e110_22l, e110_22t, e110_23, e110_24, e110_25, e110_27, e110_28, e110_30, e110_31, e110_35, e110_37, e110_40, e110_41, e110_43, e110_46, e110_49, e110_52, e110_53, e110_56, e110_57, e110_60, e110_61, e110_64, e110_66, e110_69, e110_70, e110_73, e110_76, e110_78, e110_80, e110_82, e110_85, e110_87, e110_89, e110_91, e110_93, e110_96, e110_100, e110_103, e110_105, e110_108, e110_109, e110_111, e110_114, am_bd_some, Option.toList_some, Option.toList_none, List.cons_append, List.nil_append, am_w8_0, am_w8_1, am_w8_2, am_w8_3, am_w8_4, eq_self, or_true, true_or, am_kd_sI, am_kd_sL, am_kd_sR, am_tc_sI, am_tc_sL, am_tc_sR, am_len_sI, am_len_sL, am_len_sR, am_rfs, if_true, if_false, am_rdL_sI, am_rR_sL, am_rt_cq, am_kd_cq, am_tc_cq, am_len_cq, am_rd_sL, am_rd_sR, am_rdL_sR, h1, cF.1.1.1, dp, y, okK_0 ok, okR_0_4 ok, okK_178 ok, sb, not_false_eq_true, okK_0 okb, okR_0_4 okb, okK_178 okb, sa, m, nI_1]
        exact s2
      · have e1 := F_sr_p hp2.2 (fun w => m (le.mpr w))
        rw [e1] at s2 ⊢
        have q1 : q_m1o (some (c, F_cn f c)) = nI c := rfl
        have q2 : q_s2o (some (c, F_cn f c)) = nI (F_cn f c) := rfl
        rw [q1, q2] at s2
        simp only [e110_0, e110_1, e110_4, e110_5, e110_6, e110_9, e110_12, e110_13, e110_14, e110_15, e110_18, e110_21, e110_22f, e110_22d, e110_22b, e110_22l, e110_22t, e110_23, e110_24, e110_25, e110_27, e110_28, e110_30, e110_31, e110_35, e110_37, e110_40, e110_41, e110_43, e110_46, e110_49, e110_52, e110_53, e110_56, e110_57, e110_60, e110_61, e110_64, e110_66, e110_69, e110_70, e110_73, e110_76, e110_78, e110_80, e110_82, e110_85, e110_87, e110_89, e110_91, e110_93, e110_96, e110_100, e110_103, e110_105, e110_108, e110_109, e110_111, e110_114, am_bd_some, Option.toList_some, Option.toList_none, List.cons_append, List.nil_append, am_w8_0, am_w8_1, am_w8_2, am_w8_3, am_w8_4, eq_self, or_true, true_or, am_kd_sI, am_kd_sL, am_kd_sR, am_tc_sI, am_tc_sL, am_tc_sR, am_len_sI, am_len_sL, am_len_sR, am_rfs, if_true, if_false, am_rdL_sI, am_rR_sL, am_rt_cq, am_kd_cq, am_tc_cq, am_len_cq, am_rd_sL, am_rd_sR, am_rdL_sR, h1, cF.1.1.1, dp, y, okK_0 ok, okR_0_4 ok, okK_178 ok, sb, not_false_eq_true, okK_0 okb, okR_0_4 okb, okK_178 okb, sa, m, nI_1]
        exact s2
/-- what keepAll has kept -/
def q_kp (h : am_H) (f : q_Fl) (g : q_G) : Prop := (∀ b, b < F_n f → h.1 235 b = nI (q_nm f (G_at g b))) ∧ h.1 211 57 = nI (G_pen g) ∧ h.1 211 58 = nI (q_nm f (G_dog g))
theorem q_mw.kp {h h' : am_H} (m : q_mw h h') {f : q_Fl} {g : q_G} (k : q_kp h f g) : q_kp h' f g := ⟨fun b hb => by rw [m.2 235 b (by decide) (by decide) (by omega)]; exact k.1 b hb, by rw [m.2 211 57 (by decide) (by decide) (by omega)]; exact k.2.1, by rw [m.2 211 58 (by decide) (by decide) (by omega)]; exact k.2.2⟩
theorem q_kpa_l (h : am_H) (ok : am_okH h) : ∀ r b, b + r = 6 → am_ev 281 2 [some (.ref 211), some (.int (nI b))] [] (q_fn 235 b (h.1 225) h) = am_ev 281 26 [some (.ref 211), some (.int (nI 6))] [] (q_fn 235 6 (h.1 225) h) := by
  intro r
  induction r with
  | zero =>
    intro b hb
    obtain rfl : b = 6 := by omega
    have h1 : (6 : Int32) ≤ nI 6 := by decide
    rw [e281_2]
    simp only [e281_0, e281_1, e281_3, e281_5, e281_8, e281_9, e281_12, e281_13, e281_14, e281_17, e281_18, e281_19, e281_20, e281_23, e281_27, e281_28, e281_31, e281_34, e281_35, e281_36, e281_39, e281_42, h1, if_true]
  | succ r ih =>
    intro b hb
    have h1 : ¬ (6 : Int32) ≤ nI b := fun w => nI_ge (b := 6) (a := b) (by omega) (by decide) w
    have x : am_ix (nI b) 6 = true := am_ix_nI (by omega) (by decide)
    have z : (nI b).toNatClampNeg = b := nI_clamp (by omega)
    have ok2 : am_okH (q_fn 235 b (h.1 225) h) := ok
    have rd : (q_fn 235 b (h.1 225) h).1 225 b = h.1 225 b := by rw [q_fn_rd, if_neg (by omega)]
    rw [e281_2]
    simp only [e281_0, e281_1, e281_3, e281_5, e281_8, e281_9, e281_12, e281_13, e281_14, e281_17, e281_18, e281_19, e281_20, e281_23, e281_27, e281_28, e281_31, e281_34, e281_35, e281_36, e281_39, e281_42, am_bd_some, Option.toList_some, Option.toList_none, List.cons_append, List.nil_append, am_w8_0, am_w8_1, am_w8_2, am_w8_3, am_w8_4, eq_self, or_true, true_or, am_kd_sI, am_kd_sL, am_kd_sR, am_tc_sI, am_tc_sL, am_tc_sR, am_len_sI, am_len_sL, am_len_sR, am_rfs, if_true, if_false, am_rdL_sI, am_rR_sL, am_rt_cq, am_kd_cq, am_tc_cq, am_len_cq, am_rd_sL, am_rd_sR, am_rdL_sR, h1, okK_211 ok2, okR_211_56 ok2, okR_211_36 ok2, okT_225 ok2, okL_225 ok2, okT_235 ok2, okL_235 ok2, x, z, rd, q_fn_s, nI_1]
    exact ih (b + 1) (by omega)
theorem den_keepAll (h : am_H) (f : q_Fl) (g : q_G) (mg : q_mg h f g) (wf : F_wf f) : ∃ h' : am_H, q_wk h h' ∧ q_mg h' f g ∧ q_kp h' f g ∧ am_den 281 [.ref 211] h = some (none, h') := by
  have ok := mg.1.1
  have n6 := wf.2.2.2.1
  have lp := q_kpa_l h ok 6 0 (by omega)
  rw [q_fn_0, nI_0] at lp
  let g1 : am_H := q_fn 235 6 (h.1 225) h
  let g2 : am_H := am_sI g1 211 57 (h.1 211 31)
  let g3 : am_H := am_sI g2 211 58 (h.1 211 28)
  have ok1 : am_okH g1 := ok
  have ok2 : am_okH g2 := ok
  have r1 : g1.1 211 31 = h.1 211 31 := by
    show (q_fn 235 6 (h.1 225) h).1 211 31 = _
    rw [q_fn_rd, if_neg (by omega)]
  have r2 : g2.1 211 28 = h.1 211 28 := by
    show (am_sI (q_fn 235 6 (h.1 225) h) 211 57 (h.1 211 31)).1 211 28 = _
    rw [am_rd_sI, if_neg (by omega), q_fn_rd, if_neg (by omega)]
  have r3 : ∀ a k, g3.1 a k = if a = 211 ∧ k = 58 then h.1 211 28 else if a = 211 ∧ k = 57 then h.1 211 31 else if a = 235 ∧ k < 6 then h.1 225 k else h.1 a k := fun a k => rfl
  have rn : ∀ a k, a ≠ 235 → (a = 211 → k < 57 ∨ 58 < k) → g3.1 a k = h.1 a k := fun a k h1 h2 => by
    rw [r3, if_neg (fun w => by have := h2 w.1; omega), if_neg (fun w => by have := h2 w.1; omega), if_neg (fun w => h1 w.1)]
  have sz : am_den 281 [.ref 211] h = some (none, g3) := by
    show am_ev 281 0 [some (.ref 211), none] [] h = _
    have s0 : am_ev 281 0 [some (.ref 211), none] [] h = am_ev 281 2 [some (.ref 211), some (.int 0)] [] h := by
      simp only [e281_0, e281_1, e281_3, e281_5, e281_8, e281_9, e281_12, e281_13, e281_14, e281_17, e281_18, e281_19, e281_20, e281_23, e281_26, e281_27, e281_28, e281_31, e281_34, e281_35, e281_36, e281_39, e281_42]
    have s1 : am_ev 281 26 [some (.ref 211), some (.int (nI 6))] [] g1 = am_ev 281 34 [some (.ref 211), some (.int (nI 6))] [] g2 := by
      simp only [e281_0, e281_1, e281_2, e281_3, e281_5, e281_8, e281_9, e281_12, e281_13, e281_14, e281_17, e281_18, e281_19, e281_20, e281_23, e281_26, e281_27, e281_28, e281_31, e281_35, e281_36, e281_39, e281_42, am_bd_some, Option.toList_some, Option.toList_none, List.cons_append, List.nil_append, am_w8_0, am_w8_1, am_w8_2, am_w8_3, am_w8_4, eq_self, or_true, true_or, am_kd_sI, am_kd_sL, am_kd_sR, am_tc_sI, am_tc_sL, am_tc_sR, am_len_sI, am_len_sL, am_len_sR, am_rfs, if_true, if_false, am_rdL_sI, am_rR_sL, am_rt_cq, am_kd_cq, am_tc_cq, am_len_cq, am_rd_sL, am_rd_sR, am_rdL_sR, okK_211 ok1, r1]
      rfl
    have s2 : am_ev 281 34 [some (.ref 211), some (.int (nI 6))] [] g2 = some (none, g3) := by
      simp only [e281_0, e281_1, e281_2, e281_3, e281_5, e281_8, e281_9, e281_12, e281_13, e281_14, e281_17, e281_18, e281_19, e281_20, e281_23, e281_26, e281_27, e281_28, e281_31, e281_34, e281_35, e281_36, e281_39, e281_42, am_bd_some, Option.toList_some, Option.toList_none, List.cons_append, List.nil_append, am_w8_0, am_w8_1, am_w8_2, am_w8_3, am_w8_4, eq_self, or_true, true_or, am_kd_sI, am_kd_sL, am_kd_sR, am_tc_sI, am_tc_sL, am_tc_sR, am_len_sI, am_len_sL, am_len_sR, am_rfs, if_true, if_false, am_rdL_sI, am_rR_sL, am_rt_cq, am_kd_cq, am_tc_cq, am_len_cq, am_rd_sL, am_rd_sR, am_rdL_sR, okK_211 ok2, r2]
      rfl
    rw [s0, lp, s1, s2]
  obtain ⟨⟨m0, m1, m2, m3, m4, m5, m6, m7⟩, ⟨k1, k2, k3, k4, k5⟩, ka, kw⟩ := mg
  refine ⟨g3, ⟨ok, rfl, fun a k w => ⟨rn a k (by unfold q_told at w; omega) (by unfold q_told at w; omega), rfl⟩⟩, ⟨⟨ok, ?_, ?_, ?_, ?_, ?_, fun c hc => ?_, fun b hb => ?_⟩, ⟨?_, ?_, ?_, ?_, ?_⟩, fun b hb => ?_, fun b hb => ?_⟩, ⟨fun b hb => ?_, ?_, ?_⟩, sz⟩
  · rw [rn _ _ (by omega) (by omega)]; exact m1
  · rw [rn _ _ (by omega) (by omega)]; exact m2
  · rw [rn _ _ (by omega) (by omega)]; exact m3
  · rw [rn _ _ (by omega) (by omega)]; exact m4
  · rw [rn _ _ (by omega) (by omega)]; exact m5
  · rw [rn _ _ (by omega) (by omega)]; exact m6 c hc
  · rw [rn _ _ (by omega) (by omega)]; exact m7 b hb
  · rw [rn _ _ (by omega) (by omega)]; exact k1
  · rw [rn _ _ (by omega) (by omega)]; exact k2
  · rw [rn _ _ (by omega) (by omega)]; exact k3
  · rw [rn _ _ (by omega) (by omega)]; exact k4
  · rw [rn _ _ (by omega) (by omega)]; exact k5
  · rw [rn _ _ (by omega) (by omega)]; exact ka b hb
  · rw [rn _ _ (by omega) (by omega)]; exact kw b hb
  · rw [r3, if_neg (by omega), if_neg (by omega), if_pos ⟨rfl, by omega⟩]; exact ka b hb
  · rw [r3, if_neg (by omega), if_pos ⟨rfl, rfl⟩]; exact k2
  · rw [r3, if_pos ⟨rfl, rfl⟩]; exact k1
theorem q_bka_l (h : am_H) (ok : am_okH h) : ∀ r b, b + r = 6 → am_ev 283 2 [some (.ref 211), some (.int (nI b))] [] (q_fn 225 b (h.1 235) h) = am_ev 283 26 [some (.ref 211), some (.int (nI 6))] [] (q_fn 225 6 (h.1 235) h) := by
  intro r
  induction r with
  | zero =>
    intro b hb
    obtain rfl : b = 6 := by omega
    have h1 : (6 : Int32) ≤ nI 6 := by decide
    rw [e283_2]
    simp only [e283_0, e283_1, e283_3, e283_5, e283_8, e283_9, e283_12, e283_13, e283_14, e283_17, e283_18, e283_19, e283_20, e283_23, e283_27, e283_28, e283_31, e283_34, e283_35, e283_36, e283_39, e283_42, h1, if_true]
  | succ r ih =>
    intro b hb
    have h1 : ¬ (6 : Int32) ≤ nI b := fun w => nI_ge (b := 6) (a := b) (by omega) (by decide) w
    have x : am_ix (nI b) 6 = true := am_ix_nI (by omega) (by decide)
    have z : (nI b).toNatClampNeg = b := nI_clamp (by omega)
    have ok2 : am_okH (q_fn 225 b (h.1 235) h) := ok
    have rd : (q_fn 225 b (h.1 235) h).1 235 b = h.1 235 b := by rw [q_fn_rd, if_neg (by omega)]
    rw [e283_2]
    simp only [e283_0, e283_1, e283_3, e283_5, e283_8, e283_9, e283_12, e283_13, e283_14, e283_17, e283_18, e283_19, e283_20, e283_23, e283_27, e283_28, e283_31, e283_34, e283_35, e283_36, e283_39, e283_42, am_bd_some, Option.toList_some, Option.toList_none, List.cons_append, List.nil_append, am_w8_0, am_w8_1, am_w8_2, am_w8_3, am_w8_4, eq_self, or_true, true_or, am_kd_sI, am_kd_sL, am_kd_sR, am_tc_sI, am_tc_sL, am_tc_sR, am_len_sI, am_len_sL, am_len_sR, am_rfs, if_true, if_false, am_rdL_sI, am_rR_sL, am_rt_cq, am_kd_cq, am_tc_cq, am_len_cq, am_rd_sL, am_rd_sR, am_rdL_sR, h1, okK_211 ok2, okR_211_56 ok2, okR_211_36 ok2, okT_225 ok2, okL_225 ok2, okT_235 ok2, okL_235 ok2, x, z, rd, q_fn_s, nI_1]
    exact ih (b + 1) (by omega)
def G_bk (g0 g : q_G) : q_G := (G_dog g0, G_pen g0, G_lies g, G_back g, G_min g, G_at g0, G_went g)
theorem den_backAll (h : am_H) (f : q_Fl) (g g0 : q_G) (mg : q_mg h f g) (kp : q_kp h f g0) (wf : F_wf f) : ∃ h' : am_H, q_mw h h' ∧ q_mg h' f (G_bk g0 g) ∧ am_den 283 [.ref 211] h = some (none, h') := by
  have ok := mg.1.1
  have n6 := wf.2.2.2.1
  have lp := q_bka_l h ok 6 0 (by omega)
  rw [q_fn_0, nI_0] at lp
  let g1 : am_H := q_fn 225 6 (h.1 235) h
  let g2 : am_H := am_sI g1 211 31 (h.1 211 57)
  let g3 : am_H := am_sI g2 211 28 (h.1 211 58)
  have ok1 : am_okH g1 := ok
  have ok2 : am_okH g2 := ok
  have r1 : g1.1 211 57 = h.1 211 57 := by
    show (q_fn 225 6 (h.1 235) h).1 211 57 = _
    rw [q_fn_rd, if_neg (by omega)]
  have r2 : g2.1 211 58 = h.1 211 58 := by
    show (am_sI (q_fn 225 6 (h.1 235) h) 211 31 (h.1 211 57)).1 211 58 = _
    rw [am_rd_sI, if_neg (by omega), q_fn_rd, if_neg (by omega)]
  have r3 : ∀ a k, g3.1 a k = if a = 211 ∧ k = 28 then h.1 211 58 else if a = 211 ∧ k = 31 then h.1 211 57 else if a = 225 ∧ k < 6 then h.1 235 k else h.1 a k := fun a k => rfl
  have rn : ∀ a k, a ≠ 225 → (a = 211 → k ≠ 28 ∧ k ≠ 31) → g3.1 a k = h.1 a k := fun a k h1 h2 => by
    rw [r3, if_neg (fun w => by have := h2 w.1; omega), if_neg (fun w => by have := h2 w.1; omega), if_neg (fun w => h1 w.1)]
  have sz : am_den 283 [.ref 211] h = some (none, g3) := by
    show am_ev 283 0 [some (.ref 211), none] [] h = _
    have s0 : am_ev 283 0 [some (.ref 211), none] [] h = am_ev 283 2 [some (.ref 211), some (.int 0)] [] h := by
      simp only [e283_0, e283_1, e283_3, e283_5, e283_8, e283_9, e283_12, e283_13, e283_14, e283_17, e283_18, e283_19, e283_20, e283_23, e283_26, e283_27, e283_28, e283_31, e283_34, e283_35, e283_36, e283_39, e283_42]
    have s1 : am_ev 283 26 [some (.ref 211), some (.int (nI 6))] [] g1 = am_ev 283 34 [some (.ref 211), some (.int (nI 6))] [] g2 := by
      simp only [e283_0, e283_1, e283_2, e283_3, e283_5, e283_8, e283_9, e283_12, e283_13, e283_14, e283_17, e283_18, e283_19, e283_20, e283_23, e283_26, e283_27, e283_28, e283_31, e283_35, e283_36, e283_39, e283_42, am_bd_some, Option.toList_some, Option.toList_none, List.cons_append, List.nil_append, am_w8_0, am_w8_1, am_w8_2, am_w8_3, am_w8_4, eq_self, or_true, true_or, am_kd_sI, am_kd_sL, am_kd_sR, am_tc_sI, am_tc_sL, am_tc_sR, am_len_sI, am_len_sL, am_len_sR, am_rfs, if_true, if_false, am_rdL_sI, am_rR_sL, am_rt_cq, am_kd_cq, am_tc_cq, am_len_cq, am_rd_sL, am_rd_sR, am_rdL_sR, okK_211 ok1, r1]
      rfl
    have s2 : am_ev 283 34 [some (.ref 211), some (.int (nI 6))] [] g2 = some (none, g3) := by
      simp only [e283_0, e283_1, e283_2, e283_3, e283_5, e283_8, e283_9, e283_12, e283_13, e283_14, e283_17, e283_18, e283_19, e283_20, e283_23, e283_26, e283_27, e283_28, e283_31, e283_34, e283_35, e283_36, e283_39, e283_42, am_bd_some, Option.toList_some, Option.toList_none, List.cons_append, List.nil_append, am_w8_0, am_w8_1, am_w8_2, am_w8_3, am_w8_4, eq_self, or_true, true_or, am_kd_sI, am_kd_sL, am_kd_sR, am_tc_sI, am_tc_sL, am_tc_sR, am_len_sI, am_len_sL, am_len_sR, am_rfs, if_true, if_false, am_rdL_sI, am_rR_sL, am_rt_cq, am_kd_cq, am_tc_cq, am_len_cq, am_rd_sL, am_rd_sR, am_rdL_sR, okK_211 ok2, r2]
      rfl
    rw [s0, lp, s1, s2]
  have mw : q_mw h g3 := ⟨rfl, fun a k p1 p2 p3 => rn a k p1 (by omega)⟩
  have mF := mw.mF mg.1
  obtain ⟨-, ⟨k1, k2, k3, k4, k5⟩, ka, kw⟩ := mg
  obtain ⟨w1, w2, w3⟩ := kp
  refine ⟨g3, mw, ⟨mF, ⟨?_, ?_, ?_, ?_, ?_⟩, fun b hb => ?_, fun b hb => ?_⟩, sz⟩
  · rw [r3, if_pos ⟨rfl, rfl⟩]; exact w3
  · rw [r3, if_neg (by omega), if_pos ⟨rfl, rfl⟩]; exact w2
  · rw [rn _ _ (by omega) (by omega)]; exact k3
  · rw [rn _ _ (by omega) (by omega)]; exact k4
  · rw [rn _ _ (by omega) (by omega)]; exact k5
  · rw [r3, if_neg (by omega), if_neg (by omega), if_pos ⟨rfl, by omega⟩]; exact w1 b hb
  · rw [rn _ _ (by omega) (by omega)]; exact kw b hb
theorem q_stir_i (h : am_H) (f : q_Fl) (g g0 : q_G) (mg : q_mg h f g) (kp : q_kp h f g0) (wf : F_wf f) (i : G_in f g) (i0 : G_in f g0) (a1 many x3 x4 x5 : Int32) : ∀ r b n, b + r = F_n f → am_ev 287 61 [some (.ref 211), some (.int a1), some (.int many), some (.int x3), some (.int x4), some (.int x5), some (.int (nI n)), some (.int (nI b))] [] h = am_ev 287 103 [some (.ref 211), some (.int a1), some (.int many), some (.int x3), some (.int x4), some (.int x5), some (.int (nI (n + q_ctB (fun k => decide (G_at g k ≠ G_at g0 k)) r b))), some (.int (nI (F_n f)))] [] h := by
  have ok := mg.1.1
  have n6 := wf.2.2.2.1
  have a5 := mg.1.2.2.2.2.2.1
  have ea := mg.2.2.1
  intro r
  induction r with
  | zero =>
    intro b n hb
    obtain rfl : b = F_n f := by omega
    have h1 : nI (F_n f) ≤ nI (F_n f) := Int32.le_refl _
    rw [e287_61]
    simp only [e287_0, e287_1, e287_2, e287_5, e287_6, e287_7, e287_10, e287_13, e287_14, e287_15, e287_16, e287_17, e287_18, e287_20, e287_21, e287_24, e287_25, e287_27, e287_29, e287_30, e287_33, e287_36, e287_37, e287_39, e287_42, e287_45, e287_46, e287_48, e287_51, e287_52, e287_55, e287_56, e287_58, e287_59, e287_63, e287_64, e287_67, e287_70, e287_72, e287_73, e287_76, e287_78, e287_79, e287_80, e287_83, e287_85, e287_86, e287_89, e287_90, e287_93, e287_94, e287_95, e287_97, e287_100, e287_105, e287_107, e287_110, e287_112, e287_115, e287_116, e287_117, e287_119, e287_121, e287_124, e287_126, e287_127, e287_130, e287_133, e287_136, e287_137, e287_140, e287_142, e287_145, e287_146, am_bd_some, Option.toList_some, Option.toList_none, List.cons_append, List.nil_append, am_w8_0, am_w8_1, am_w8_2, am_w8_3, am_w8_4, eq_self, or_true, true_or, am_kd_sI, am_kd_sL, am_kd_sR, am_tc_sI, am_tc_sL, am_tc_sR, am_len_sI, am_len_sL, am_len_sR, am_rfs, if_true, if_false, am_rdL_sI, am_rR_sL, am_rt_cq, am_kd_cq, am_tc_cq, am_len_cq, am_rd_sL, am_rd_sR, am_rdL_sR, okK_211 ok, a5, h1, q_ctB, Nat.add_zero]
  | succ r ih =>
    intro b n hb
    have h1 : ¬ nI (F_n f) ≤ nI b := nI_ge (by omega) (by omega)
    have x : am_ix (nI b) 6 = true := am_ix_nI (by omega) (by decide)
    have z : (nI b).toNatClampNeg = b := nI_clamp (by omega)
    have v := ea b (by omega)
    have w := kp.1 b (by omega)
    have ib := i.2.2 b (by omega)
    have ib0 := i0.2.2 b (by omega)
    have ceq : nI (q_nm f (G_at g b)) = nI (q_nm f (G_at g0 b)) ↔ G_at g b = G_at g0 b := by
      rw [nI_eq (by have := q_nm_64 wf ib; omega) (by have := q_nm_64 wf ib0; omega)]
      exact q_nm_inj ib ib0
    rw [e287_61]
    by_cases c : G_at g b = G_at g0 b
    · have c' := ceq.mpr c
      have e : n + q_ctB (fun k => decide (G_at g k ≠ G_at g0 k)) (r + 1) b = n + q_ctB (fun k => decide (G_at g k ≠ G_at g0 k)) r (b + 1) := by
        rw [q_ctB, if_neg (by simp [c]), Nat.zero_add]
      have ct := eq_true c'
      rw [e]
      simp only [e287_0, e287_1, e287_2, e287_5, e287_6, e287_7, e287_10, e287_13, e287_14, e287_15, e287_16, e287_17, e287_18, e287_20, e287_21, e287_24, e287_25, e287_27, e287_29, e287_30, e287_33, e287_36, e287_37, e287_39, e287_42, e287_45, e287_46, e287_48, e287_51, e287_52, e287_55, e287_56, e287_58, e287_59, e287_63, e287_64, e287_67, e287_70, e287_72, e287_73, e287_76, e287_78, e287_79, e287_80, e287_83, e287_85, e287_86, e287_89, e287_90, e287_93, e287_94, e287_95, e287_97, e287_100, e287_105, e287_107, e287_110, e287_112, e287_115, e287_116, e287_117, e287_119, e287_121, e287_124, e287_126, e287_127, e287_130, e287_133, e287_136, e287_137, e287_140, e287_142, e287_145, e287_146, am_bd_some, Option.toList_some, Option.toList_none, List.cons_append, List.nil_append, am_w8_0, am_w8_1, am_w8_2, am_w8_3, am_w8_4, eq_self, or_true, true_or, am_kd_sI, am_kd_sL, am_kd_sR, am_tc_sI, am_tc_sL, am_tc_sR, am_len_sI, am_len_sL, am_len_sR, am_rfs, if_true, if_false, am_rdL_sI, am_rR_sL, am_rt_cq, am_kd_cq, am_tc_cq, am_len_cq, am_rd_sL, am_rd_sR, am_rdL_sR, okK_211 ok, okR_211_36 ok, okR_211_56 ok, okT_225 ok, okL_225 ok, okT_235 ok, okL_235 ok, a5, h1, x, z, v, w, ct, nI_1, Int32.add_zero]
      exact ih (b + 1) n (by omega)
    · have c' : ¬ nI (q_nm f (G_at g b)) = nI (q_nm f (G_at g0 b)) := fun q => c (ceq.mp q)
      have e : n + q_ctB (fun k => decide (G_at g k ≠ G_at g0 k)) (r + 1) b = n + 1 + q_ctB (fun k => decide (G_at g k ≠ G_at g0 k)) r (b + 1) := by
        rw [q_ctB, if_pos (by simp [c])]
        omega
      rw [e]
      simp only [e287_0, e287_1, e287_2, e287_5, e287_6, e287_7, e287_10, e287_13, e287_14, e287_15, e287_16, e287_17, e287_18, e287_20, e287_21, e287_24, e287_25, e287_27, e287_29, e287_30, e287_33, e287_36, e287_37, e287_39, e287_42, e287_45, e287_46, e287_48, e287_51, e287_52, e287_55, e287_56, e287_58, e287_59, e287_63, e287_64, e287_67, e287_70, e287_72, e287_73, e287_76, e287_78, e287_79, e287_80, e287_83, e287_85, e287_86, e287_89, e287_90, e287_93, e287_94, e287_95, e287_97, e287_100, e287_105, e287_107, e287_110, e287_112, e287_115, e287_116, e287_117, e287_119, e287_121, e287_124, e287_126, e287_127, e287_130, e287_133, e287_136, e287_137, e287_140, e287_142, e287_145, e287_146, am_bd_some, Option.toList_some, Option.toList_none, List.cons_append, List.nil_append, am_w8_0, am_w8_1, am_w8_2, am_w8_3, am_w8_4, eq_self, or_true, true_or, am_kd_sI, am_kd_sL, am_kd_sR, am_tc_sI, am_tc_sL, am_tc_sR, am_len_sI, am_len_sL, am_len_sR, am_rfs, if_true, if_false, am_rdL_sI, am_rR_sL, am_rt_cq, am_kd_cq, am_tc_cq, am_len_cq, am_rd_sL, am_rd_sR, am_rdL_sR, okK_211 ok, okR_211_36 ok, okR_211_56 ok, okT_225 ok, okL_225 ok, okT_235 ok, okL_235 ok, a5, h1, x, z, v, w, c', nI_1]
      exact ih (b + 1) (n + 1) (by omega)
