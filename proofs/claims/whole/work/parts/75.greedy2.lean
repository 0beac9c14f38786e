/-! part 75: greedy, both sides -/
def q_cn (s : Option (Nat × Nat)) : Int32 := match s with
  | none => 0
  | some _ => 1
theorem q_gg_l (o : Nat) (ho : o + 2 < 178) (f : q_Fl) (fk : F_ok f) (g : q_G) (gi : G_in f g) : ∀ (r d : Nat) (s : Option (Nat × Nat)) (h : am_H) (z5 : Option Value), d + r = 4 → am_okH h → q_cg h 178 o f g → q_cF h o f → (∀ b v, s = some (b, v) → v < 1000 ∧ ∃ g', G_ob f g b = some g' ∧ q_cg h 190 o f g') → ∃ (h' : am_H) (z5' : Option Value), q_wk h h' ∧ q_cg h' 178 o f g ∧ q_cF h' o f ∧ (∀ b v, (List.range' d r).foldl (G_gs f g) s = some (b, v) → ∃ g', G_ob f g b = some g' ∧ q_cg h' 190 o f g') ∧ am_ev 106 7 [some (.ref 0), some (.ref o), some (.int (q_cn s)), some (.int (q_m2o s)), some (.int (nI d)), z5] [] h = am_ev 106 84 [some (.ref 0), some (.ref o), some (.int (q_cn ((List.range' d r).foldl (G_gs f g) s))), some (.int (q_m2o ((List.range' d r).foldl (G_gs f g) s))), some (.int (nI 4)), z5'] [] h' := by
  have wf := fk.wf
  have n6 := wf.2.2.2.1
  have q178 : q_flk 178 := Or.inl rfl
  have q184 : q_flk 184 := Or.inr (Or.inl rfl)
  have q190 : q_flk 190 := Or.inr (Or.inr rfl)
  have pv : F_pv f = nI (F_pen f) := if_pos fk.2.2.1.1
  intro r
  induction r with
  | zero =>
    intro d s h z5 hd ok cg cF hs
    obtain rfl : d = 4 := by omega
    have h1 : (4 : Int32) ≤ nI 4 := by decide
    refine ⟨h, z5, q_wk.rf ok, cg, cF, fun b v w => (hs b v w).2, ?_⟩
    rw [e106_7]
    simp only [e106_0, e106_1, e106_2, e106_3, e106_4, e106_5, e106_9, e106_10, e106_13, e106_14, e106_17, e106_18, e106_21, e106_24, e106_25, e106_28, e106_30, e106_33, e106_36, e106_39, e106_40, e106_43, e106_44, e106_47, e106_50, e106_52, e106_53, e106_56, e106_58, e106_59, e106_62, e106_63, e106_64, e106_66, e106_67, e106_68, e106_71, e106_72, e106_75, e106_78, e106_81, e106_85, e106_88, e106_89, e106_92, e106_93, e106_96, e106_99, e106_100, am_bd_some, Option.toList_some, Option.toList_none, List.cons_append, List.nil_append, am_w8_0, am_w8_1, am_w8_2, am_w8_3, am_w8_4, eq_self, or_true, true_or, am_kd_sI, am_kd_sL, am_kd_sR, am_tc_sI, am_tc_sL, am_tc_sR, am_len_sI, am_len_sL, am_len_sR, am_rfs, if_true, if_false, am_rdL_sI, am_rR_sL, am_rt_cq, am_kd_cq, am_tc_cq, am_len_cq, am_rd_sL, am_rd_sR, am_rdL_sR, h1, List.range'_zero, List.foldl_nil]
  | succ r ih =>
    intro d s h z5 hd ok cg cF hs
    have h1 : ¬ (4 : Int32) ≤ nI d := fun w => nI_ge (b := 4) (a := d) (by omega) (by decide) w
    obtain ⟨ha, fa, ga, sa⟩ := den_copyF h ok 184 178 o q184 q178 (by decide) (by omega) f g wf cg
    have oka := fa.ok q184 ok
    have cgA := fa.cg q184 q178 (by decide) (by omega) cg
    have cFA := fa.cF cF (by omega)
    have hsA : ∀ b v, s = some (b, v) → v < 1000 ∧ ∃ g', G_ob f g b = some g' ∧ q_cg ha 190 o f g' := fun b v w => ⟨(hs b v w).1, by
      obtain ⟨g', e1, e2⟩ := (hs b v w).2
      exact ⟨g', e1, fa.cg q184 q190 (by decide) (by omega) e2⟩⟩
    obtain ⟨b1, b2⟩ := den_obeys ha 184 o f g ga wf gi d (by omega)
    rw [List.range'_succ, List.foldl_cons, e106_7]
    cases hg : G_ob f g d with
    | none =>
      rw [G_gs_0 hg]
      obtain ⟨h'', z'', w2, c2, F2, m2, s2⟩ := ih (d + 1) s ha z5 (by omega) oka cgA cFA hsA
      refine ⟨h'', z'', (fa.wk q184 ok).tr w2, c2, F2, m2, ?_⟩
      simp only [e106_0, e106_1, e106_2, e106_3, e106_4, e106_5, e106_9, e106_10, e106_13, e106_14, e106_17, e106_18, e106_21, e106_24, e106_25, e106_28, e106_30, e106_33, e106_36, e106_39, e106_40, e106_43, e106_44, e106_47, e106_50, e106_52, e106_53, e106_56, e106_58, e106_59, e106_62, e106_63, e106_64, e106_66, e106_67, e106_68, e106_71, e106_72, e106_75, e106_78, e106_81, e106_85, e106_88, e106_89, e106_92, e106_93, e106_96, e106_99, e106_100, am_bd_some, Option.toList_some, Option.toList_none, List.cons_append, List.nil_append, am_w8_0, am_w8_1, am_w8_2, am_w8_3, am_w8_4, eq_self, or_true, true_or, am_kd_sI, am_kd_sL, am_kd_sR, am_tc_sI, am_tc_sL, am_tc_sR, am_len_sI, am_len_sL, am_len_sR, am_rfs, if_true, if_false, am_rdL_sI, am_rR_sL, am_rt_cq, am_kd_cq, am_tc_cq, am_len_cq, am_rd_sL, am_rd_sR, am_rdL_sR, h1, okK_0 ok, okR_0_4 ok, okR_0_5 ok, okK_178 ok, okK_184 ok, sa, okK_0 oka, okR_0_5 oka, okK_184 oka, b1 hg, not_true, nI_1]
      exact s2
    | some g' =>
      obtain ⟨hb, fb, gb, sb⟩ := b2 g' hg
      have okb : am_okH hb := oka.of (congrArg Prod.snd fb.1)
      have cgB := fb.fb.cg q184 q178 (by decide) (by omega) cgA
      have cFB := fb.fb.cF cFA (by omega)
      have wkB : q_wk h hb := (fa.wk q184 ok).tr (fb.fb.wk q184 oka)
      have gi' := G_ob_in wf gi hg
      have dt := den_stepsTo hb 184 o f g' gb wf gi' (F_pen f) fk.2.2.1.1
      have sl := G_sum_lt gi' fk.2.2.1.1 (F_n f) (Nat.le_refl _)
      have e2 : hb.1 o 2 = nI (F_pen f) := by rw [cFB.1.2.2.2.1, pv]
      have y : ¬ (1 : Int32) = 0 := by decide
      have hsB : ∀ b v, s = some (b, v) → v < 1000 ∧ ∃ g', G_ob f g b = some g' ∧ q_cg hb 190 o f g' := fun b v w => ⟨(hs b v w).1, by
        obtain ⟨g', e1, e2⟩ := (hsA b v w).2
        exact ⟨g', e1, fb.fb.cg q184 q190 (by decide) (by omega) e2⟩⟩
      obtain ⟨hc, fc, gc, sc⟩ := den_copyF hb okb 190 184 o q190 q184 (by decide) (by omega) f g' wf gb
      have okc := fc.ok q190 okb
      have new : ∀ b v, some (d, G_sum g' (F_pen f) (F_n f)) = some (b, v) → v < 1000 ∧ ∃ g', G_ob f g b = some g' ∧ q_cg hc 190 o f g' := fun b v w => by
        cases w
        exact ⟨by omega, g', hg, gc⟩
      have put := ih (d + 1) (some (d, G_sum g' (F_pen f) (F_n f))) hc (some (.int (nI (G_sum g' (F_pen f) (F_n f))))) (by omega) okc (fc.cg q190 q178 (by decide) (by omega) cgB) (fc.cF cFB (by omega)) new
      cases s with
      | none =>
        rw [G_gs_1 hg]
        obtain ⟨h'', z'', w2, c2, F2, m2, s2⟩ := put
        have q1 : q_cn none = 0 := rfl
        refine ⟨h'', z'', (wkB.tr (fc.wk q190 okb)).tr w2, c2, F2, m2, ?_⟩
        simp only [e106_0, e106_1, e106_2, e106_3, e106_4, e106_5, e106_9, e106_10, e106_13, e106_14, e106_17, e106_18, e106_21, e106_24, e106_25, e106_28, e106_30, e106_33, e106_36, e106_39, e106_40, e106_43, e106_44, e106_47, e106_50, e106_52, e106_53, e106_56, e106_58, e106_59, e106_62, e106_63, e106_64, e106_66, e106_67, e106_68, e106_71, e106_72, e106_75, e106_78, e106_81, e106_85, e106_88, e106_89, e106_92, e106_93, e106_96, e106_99, e106_100, am_bd_some, Option.toList_some, Option.toList_none, List.cons_append, List.nil_append, am_w8_0, am_w8_1, am_w8_2, am_w8_3, am_w8_4, eq_self, or_true, true_or, am_kd_sI, am_kd_sL, am_kd_sR, am_tc_sI, am_tc_sL, am_tc_sR, am_len_sI, am_len_sL, am_len_sR, am_rfs, if_true, if_false, am_rdL_sI, am_rR_sL, am_rt_cq, am_kd_cq, am_tc_cq, am_len_cq, am_rd_sL, am_rd_sR, am_rdL_sR, h1, okK_0 ok, okR_0_4 ok, okR_0_5 ok, okK_178 ok, okK_184 ok, sa, okK_0 oka, okR_0_5 oka, okK_184 oka, sb, y, not_false_eq_true, okK_0 okb, okR_0_5 okb, okR_0_6 okb, okK_184 okb, okK_190 okb, cFB.1.1.1, e2, dt, q1, sc, nI_1]
        exact s2
      | some p =>
        obtain ⟨b0, v0⟩ := p
        have v1 := (hs b0 v0 rfl).1
        have q1 : q_cn (some (b0, v0)) = 1 := rfl
        have q2 : q_m2o (some (b0, v0)) = nI v0 := rfl
        have y1 : (1 : Int32) = 0 ↔ False := by decide
        have cm : nI v0 ≤ nI (G_sum g' (F_pen f) (F_n f)) ↔ v0 ≤ G_sum g' (F_pen f) (F_n f) := nI_leI (by omega) (by omega)
        by_cases c : G_sum g' (F_pen f) (F_n f) < v0
        · rw [G_gs_2 hg c]
          have c' : ¬ nI v0 ≤ nI (G_sum g' (F_pen f) (F_n f)) := fun w => by have := cm.mp w; omega
          obtain ⟨h'', z'', w2, c2, F2, m2, s2⟩ := put
          refine ⟨h'', z'', (wkB.tr (fc.wk q190 okb)).tr w2, c2, F2, m2, ?_⟩
          simp only [e106_0, e106_1, e106_2, e106_3, e106_4, e106_5, e106_9, e106_10, e106_13, e106_14, e106_17, e106_18, e106_21, e106_24, e106_25, e106_28, e106_30, e106_33, e106_36, e106_39, e106_40, e106_43, e106_44, e106_47, e106_50, e106_52, e106_53, e106_56, e106_58, e106_59, e106_62, e106_63, e106_64, e106_66, e106_67, e106_68, e106_71, e106_72, e106_75, e106_78, e106_81, e106_85, e106_88, e106_89, e106_92, e106_93, e106_96, e106_99, e106_100, am_bd_some, Option.toList_some, Option.toList_none, List.cons_append, List.nil_append, am_w8_0, am_w8_1, am_w8_2, am_w8_3, am_w8_4, eq_self, or_true, true_or, am_kd_sI, am_kd_sL, am_kd_sR, am_tc_sI, am_tc_sL, am_tc_sR, am_len_sI, am_len_sL, am_len_sR, am_rfs, if_true, if_false, am_rdL_sI, am_rR_sL, am_rt_cq, am_kd_cq, am_tc_cq, am_len_cq, am_rd_sL, am_rd_sR, am_rdL_sR, h1, okK_0 ok, okR_0_4 ok, okR_0_5 ok, okK_178 ok, okK_184 ok, sa, okK_0 oka, okR_0_5 oka, okK_184 oka, sb, y1, not_false_eq_true, okK_0 okb, okR_0_5 okb, okR_0_6 okb, okK_184 okb, okK_190 okb, cFB.1.1.1, e2, dt, q1, q2, c', sc, nI_1]
          exact s2
        · rw [G_gs_3 hg c]
          have c' : nI v0 ≤ nI (G_sum g' (F_pen f) (F_n f)) := cm.mpr (by omega)
          obtain ⟨h'', z'', w2, c2, F2, m2, s2⟩ := ih (d + 1) (some (b0, v0)) hb (some (.int (nI (G_sum g' (F_pen f) (F_n f))))) (by omega) okb cgB cFB hsB
          refine ⟨h'', z'', wkB.tr w2, c2, F2, m2, ?_⟩
          simp only [e106_0, e106_1, e106_2, e106_3, e106_4, e106_5, e106_9, e106_10, e106_13, e106_14, e106_17, e106_18, e106_21, e106_24, e106_25, e106_28, e106_30, e106_33, e106_36, e106_39, e106_40, e106_43, e106_44, e106_47, e106_50, e106_52, e106_53, e106_56, e106_58, e106_59, e106_62, e106_63, e106_64, e106_66, e106_67, e106_68, e106_71, e106_72, e106_75, e106_78, e106_81, e106_85, e106_88, e106_89, e106_92, e106_93, e106_96, e106_99, e106_100, am_bd_some, Option.toList_some, Option.toList_none, List.cons_append, List.nil_append, am_w8_0, am_w8_1, am_w8_2, am_w8_3, am_w8_4, eq_self, or_true, true_or, am_kd_sI, am_kd_sL, am_kd_sR, am_tc_sI, am_tc_sL, am_tc_sR, am_len_sI, am_len_sL, am_len_sR, am_rfs, if_true, if_false, am_rdL_sI, am_rR_sL, am_rt_cq, am_kd_cq, am_tc_cq, am_len_cq, am_rd_sL, am_rd_sR, am_rdL_sR, h1, okK_0 ok, okR_0_4 ok, okR_0_5 ok, okK_178 ok, okK_184 ok, sa, okK_0 oka, okR_0_5 oka, okK_184 oka, sb, y1, not_false_eq_true, okK_0 okb, okR_0_5 okb, okK_184 okb, cFB.1.1.1, e2, dt, q1, q2, c', nI_1]
          exact s2
theorem den_greedily (o : Nat) (ho : o + 2 < 178) (f : q_Fl) (fk : F_ok f) (g : q_G) (gi : G_in f g) (h : am_H) (ok : am_okH h) (cg : q_cg h 178 o f g) (cF : q_cF h o f) : ∃ h' : am_H, q_wk h h' ∧ q_cg h' 178 o f (G_gr f g) ∧ q_cF h' o f ∧ am_den 106 [.ref 0, .ref o] h = some (some (.int (q_cn (G_gb f g))), h') := by
  have wf := fk.wf
  have q178 : q_flk 178 := Or.inl rfl
  have q190 : q_flk 190 := Or.inr (Or.inr rfl)
  obtain ⟨h1, z1, w1, c1, F1, m1, s1⟩ := q_gg_l o ho f fk g gi 4 0 none h none (by omega) ok cg cF (fun b v w => by cases w)
  have ok1 := w1.1
  have e0 : (List.range' 0 4).foldl (G_gs f g) none = G_gb f g := rfl
  rw [e0] at s1 m1
  have q1 : q_cn none = 0 := rfl
  have q2 : q_m2o none = 0 := rfl
  rw [q1, q2, nI_0] at s1
  show ∃ h' : am_H, q_wk h h' ∧ q_cg h' 178 o f (G_gr f g) ∧ q_cF h' o f ∧ am_ev 106 0 [some (.ref 0), some (.ref o), none, none, none, none] [] h = _
  have s0 : am_ev 106 0 [some (.ref 0), some (.ref o), none, none, none, none] [] h = am_ev 106 7 [some (.ref 0), some (.ref o), some (.int 0), some (.int 0), some (.int 0), none] [] h := by
    simp only [e106_0, e106_1, e106_2, e106_3, e106_4, e106_5, e106_9, e106_10, e106_13, e106_14, e106_17, e106_18, e106_21, e106_24, e106_25, e106_28, e106_30, e106_33, e106_36, e106_39, e106_40, e106_43, e106_44, e106_47, e106_50, e106_52, e106_53, e106_56, e106_58, e106_59, e106_62, e106_63, e106_64, e106_66, e106_67, e106_68, e106_71, e106_72, e106_75, e106_78, e106_81, e106_84, e106_85, e106_88, e106_89, e106_92, e106_93, e106_96, e106_99, e106_100, am_bd_some, Option.toList_some, Option.toList_none, List.cons_append, List.nil_append, am_w8_0, am_w8_1, am_w8_2, am_w8_3, am_w8_4, eq_self, or_true, true_or, am_kd_sI, am_kd_sL, am_kd_sR, am_tc_sI, am_tc_sL, am_tc_sR, am_len_sI, am_len_sL, am_len_sR, am_rfs, if_true, if_false, am_rdL_sI, am_rR_sL, am_rt_cq, am_kd_cq, am_tc_cq, am_len_cq, am_rd_sL, am_rd_sR, am_rdL_sR]
  rw [s0, s1]
  cases hb : G_gb f g with
  | none =>
    have er : G_gr f g = g := by unfold G_gr; rw [hb]
    rw [er]
    refine ⟨h1, w1, c1, F1, ?_⟩
    simp only [e106_0, e106_1, e106_2, e106_3, e106_4, e106_5, e106_9, e106_10, e106_13, e106_14, e106_17, e106_18, e106_21, e106_24, e106_25, e106_28, e106_30, e106_33, e106_36, e106_39, e106_40, e106_43, e106_44, e106_47, e106_50, e106_52, e106_53, e106_56, e106_58, e106_59, e106_62, e106_63, e106_64, e106_66, e106_67, e106_68, e106_71, e106_72, e106_75, e106_78, e106_81, e106_84, e106_85, e106_88, e106_89, e106_92, e106_93, e106_96, e106_99, e106_100, am_bd_some, Option.toList_some, Option.toList_none, List.cons_append, List.nil_append, am_w8_0, am_w8_1, am_w8_2, am_w8_3, am_w8_4, eq_self, or_true, true_or, am_kd_sI, am_kd_sL, am_kd_sR, am_tc_sI, am_tc_sL, am_tc_sR, am_len_sI, am_len_sL, am_len_sR, am_rfs, if_true, if_false, am_rdL_sI, am_rR_sL, am_rt_cq, am_kd_cq, am_tc_cq, am_len_cq, am_rd_sL, am_rd_sR, am_rdL_sR, q1]
  | some p =>
    obtain ⟨b, v⟩ := p
    obtain ⟨g', hg, cgc⟩ := m1 b v hb
    have er : G_gr f g = g' := by
      unfold G_gr
      rw [hb]
      show (G_ob f g b).getD g = g'
      rw [hg]
      rfl
    rw [er]
    obtain ⟨h2, f2, g2, s2⟩ := den_copyF h1 ok1 178 190 o q178 q190 (by decide) (by omega) f g' wf cgc
    have q3 : q_cn (some (b, v)) = 1 := rfl
    have y1 : (1 : Int32) = 0 ↔ False := by decide
    refine ⟨h2, w1.tr (f2.wk q178 ok1), g2, f2.cF F1 (by omega), ?_⟩
    simp only [e106_0, e106_1, e106_2, e106_3, e106_4, e106_5, e106_9, e106_10, e106_13, e106_14, e106_17, e106_18, e106_21, e106_24, e106_25, e106_28, e106_30, e106_33, e106_36, e106_39, e106_40, e106_43, e106_44, e106_47, e106_50, e106_52, e106_53, e106_56, e106_58, e106_59, e106_62, e106_63, e106_64, e106_66, e106_67, e106_68, e106_71, e106_72, e106_75, e106_78, e106_81, e106_84, e106_85, e106_88, e106_89, e106_92, e106_93, e106_96, e106_99, e106_100, am_bd_some, Option.toList_some, Option.toList_none, List.cons_append, List.nil_append, am_w8_0, am_w8_1, am_w8_2, am_w8_3, am_w8_4, eq_self, or_true, true_or, am_kd_sI, am_kd_sL, am_kd_sR, am_tc_sI, am_tc_sL, am_tc_sR, am_len_sI, am_len_sL, am_len_sR, am_rfs, if_true, if_false, am_rdL_sI, am_rR_sL, am_rt_cq, am_kd_cq, am_tc_cq, am_len_cq, am_rd_sL, am_rd_sR, am_rdL_sR, q3, y1, okK_0 ok1, okR_0_4 ok1, okR_0_6 ok1, okK_178 ok1, okK_190 ok1, s2]
theorem q_gre_c (o : Nat) (ho : o + 2 < 178) (f : q_Fl) (fk : F_ok f) (n : Nat) (hn : n ≤ 40) (a1 w : Int32) : ∀ (r i : Nat) (g : q_G) (h : am_H), i + r = n → G_in f g → am_okH h → q_cg h 178 o f g → q_cF h o f → ∃ (h' : am_H) (x : Int32), q_wk h h' ∧ q_cg h' 178 o f (G_gn f r g) ∧ q_cF h' o f ∧ am_ev 105 56 [some (.ref 0), some (.int a1), some (.int (nI n)), some (.int w), some (.ref o), some (.int (nI i))] [] h = am_ev 105 80 [some (.ref 0), some (.int a1), some (.int (nI n)), some (.int w), some (.ref o), some (.int x)] [] h' := by
  have wf := fk.wf
  intro r
  induction r with
  | zero =>
    intro i g h hi gi ok cg cF
    have h1 : nI n ≤ nI i := nI_le (by omega) (by omega)
    refine ⟨h, nI i, q_wk.rf ok, cg, cF, ?_⟩
    rw [e105_56]
    simp only [e105_0, e105_1, e105_4, e105_5, e105_6, e105_9, e105_12, e105_13, e105_16, e105_17, e105_19, e105_22, e105_23, e105_26, e105_27, e105_28, e105_31, e105_32, e105_33, e105_34, e105_37, e105_40, e105_41f, e105_41d, e105_41b, e105_41l, e105_41t, e105_42, e105_44, e105_45, e105_48, e105_50, e105_53, e105_54, e105_58, e105_59, e105_62, e105_63, e105_65, e105_68, e105_71, e105_74, e105_77, e105_81, e105_84, e105_85, e105_88, e105_91, e105_92, e105_93, e105_94, e105_97, e105_98, e105_101, e105_103, e105_106, e105_109, e105_112, e105_114, e105_115, e105_118, e105_121, e105_124, am_bd_some, Option.toList_some, Option.toList_none, List.cons_append, List.nil_append, am_w8_0, am_w8_1, am_w8_2, am_w8_3, am_w8_4, eq_self, or_true, true_or, am_kd_sI, am_kd_sL, am_kd_sR, am_tc_sI, am_tc_sL, am_tc_sR, am_len_sI, am_len_sL, am_len_sR, am_rfs, if_true, if_false, am_rdL_sI, am_rR_sL, am_rt_cq, am_kd_cq, am_tc_cq, am_len_cq, am_rd_sL, am_rd_sR, am_rdL_sR, h1]
  | succ r ih =>
    intro i g h hi gi ok cg cF
    have h1 : ¬ nI n ≤ nI i := nI_ge (by omega) (by omega)
    obtain ⟨ha, wa, ca, Fa, sa⟩ := den_greedily o ho f fk g gi h ok cg cF
    rw [e105_56]
    cases hb : G_gb f g with
    | none =>
      rw [hb] at sa
      have q1 : q_cn none = 0 := rfl
      have e : G_gn f (r + 1) g = G_gr f g := by
        rw [G_gn_0 hb, show G_gr f g = g from G_gn_0 hb 1]
      refine ⟨ha, nI i, wa, by rw [e]; exact ca, Fa, ?_⟩
      simp only [e105_0, e105_1, e105_4, e105_5, e105_6, e105_9, e105_12, e105_13, e105_16, e105_17, e105_19, e105_22, e105_23, e105_26, e105_27, e105_28, e105_31, e105_32, e105_33, e105_34, e105_37, e105_40, e105_41f, e105_41d, e105_41b, e105_41l, e105_41t, e105_42, e105_44, e105_45, e105_48, e105_50, e105_53, e105_54, e105_58, e105_59, e105_62, e105_63, e105_65, e105_68, e105_71, e105_74, e105_77, e105_81, e105_84, e105_85, e105_88, e105_91, e105_92, e105_93, e105_94, e105_97, e105_98, e105_101, e105_103, e105_106, e105_109, e105_112, e105_114, e105_115, e105_118, e105_121, e105_124, am_bd_some, Option.toList_some, Option.toList_none, List.cons_append, List.nil_append, am_w8_0, am_w8_1, am_w8_2, am_w8_3, am_w8_4, eq_self, or_true, true_or, am_kd_sI, am_kd_sL, am_kd_sR, am_tc_sI, am_tc_sL, am_tc_sR, am_len_sI, am_len_sL, am_len_sR, am_rfs, if_true, if_false, am_rdL_sI, am_rR_sL, am_rt_cq, am_kd_cq, am_tc_cq, am_len_cq, am_rd_sL, am_rd_sR, am_rdL_sR, h1, okK_0 ok, sa, q1, not_true]
    | some p =>
      rw [hb] at sa
      have q1 : q_cn (some p) = 1 := rfl
      have y : (1 : Int32) = 0 ↔ False := by decide
      obtain ⟨h2, x2, w2, c2, F2, s2⟩ := ih (i + 1) (G_gr f g) ha (by omega) (G_gr_in wf gi) wa.1 ca Fa
      refine ⟨h2, x2, wa.tr w2, c2, F2, ?_⟩
      simp only [e105_0, e105_1, e105_4, e105_5, e105_6, e105_9, e105_12, e105_13, e105_16, e105_17, e105_19, e105_22, e105_23, e105_26, e105_27, e105_28, e105_31, e105_32, e105_33, e105_34, e105_37, e105_40, e105_41f, e105_41d, e105_41b, e105_41l, e105_41t, e105_42, e105_44, e105_45, e105_48, e105_50, e105_53, e105_54, e105_58, e105_59, e105_62, e105_63, e105_65, e105_68, e105_71, e105_74, e105_77, e105_81, e105_84, e105_85, e105_88, e105_91, e105_92, e105_93, e105_94, e105_97, e105_98, e105_101, e105_103, e105_106, e105_109, e105_112, e105_114, e105_115, e105_118, e105_121, e105_124, am_bd_some, Option.toList_some, Option.toList_none, List.cons_append, List.nil_append, am_w8_0, am_w8_1, am_w8_2, am_w8_3, am_w8_4, eq_self, or_true, true_or, am_kd_sI, am_kd_sL, am_kd_sR, am_tc_sI, am_tc_sL, am_tc_sR, am_len_sI, am_len_sL, am_len_sR, am_rfs, if_true, if_false, am_rdL_sI, am_rR_sL, am_rt_cq, am_kd_cq, am_tc_cq, am_len_cq, am_rd_sL, am_rd_sR, am_rdL_sR, h1, okK_0 ok, sa, q1, y, not_false_eq_true, nI_1]
      exact s2
/-! the reference -/
theorem q_tpn_l (h : am_H) (f : q_Fl) (g : q_G) (mg : q_mg h f g) (fk : F_ok f) (i : G_in f g) : ∀ r b, b + r = F_n f → am_ev 282 4 [some (.ref 211), some (.int (nI (G_sum g (F_pen f) b))), some (.int (nI b))] [] h = some (some (.int (nI (G_sum g (F_pen f) (F_n f)))), h) := by
  have wf := fk.wf
  have n6 := wf.2.2.2.1
  have ok := mg.1.1
  have a5 := mg.1.2.2.2.2.2.1
  have a3 : h.1 211 27 = nI (q_nm f (F_pen f)) := by
    rw [mg.1.2.2.2.1]
    exact if_pos fk.2.2.1.1
  have ea := mg.2.2.1
  intro r
  induction r with
  | zero =>
    intro b hb
    obtain rfl : b = F_n f := by omega
    have h1 : nI (F_n f) ≤ nI (F_n f) := Int32.le_refl _
    rw [e282_4]
    simp only [e282_0, e282_1, e282_2, e282_3, e282_5, e282_6, e282_9, e282_12, e282_13, e282_14, e282_15, e282_18, e282_19, e282_20, e282_21, e282_24, e282_27, e282_28, e282_29, e282_32, e282_35, e282_36, am_bd_some, Option.toList_some, Option.toList_none, List.cons_append, List.nil_append, am_w8_0, am_w8_1, am_w8_2, am_w8_3, am_w8_4, eq_self, or_true, true_or, am_kd_sI, am_kd_sL, am_kd_sR, am_tc_sI, am_tc_sL, am_tc_sR, am_len_sI, am_len_sL, am_len_sR, am_rfs, if_true, if_false, am_rdL_sI, am_rR_sL, am_rt_cq, am_kd_cq, am_tc_cq, am_len_cq, am_rd_sL, am_rd_sR, am_rdL_sR, okK_211 ok, a5, h1]
  | succ r ih =>
    intro b hb
    have h1 : ¬ nI (F_n f) ≤ nI b := nI_ge (by omega) (by omega)
    have x : am_ix (nI b) 6 = true := am_ix_nI (by omega) (by decide)
    have z : (nI b).toNatClampNeg = b := nI_clamp (by omega)
    have v := ea b (by omega)
    have da := den_msteps h f mg.1 wf (G_at g b) (F_pen f) (i.2.2 b (by omega)) fk.2.2.1
    have s : nI (G_sum g (F_pen f) b) + nI (q_dist (G_at g b) (F_pen f)) = nI (G_sum g (F_pen f) (b + 1)) := by rw [nI_add]; unfold G_sum; rw [q_sm, Nat.zero_add]
    rw [e282_4]
    simp only [e282_0, e282_1, e282_2, e282_3, e282_5, e282_6, e282_9, e282_12, e282_13, e282_14, e282_15, e282_18, e282_19, e282_20, e282_21, e282_24, e282_27, e282_28, e282_29, e282_32, e282_35, e282_36, am_bd_some, Option.toList_some, Option.toList_none, List.cons_append, List.nil_append, am_w8_0, am_w8_1, am_w8_2, am_w8_3, am_w8_4, eq_self, or_true, true_or, am_kd_sI, am_kd_sL, am_kd_sR, am_tc_sI, am_tc_sL, am_tc_sR, am_len_sI, am_len_sL, am_len_sR, am_rfs, if_true, if_false, am_rdL_sI, am_rR_sL, am_rt_cq, am_kd_cq, am_tc_cq, am_len_cq, am_rd_sL, am_rd_sR, am_rdL_sR, okK_211 ok, okR_211_36 ok, okT_225 ok, okL_225 ok, a5, a3, h1, x, z, v, da, s, nI_1]
    exact ih (b + 1) (by omega)
theorem den_toPen (h : am_H) (f : q_Fl) (g : q_G) (mg : q_mg h f g) (fk : F_ok f) (i : G_in f g) : am_den 282 [.ref 211] h = some (some (.int (nI (G_sum g (F_pen f) (F_n f)))), h) := by
  have lp := q_tpn_l h f g mg fk i (F_n f) 0 (by omega)
  have e : G_sum g (F_pen f) 0 = 0 := rfl
  rw [e, nI_0] at lp
  show am_ev 282 0 [some (.ref 211), none, none] [] h = _
  simp only [e282_0, e282_1, e282_2, e282_3, e282_5, e282_6, e282_9, e282_12, e282_13, e282_14, e282_15, e282_18, e282_19, e282_20, e282_21, e282_24, e282_27, e282_28, e282_29, e282_32, e282_35, e282_36, am_bd_some, Option.toList_some, Option.toList_none, List.cons_append, List.nil_append, am_w8_0, am_w8_1, am_w8_2, am_w8_3, am_w8_4, eq_self, or_true, true_or, am_kd_sI, am_kd_sL, am_kd_sR, am_tc_sI, am_tc_sL, am_tc_sR, am_len_sI, am_len_sL, am_len_sR, am_rfs, if_true, if_false, am_rdL_sI, am_rR_sL, am_rt_cq, am_kd_cq, am_tc_cq, am_len_cq, am_rd_sL, am_rd_sR, am_rdL_sR]
  exact lp
theorem q_gw_l (f : q_Fl) (fk : F_ok f) (g : q_G) (gi : G_in f g) (gp : G_pi f g) (gl : G_lies g = false) : ∀ (r d : Nat) (s : Option (Nat × Nat)) (u : q_G) (h : am_H), d + r = 4 → (∀ b v, s = some (b, v) → v < 1000) → q_mg h f u → G_co u g → q_kp h f g → ∃ (h' : am_H) (u' : q_G), q_mw h h' ∧ q_mg h' f u' ∧ G_co u' g ∧ am_ev 280 12 [some (.ref 211), some (.int (q_m1o s)), some (.int (nI (q_n2 s))), some (.int (nI d))] [] h = some (some (.int (q_m1o ((List.range' d r).foldl (G_gs f g) s))), h') := by
  have wf := fk.wf
  have n6 := wf.2.2.2.1
  intro r
  induction r with
  | zero =>
    intro d s u h hd hs mg co kp
    obtain rfl : d = 4 := by omega
    have h1 : (4 : Int32) ≤ nI 4 := by decide
    refine ⟨h, u, q_mw.rf h, mg, co, ?_⟩
    rw [e280_12]
    simp only [e280_0, e280_1, e280_2, e280_5, e280_6, e280_7, e280_10, e280_11, e280_13, e280_14, e280_17, e280_18, e280_19, e280_20, e280_23, e280_26, e280_27, e280_30, e280_31, e280_34, e280_35, e280_38, e280_39, e280_40, e280_41, e280_42, e280_45, e280_48, e280_49, e280_50, e280_53, e280_56, e280_59, e280_60, am_bd_some, Option.toList_some, Option.toList_none, List.cons_append, List.nil_append, am_w8_0, am_w8_1, am_w8_2, am_w8_3, am_w8_4, eq_self, or_true, true_or, am_kd_sI, am_kd_sL, am_kd_sR, am_tc_sI, am_tc_sL, am_tc_sR, am_len_sI, am_len_sL, am_len_sR, am_rfs, if_true, if_false, am_rdL_sI, am_rR_sL, am_rt_cq, am_kd_cq, am_tc_cq, am_len_cq, am_rd_sL, am_rd_sR, am_rdL_sR, h1, List.range'_zero, List.foldl_nil]
  | succ r ih =>
    intro d s u h hd hs mg co kp
    have ok := mg.1.1
    have h1 : ¬ (4 : Int32) ≤ nI d := fun w => nI_ge (b := 4) (a := d) (by omega) (by decide) w
    have ui := co.sy.gin gi
    have up := co.sy.gpi gp
    obtain ⟨b1, b2⟩ := den_does h f u mg wf ui up d (by omega)
    have w1 : q_what d = 0 := by unfold q_what; rw [if_pos (by omega)]; rfl
    have w2 : q_wway d = nI d := if_pos (by omega)
    rw [w1, w2] at b1 b2
    rw [List.range'_succ, List.foldl_cons, e280_12]
    rcases co.ob f d (by omega) with ⟨e1, e2⟩ | ⟨v, v', e1, e2, e3⟩
    · rw [G_gs_0 e2]
      obtain ⟨h2, u2, f2, g2, c2, s2⟩ := ih (d + 1) s u h (by omega) hs mg co kp
      refine ⟨h2, u2, f2, g2, c2, ?_⟩
      simp only [e280_0, e280_1, e280_2, e280_5, e280_6, e280_7, e280_10, e280_11, e280_13, e280_14, e280_17, e280_18, e280_19, e280_20, e280_23, e280_26, e280_27, e280_30, e280_31, e280_34, e280_35, e280_38, e280_39, e280_40, e280_41, e280_42, e280_45, e280_48, e280_49, e280_50, e280_53, e280_56, e280_59, e280_60, am_bd_some, Option.toList_some, Option.toList_none, List.cons_append, List.nil_append, am_w8_0, am_w8_1, am_w8_2, am_w8_3, am_w8_4, eq_self, or_true, true_or, am_kd_sI, am_kd_sL, am_kd_sR, am_tc_sI, am_tc_sL, am_tc_sR, am_len_sI, am_len_sL, am_len_sR, am_rfs, if_true, if_false, am_rdL_sI, am_rR_sL, am_rt_cq, am_kd_cq, am_tc_cq, am_len_cq, am_rd_sL, am_rd_sR, am_rdL_sR, h1, okK_211 ok, b1 e1, nI_1]
      exact s2
    · obtain ⟨ha, fa, ga, sa⟩ := b2 v e1
      have oka := ga.1.1
      have vi := G_ob_in wf ui e1
      have vi' := G_ob_in wf gi e2
      have dt := den_toPen ha f v ga fk vi
      have es : G_sum v (F_pen f) (F_n f) = G_sum v' (F_pen f) (F_n f) := by unfold G_sum; rw [e3.2.2.2.2]
      rw [es] at dt
      have sl := G_sum_lt vi' fk.2.2.1.1 (F_n f) (Nat.le_refl _)
      obtain ⟨hb, fb, gb, sb⟩ := den_backAll ha f v g ga (fa.kp kp) wf
      have cob : G_co (G_bk g v) g := ⟨rfl, rfl, (G_ob_lb (by omega) e1).1.trans gl.symm, (G_ob_lb (by omega) e1).2.trans co.2.2.2.1, rfl⟩
      have kpb := fb.kp (fa.kp kp)
      have y : (1 : Int32) = 0 ↔ False := by decide
      have n2 : q_n2 s ≤ 1000000 := by
        cases s with
        | none => exact Nat.le_refl _
        | some p => obtain ⟨b, v⟩ := p; have := hs b v rfl; show v ≤ _; omega
      have cm : nI (q_n2 s) ≤ nI (G_sum v' (F_pen f) (F_n f)) ↔ q_n2 s ≤ G_sum v' (F_pen f) (F_n f) := nI_leI (by omega) (by omega)
      have mn := q_imin2 (a := q_n2 s) (b := G_sum v' (F_pen f) (F_n f)) (by omega) (by omega)
      have dl := den_lesser (nI (q_n2 s)) (nI (G_sum v' (F_pen f) (F_n f))) ha
      rw [mn] at dl
      by_cases c : q_n2 s ≤ G_sum v' (F_pen f) (F_n f)
      · have c' := cm.mpr c
        have eg : G_gs f g s d = s := by
          cases s with
          | none => exact absurd c (by show ¬ 1000000 ≤ _; omega)
          | some p => obtain ⟨b, x⟩ := p; exact G_gs_3 e2 (by have : x ≤ _ := c; omega)
        have em : min (q_n2 s) (G_sum v' (F_pen f) (F_n f)) = q_n2 s := by omega
        rw [em] at dl
        rw [eg]
        obtain ⟨h2, u2, f2, g2, c2, s2⟩ := ih (d + 1) s _ hb (by omega) hs gb cob kpb
        refine ⟨h2, u2, (fa.tr fb).tr f2, g2, c2, ?_⟩
        simp only [e280_0, e280_1, e280_2, e280_5, e280_6, e280_7, e280_10, e280_11, e280_13, e280_14, e280_17, e280_18, e280_19, e280_20, e280_23, e280_26, e280_27, e280_30, e280_31, e280_34, e280_35, e280_38, e280_39, e280_40, e280_41, e280_42, e280_45, e280_48, e280_49, e280_50, e280_53, e280_56, e280_59, e280_60, am_bd_some, Option.toList_some, Option.toList_none, List.cons_append, List.nil_append, am_w8_0, am_w8_1, am_w8_2, am_w8_3, am_w8_4, eq_self, or_true, true_or, am_kd_sI, am_kd_sL, am_kd_sR, am_tc_sI, am_tc_sL, am_tc_sR, am_len_sI, am_len_sL, am_len_sR, am_rfs, if_true, if_false, am_rdL_sI, am_rR_sL, am_rt_cq, am_kd_cq, am_tc_cq, am_len_cq, am_rd_sL, am_rd_sR, am_rdL_sR, h1, okK_211 ok, sa, y, okK_211 oka, dt, c', dl, sb, nI_1]
        exact s2
      · have c' : ¬ nI (q_n2 s) ≤ nI (G_sum v' (F_pen f) (F_n f)) := fun w => c (cm.mp w)
        have eg : G_gs f g s d = some (d, G_sum v' (F_pen f) (F_n f)) := by
          cases s with
          | none => exact G_gs_1 e2
          | some p => obtain ⟨b, x⟩ := p; exact G_gs_2 e2 (by have : ¬ x ≤ _ := c; omega)
        have em : min (q_n2 s) (G_sum v' (F_pen f) (F_n f)) = G_sum v' (F_pen f) (F_n f) := by omega
        rw [em] at dl
        rw [eg]
        obtain ⟨h2, u2, f2, g2, c2, s2⟩ := ih (d + 1) (some (d, G_sum v' (F_pen f) (F_n f))) _ hb (by omega) (fun b x w => by cases w; omega) gb cob kpb
        have q1 : q_m1o (some (d, G_sum v' (F_pen f) (F_n f))) = nI d := rfl
        have q2 : q_n2 (some (d, G_sum v' (F_pen f) (F_n f))) = G_sum v' (F_pen f) (F_n f) := rfl
        rw [q1, q2] at s2
        refine ⟨h2, u2, (fa.tr fb).tr f2, g2, c2, ?_⟩
        simp only [e280_0, e280_1, e280_2, e280_5, e280_6, e280_7, e280_10, e280_11, e280_13, e280_14, e280_17, e280_18, e280_19, e280_20, e280_23, e280_26, e280_27, e280_30, e280_31, e280_34, e280_35, e280_38, e280_39, e280_40, e280_41, e280_42, e280_45, e280_48, e280_49, e280_50, e280_53, e280_56, e280_59, e280_60, am_bd_some, Option.toList_some, Option.toList_none, List.cons_append, List.nil_append, am_w8_0, am_w8_1, am_w8_2, am_w8_3, am_w8_4, eq_self, or_true, true_or, am_kd_sI, am_kd_sL, am_kd_sR, am_tc_sI, am_tc_sL, am_tc_sR, am_len_sI, am_len_sL, am_len_sR, am_rfs, if_true, if_false, am_rdL_sI, am_rR_sL, am_rt_cq, am_kd_cq, am_tc_cq, am_len_cq, am_rd_sL, am_rd_sR, am_rdL_sR, h1, okK_211 ok, sa, y, okK_211 oka, dt, c', dl, sb, nI_1]
        exact s2
theorem den_greedyWay (f : q_Fl) (fk : F_ok f) (g u : q_G) (gi : G_in f g) (gp : G_pi f g) (gl : G_lies g = false) (h : am_H) (mg : q_mg h f u) (co : G_co u g) : ∃ (h' : am_H) (u' : q_G), q_wk h h' ∧ q_mg h' f u' ∧ G_co u' g ∧ am_den 280 [.ref 211] h = some (some (.int (q_m1o (G_gb f g))), h') := by
  have wf := fk.wf
  have ok := mg.1.1
  obtain ⟨h1, w1, g1, kp, s1⟩ := den_keepAll h f u mg wf
  have kp' : q_kp h1 f g := by
    obtain ⟨k1, k2, k3⟩ := kp
    refine ⟨fun b hb => ?_, ?_, ?_⟩
    · rw [← co.2.2.2.2]; exact k1 b hb
    · rw [← co.2.1]; exact k2
    · rw [← co.1]; exact k3
  obtain ⟨h2, u2, f2, g2, c2, s2⟩ := q_gw_l f fk g gi gp gl 4 0 none u h1 (by omega) (fun b v w => by cases w) g1 co kp'
  have q1 : q_m1o none = -1 := rfl
  have q2 : nI (q_n2 none) = 1000000 := rfl
  rw [q1, q2, nI_0] at s2
  refine ⟨h2, u2, w1.tr (f2.wk g1.1.1), g2, c2, ?_⟩
  show am_ev 280 0 [some (.ref 211), none, none, none] [] h = _
  simp only [e280_0, e280_1, e280_2, e280_5, e280_6, e280_7, e280_10, e280_11, e280_13, e280_14, e280_17, e280_18, e280_19, e280_20, e280_23, e280_26, e280_27, e280_30, e280_31, e280_34, e280_35, e280_38, e280_39, e280_40, e280_41, e280_42, e280_45, e280_48, e280_49, e280_50, e280_53, e280_56, e280_59, e280_60, am_bd_some, Option.toList_some, Option.toList_none, List.cons_append, List.nil_append, am_w8_0, am_w8_1, am_w8_2, am_w8_3, am_w8_4, eq_self, or_true, true_or, am_kd_sI, am_kd_sL, am_kd_sR, am_tc_sI, am_tc_sL, am_tc_sR, am_len_sI, am_len_sL, am_len_sR, am_rfs, if_true, if_false, am_rdL_sI, am_rR_sL, am_rt_cq, am_kd_cq, am_tc_cq, am_len_cq, am_rd_sL, am_rd_sR, am_rdL_sR, okK_211 ok, s1]
  exact s2
theorem q_gre_m (f : q_Fl) (fk : F_ok f) (n : Nat) (hn : n ≤ 40) (a1 w : Int32) : ∀ (r i : Nat) (g u : q_G) (h : am_H) (z5 : Option Value), i + r = n → G_in f g → G_pi f g → G_lies g = false → q_mg h f u → G_co u g → ∃ (h' : am_H) (u' : q_G) (z5' : Option Value), q_wk h h' ∧ q_mg h' f u' ∧ G_co u' (G_gn f r g) ∧ G_in f (G_gn f r g) ∧ am_ev 279 37 [some (.ref 211), some (.int a1), some (.int (nI n)), some (.int w), some (.int (nI i)), z5] [] h = am_ev 279 69 [some (.ref 211), some (.int a1), some (.int (nI n)), some (.int w), some (.int (nI n)), z5'] [] h' := by
  have wf := fk.wf
  intro r
  induction r with
  | zero =>
    intro i g u h z5 hi gi gp gl mg co
    obtain rfl : i = n := by omega
    have h1 : nI i ≤ nI i := Int32.le_refl _
    refine ⟨h, u, z5, q_wk.rf mg.1.1, mg, co, gi, ?_⟩
    rw [e279_37]
    simp only [e279_0, e279_1, e279_2, e279_5, e279_6, e279_7, e279_9, e279_12, e279_15, e279_16, e279_17, e279_18, e279_21, e279_24, e279_25, e279_26, e279_29, e279_32, e279_33, e279_34, e279_35, e279_39, e279_40, e279_43, e279_44, e279_47, e279_49, e279_51, e279_52, e279_55, e279_56, e279_57, e279_59, e279_62, e279_63, e279_66, e279_70, e279_73, e279_74, e279_77, e279_80, e279_81, e279_82, e279_85, e279_86, e279_89, e279_92, e279_93, e279_96, am_bd_some, Option.toList_some, Option.toList_none, List.cons_append, List.nil_append, am_w8_0, am_w8_1, am_w8_2, am_w8_3, am_w8_4, eq_self, or_true, true_or, am_kd_sI, am_kd_sL, am_kd_sR, am_tc_sI, am_tc_sL, am_tc_sR, am_len_sI, am_len_sL, am_len_sR, am_rfs, if_true, if_false, am_rdL_sI, am_rR_sL, am_rt_cq, am_kd_cq, am_tc_cq, am_len_cq, am_rd_sL, am_rd_sR, am_rdL_sR, h1]
  | succ r ih =>
    intro i g u h z5 hi gi gp gl mg co
    have ok := mg.1.1
    have h1 : ¬ nI n ≤ nI i := nI_ge (by omega) (by omega)
    obtain ⟨ha, ua, wa, ga, ca, sa⟩ := den_greedyWay f fk g u gi gp gl h mg co
    have oka := ga.1.1
    rw [e279_37]
    cases hb : G_gb f g with
    | none =>
      rw [hb] at sa
      have er : G_gr f g = g := G_gn_0 hb 1
      obtain ⟨h2, u2, z2, w2, g2, c2, i2, s2⟩ := ih (i + 1) g ua ha (some (.int (-1))) (by omega) gi gp gl ga ca
      have e : G_gn f (r + 1) g = G_gn f r g := by
        show G_gn f r (G_gr f g) = _
        rw [er]
      have q1 : q_m1o none = -1 := rfl
      refine ⟨h2, u2, z2, wa.tr w2, g2, by rw [e]; exact c2, by rw [e]; exact i2, ?_⟩
      simp only [e279_0, e279_1, e279_2, e279_5, e279_6, e279_7, e279_9, e279_12, e279_15, e279_16, e279_17, e279_18, e279_21, e279_24, e279_25, e279_26, e279_29, e279_32, e279_33, e279_34, e279_35, e279_39, e279_40, e279_43, e279_44, e279_47, e279_49, e279_51, e279_52, e279_55, e279_56, e279_57, e279_59, e279_62, e279_63, e279_66, e279_70, e279_73, e279_74, e279_77, e279_80, e279_81, e279_82, e279_85, e279_86, e279_89, e279_92, e279_93, e279_96, am_bd_some, Option.toList_some, Option.toList_none, List.cons_append, List.nil_append, am_w8_0, am_w8_1, am_w8_2, am_w8_3, am_w8_4, eq_self, or_true, true_or, am_kd_sI, am_kd_sL, am_kd_sR, am_tc_sI, am_tc_sL, am_tc_sR, am_len_sI, am_len_sL, am_len_sR, am_rfs, if_true, if_false, am_rdL_sI, am_rR_sL, am_rt_cq, am_kd_cq, am_tc_cq, am_len_cq, am_rd_sL, am_rd_sR, am_rdL_sR, h1, okK_211 ok, sa, q1, nI_1]
      exact s2
    | some p =>
      obtain ⟨b, v⟩ := p
      rw [hb] at sa
      obtain ⟨b4, g', hg⟩ := G_gb_some hb
      have er : G_gr f g = g' := by
        unfold G_gr
        rw [hb]
        show (G_ob f g b).getD g = g'
        rw [hg]
        rfl
      have q1 : q_m1o (some (b, v)) = nI b := rfl
      have nb : ¬ nI b = -1 := q_m1_n b (by omega)
      have uai := ca.sy.gin gi
      have uap := ca.sy.gpi gp
      obtain ⟨b1, b2⟩ := den_does ha f ua ga wf uai uap b (by omega)
      have w1 : q_what b = 0 := by unfold q_what; rw [if_pos (by omega)]; rfl
      have w2 : q_wway b = nI b := if_pos (by omega)
      rw [w1, w2] at b1 b2
      rcases ca.ob f b (by omega) with ⟨e1, e2⟩ | ⟨x, x', e1, e2, e3⟩
      · rw [e2] at hg; cases hg
      · obtain rfl : x' = g' := Option.some.inj (e2.symm.trans hg)
        obtain ⟨hd, fd, gd, sd⟩ := b2 x e1
        have gi' := G_gr_in wf gi
        have gp' := G_gr_pi wf gi gp
        have gl' := G_gr_lies (f := f) gl
        rw [er] at gi' gp' gl'
        obtain ⟨h2, u2, z2, w2, g2, c2, i2, s2⟩ := ih (i + 1) x' x hd (some (.int (nI b))) (by omega) gi' gp' gl' gd e3
        have e : G_gn f (r + 1) g = G_gn f r x' := by
          show G_gn f r (G_gr f g) = _
          rw [er]
        refine ⟨h2, u2, z2, (wa.tr (fd.wk oka)).tr w2, g2, by rw [e]; exact c2, by rw [e]; exact i2, ?_⟩
        simp only [e279_0, e279_1, e279_2, e279_5, e279_6, e279_7, e279_9, e279_12, e279_15, e279_16, e279_17, e279_18, e279_21, e279_24, e279_25, e279_26, e279_29, e279_32, e279_33, e279_34, e279_35, e279_39, e279_40, e279_43, e279_44, e279_47, e279_49, e279_51, e279_52, e279_55, e279_56, e279_57, e279_59, e279_62, e279_63, e279_66, e279_70, e279_73, e279_74, e279_77, e279_80, e279_81, e279_82, e279_85, e279_86, e279_89, e279_92, e279_93, e279_96, am_bd_some, Option.toList_some, Option.toList_none, List.cons_append, List.nil_append, am_w8_0, am_w8_1, am_w8_2, am_w8_3, am_w8_4, eq_self, or_true, true_or, am_kd_sI, am_kd_sL, am_kd_sR, am_tc_sI, am_tc_sL, am_tc_sR, am_len_sI, am_len_sL, am_len_sR, am_rfs, if_true, if_false, am_rdL_sI, am_rR_sL, am_rt_cq, am_kd_cq, am_tc_cq, am_len_cq, am_rd_sL, am_rd_sR, am_rdL_sR, h1, okK_211 ok, sa, q1, nb, okK_211 oka, sd, nI_1]
        exact s2
def G_gA (f : q_Fl) (g : q_G) (w : Int32) : Int32 := if w = 0 then nI (G_pen g) else if w = 1 then nI (G_sum g (F_pen f) (F_n f)) else nI (q_nm f (G_dog g))
def q_grP (A : q_All) (a n w : Int32) : Prop := (0 ≤ a ∧ a < nI (A.2.1 0)) ∧ (0 ≤ n ∧ n ≤ 40) ∧ (0 ≤ w ∧ w ≤ 2)
