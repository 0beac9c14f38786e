/-! part 73: stir, the pair -/
theorem q_stir_m (f : q_Fl) (fk : F_ok f) (a1 many : Int32) : ∀ (r m : Nat) (s : Option (Nat × Nat)) (g : q_G) (h : am_H) (z6 z7 : Option Value), m + r = F_w f * F_h f → (∀ b v, s = some (b, v) → v ≤ 6) → q_mg h f g → G_co g (G_0 f) → q_kp h f (G_0 f) → ∃ h' : am_H, q_mw h h' ∧ am_ev 287 27 [some (.ref 211), some (.int a1), some (.int many), some (.int (q_n1 f s)), some (.int (q_s2o s)), some (.int (nI m)), z6, z7] [] h = some (some (.int (if many = 0 then q_n1 f ((List.range' m r).foldl (fun s m => F_sr f s (q_cell (F_w f) m)) s) else q_s2o ((List.range' m r).foldl (fun s m => F_sr f s (q_cell (F_w f) m)) s))), h') := by
  have wf := fk.wf
  have n6 := wf.2.2.2.1
  have c64 := wf.c64
  have i0 := G_0_in fk
  have p0 := G_0_pi fk
  intro r
  induction r with
  | zero =>
    intro m s g h z6 z7 hm hs mg co kp
    have ok := mg.1.1
    have a2 := mg.1.2.2.1
    have h1 : nI (F_w f * F_h f) ≤ nI m := nI_le (by omega) (by omega)
    refine ⟨h, q_mw.rf h, ?_⟩
    rw [e287_27]
    by_cases c : many = 0
    · simp only [e287_0, e287_1, e287_2, e287_5, e287_6, e287_7, e287_10, e287_13, e287_14, e287_15, e287_16, e287_17, e287_18, e287_20, e287_21, e287_24, e287_25, e287_29, e287_30, e287_33, e287_36, e287_37, e287_39, e287_42, e287_45, e287_46, e287_48, e287_51, e287_52, e287_55, e287_56, e287_58, e287_59, e287_61, e287_63, e287_64, e287_67, e287_70, e287_72, e287_73, e287_76, e287_78, e287_79, e287_80, e287_83, e287_85, e287_86, e287_89, e287_90, e287_93, e287_94, e287_95, e287_97, e287_100, e287_103, e287_105, e287_107, e287_110, e287_112, e287_115, e287_116, e287_117, e287_119, e287_121, e287_124, e287_126, e287_127, e287_130, e287_133, e287_136, e287_137, e287_140, e287_142, e287_145, e287_146, am_bd_some, Option.toList_some, Option.toList_none, List.cons_append, List.nil_append, am_w8_0, am_w8_1, am_w8_2, am_w8_3, am_w8_4, eq_self, or_true, true_or, am_kd_sI, am_kd_sL, am_kd_sR, am_tc_sI, am_tc_sL, am_tc_sR, am_len_sI, am_len_sL, am_len_sR, am_rfs, if_true, if_false, am_rdL_sI, am_rR_sL, am_rt_cq, am_kd_cq, am_tc_cq, am_len_cq, am_rd_sL, am_rd_sR, am_rdL_sR, okK_211 ok, a2, h1, c, List.range'_zero, List.foldl_nil]
    · simp only [e287_0, e287_1, e287_2, e287_5, e287_6, e287_7, e287_10, e287_13, e287_14, e287_15, e287_16, e287_17, e287_18, e287_20, e287_21, e287_24, e287_25, e287_29, e287_30, e287_33, e287_36, e287_37, e287_39, e287_42, e287_45, e287_46, e287_48, e287_51, e287_52, e287_55, e287_56, e287_58, e287_59, e287_61, e287_63, e287_64, e287_67, e287_70, e287_72, e287_73, e287_76, e287_78, e287_79, e287_80, e287_83, e287_85, e287_86, e287_89, e287_90, e287_93, e287_94, e287_95, e287_97, e287_100, e287_103, e287_105, e287_107, e287_110, e287_112, e287_115, e287_116, e287_117, e287_119, e287_121, e287_124, e287_126, e287_127, e287_130, e287_133, e287_136, e287_137, e287_140, e287_142, e287_145, e287_146, am_bd_some, Option.toList_some, Option.toList_none, List.cons_append, List.nil_append, am_w8_0, am_w8_1, am_w8_2, am_w8_3, am_w8_4, eq_self, or_true, true_or, am_kd_sI, am_kd_sL, am_kd_sR, am_tc_sI, am_tc_sL, am_tc_sR, am_len_sI, am_len_sL, am_len_sR, am_rfs, if_true, if_false, am_rdL_sI, am_rR_sL, am_rt_cq, am_kd_cq, am_tc_cq, am_len_cq, am_rd_sL, am_rd_sR, am_rdL_sR, okK_211 ok, a2, h1, c, List.range'_zero, List.foldl_nil]
  | succ r ih =>
    intro m s g h z6 z7 hm hs mg co kp
    have ok := mg.1.1
    have a2 := mg.1.2.2.1
    have h1 : ¬ nI (F_w f * F_h f) ≤ nI m := nI_ge (by omega) (by omega)
    obtain ⟨ci, cn⟩ := q_cell_in wf (m := m) (by omega)
    have gi : G_in f g := co.sy.gin i0
    have gp : G_pi f g := co.sy.gpi p0
    have dm := den_may h f g mg wf gi gp (q_cell (F_w f) m) ci
    rw [cn, co.may f] at dm
    rw [List.range'_succ, List.foldl_cons, e287_27]
    cases hp : G_may f (G_0 f) (q_cell (F_w f) m) with
    | false =>
      rw [hp] at dm
      have y : q_bi false = 0 := rfl
      have cs : F_sr f s (q_cell (F_w f) m) = s := by
        unfold F_sr
        rw [hp]
        rfl
      obtain ⟨h'', f2, s2⟩ := ih (m + 1) s g h z6 z7 (by omega) hs mg co kp
      refine ⟨h'', f2, ?_⟩
      rw [cs]
      simp only [e287_0, e287_1, e287_2, e287_5, e287_6, e287_7, e287_10, e287_13, e287_14, e287_15, e287_16, e287_17, e287_18, e287_20, e287_21, e287_24, e287_25, e287_29, e287_30, e287_33, e287_36, e287_37, e287_39, e287_42, e287_45, e287_46, e287_48, e287_51, e287_52, e287_55, e287_56, e287_58, e287_59, e287_61, e287_63, e287_64, e287_67, e287_70, e287_72, e287_73, e287_76, e287_78, e287_79, e287_80, e287_83, e287_85, e287_86, e287_89, e287_90, e287_93, e287_94, e287_95, e287_97, e287_100, e287_103, e287_105, e287_107, e287_110, e287_112, e287_115, e287_116, e287_117, e287_119, e287_121, e287_124, e287_126, e287_127, e287_130, e287_133, e287_136, e287_137, e287_140, e287_142, e287_145, e287_146, am_bd_some, Option.toList_some, Option.toList_none, List.cons_append, List.nil_append, am_w8_0, am_w8_1, am_w8_2, am_w8_3, am_w8_4, eq_self, or_true, true_or, am_kd_sI, am_kd_sL, am_kd_sR, am_tc_sI, am_tc_sL, am_tc_sR, am_len_sI, am_len_sL, am_len_sR, am_rfs, if_true, if_false, am_rdL_sI, am_rR_sL, am_rt_cq, am_kd_cq, am_tc_cq, am_len_cq, am_rd_sL, am_rd_sR, am_rdL_sR, okK_211 ok, a2, h1, dm, y, nI_1]
      exact s2
    | true =>
      rw [hp] at dm
      have y : ¬ q_bi true = 0 := by decide
      have mg1 : q_mg (am_sI h 211 28 (nI m)) f (G_sdog g (q_cell (F_w f) m)) := by
        have := q_mg_dog mg (q_cell (F_w f) m)
        rw [cn] at this
        exact this
      have f1 := q_mw_fld 28 (nI m) (by decide) h
      have gi1 : G_in f (G_sdog g (q_cell (F_w f) m)) := ⟨ci, gi.2⟩
      have gp1 : G_pi f (G_sdog g (q_cell (F_w f) m)) := gp
      obtain ⟨ha, fa, ga, sa⟩ := den_mallGo (am_sI h 211 28 (nI m)) f _ mg1 wf gi1 gp1
      have oka := ga.1.1
      have kpa := (f1.tr fa).kp kp
      have gia : G_in f (G_tick (G_all f (F_n f) 0 (G_sdog g (q_cell (F_w f) m)))) := G_all_in wf (F_n f) 0 _ (by omega) gi1
      have li := q_stir_i ha f _ (G_0 f) ga kpa wf gia i0 a1 many (q_n1 f s) (q_s2o s) (nI m) (F_n f) 0 0 (by omega)
      have ecn : 0 + q_ctB (fun k => decide (G_at (G_tick (G_all f (F_n f) 0 (G_sdog g (q_cell (F_w f) m)))) k ≠ G_at (G_0 f) k)) (F_n f) 0 = F_cn f (q_cell (F_w f) m) := by
        unfold F_cn
        rw [← G_co.cnt f (F_n f) 0 _ _ 0 (co.sdog (q_cell (F_w f) m)), G_cnt_ct]
        have : G_at (G_0 f) = G_at (G_sdog g (q_cell (F_w f) m)) := co.2.2.2.2.symm
        rw [this]
        rfl
      rw [ecn, nI_0] at li
      obtain ⟨hb, fb, gb, sb⟩ := den_backAll ha f _ (G_0 f) ga kpa wf
      have cob : G_co (G_bk (G_0 f) (G_tick (G_all f (F_n f) 0 (G_sdog g (q_cell (F_w f) m))))) (G_0 f) := by
        refine ⟨rfl, rfl, ?_, ?_, rfl⟩
        · show G_lies (G_all f (F_n f) 0 (G_sdog g (q_cell (F_w f) m))) = _
          rw [G_all_lies]
          exact co.2.2.1
        · show G_back (G_all f (F_n f) 0 (G_sdog g (q_cell (F_w f) m))) = _
          rw [G_all_back]
          exact co.2.2.2.1
      have okb := gb.1.1
      have c6 := F_cn_le wf (q_cell (F_w f) m)
      have le := q_s2_le c6 hs
      have ft := (f1.tr fa).tr fb
      obtain ⟨h'', f2, s2⟩ := ih (m + 1) (F_sr f s (q_cell (F_w f) m)) _ hb (some (.int (nI (F_cn f (q_cell (F_w f) m))))) (some (.int (nI (F_n f)))) (by omega) (F_sr_le wf hs) gb cob (ft.kp kp)
      refine ⟨h'', ft.tr f2, ?_⟩
      simp only [e287_0, e287_1, e287_2, e287_5, e287_6, e287_7, e287_10, e287_13, e287_14, e287_15, e287_16, e287_17, e287_18, e287_20, e287_21, e287_24, e287_25, e287_29, e287_30, e287_33, e287_36, e287_37, e287_39, e287_42, e287_45, e287_46, e287_48, e287_51, e287_52, e287_55, e287_56, e287_58, e287_59, e287_63, e287_64, e287_67, e287_70, e287_72, e287_73, e287_76, e287_78, e287_79, e287_80, e287_83, e287_85, e287_86, e287_89, e287_90, e287_93, e287_94, e287_95, e287_97, e287_100, e287_103, e287_105, e287_107, e287_110, e287_112, e287_115, e287_116, e287_117, e287_119, e287_121, e287_124, e287_126, e287_127, e287_130, e287_133, e287_136, e287_137, e287_140, e287_142, e287_145, e287_146, am_bd_some, Option.toList_some, Option.toList_none, List.cons_append, List.nil_append, am_w8_0, am_w8_1, am_w8_2, am_w8_3, am_w8_4, eq_self, or_true, true_or, am_kd_sI, am_kd_sL, am_kd_sR, am_tc_sI, am_tc_sL, am_tc_sR, am_len_sI, am_len_sL, am_len_sR, am_rfs, if_true, if_false, am_rdL_sI, am_rR_sL, am_rt_cq, am_kd_cq, am_tc_cq, am_len_cq, am_rd_sL, am_rd_sR, am_rdL_sR, okK_211 ok, a2, h1, dm, y, sa]
      rw [li]
      have dg := den_greater (q_s2o s) (nI (F_cn f (q_cell (F_w f) m))) ha
      rw [q_imx] at dg
      by_cases c : nI (F_cn f (q_cell (F_w f) m)) ≤ q_s2o s
      · have e1 := F_sr_n (f := f) (c := q_cell (F_w f) m) (le.mp c)
        rw [e1] at s2 ⊢
        rw [if_pos c] at dg
        simp only [e287_0, e287_1, e287_2, e287_5, e287_6, e287_7, e287_10, e287_13, e287_14, e287_15, e287_16, e287_17, e287_18, e287_20, e287_21, e287_24, e287_25, e287_29, e287_30, e287_33, e287_36, e287_37, e287_39, e287_42, e287_45, e287_46, e287_48, e287_51, e287_52, e287_55, e287_56, e287_58, e287_59, e287_63, e287_64, e287_67, e287_70, e287_72, e287_73, e287_76, e287_78, e287_79, e287_80, e287_83, e287_85, e287_86, e287_89, e287_90, e287_93, e287_94, e287_95, e287_97, e287_100, e287_103, e287_105, e287_107, e287_110, e287_112, e287_115, e287_116, e287_117, e287_119, e287_121, e287_124, e287_126, e287_127, e287_130, e287_133, e287_136, e287_137, e287_140, e287_142, e287_145, e287_146, am_bd_some, Option.toList_some, Option.toList_none, List.cons_append, List.nil_append, am_w8_0, am_w8_1, am_w8_2, am_w8_3, am_w8_4, eq_self, or_true, true_or, am_kd_sI, am_kd_sL, am_kd_sR, am_tc_sI, am_tc_sL, am_tc_sR, am_len_sI, am_len_sL, am_len_sR, am_rfs, if_true, if_false, am_rdL_sI, am_rR_sL, am_rt_cq, am_kd_cq, am_tc_cq, am_len_cq, am_rd_sL, am_rd_sR, am_rdL_sR, c, dg, okK_211 oka, sb, nI_1]
        exact s2
      · have e1 := F_sr_p hp (fun w => c (le.mpr w))
        rw [e1] at s2 ⊢
        have q1 : q_n1 f (some (q_cell (F_w f) m, F_cn f (q_cell (F_w f) m))) = nI m := by
          show nI (q_nm f (q_cell (F_w f) m)) = _
          rw [cn]
        have q2 : q_s2o (some (q_cell (F_w f) m, F_cn f (q_cell (F_w f) m))) = nI (F_cn f (q_cell (F_w f) m)) := rfl
        rw [q1, q2] at s2
        rw [if_neg c] at dg
        simp only [e287_0, e287_1, e287_2, e287_5, e287_6, e287_7, e287_10, e287_13, e287_14, e287_15, e287_16, e287_17, e287_18, e287_20, e287_21, e287_24, e287_25, e287_29, e287_30, e287_33, e287_36, e287_37, e287_39, e287_42, e287_45, e287_46, e287_48, e287_51, e287_52, e287_55, e287_56, e287_58, e287_59, e287_63, e287_64, e287_67, e287_70, e287_72, e287_73, e287_76, e287_78, e287_79, e287_80, e287_83, e287_85, e287_86, e287_89, e287_90, e287_93, e287_94, e287_95, e287_97, e287_100, e287_103, e287_105, e287_107, e287_110, e287_112, e287_115, e287_116, e287_117, e287_119, e287_121, e287_124, e287_126, e287_127, e287_130, e287_133, e287_136, e287_137, e287_140, e287_142, e287_145, e287_146, am_bd_some, Option.toList_some, Option.toList_none, List.cons_append, List.nil_append, am_w8_0, am_w8_1, am_w8_2, am_w8_3, am_w8_4, eq_self, or_true, true_or, am_kd_sI, am_kd_sL, am_kd_sR, am_tc_sI, am_tc_sL, am_tc_sR, am_len_sI, am_len_sL, am_len_sR, am_rfs, if_true, if_false, am_rdL_sI, am_rR_sL, am_rt_cq, am_kd_cq, am_tc_cq, am_len_cq, am_rd_sL, am_rd_sR, am_rdL_sR, c, dg, okK_211 oka, sb, nI_1]
        exact s2
theorem F_sr_in {f : q_Fl} (wf : F_wf f) : ∀ (l : List Nat) (s : Option (Nat × Nat)), (∀ m, m ∈ l → m < F_w f * F_h f) → (∀ c v, s = some (c, v) → F_in f c) → ∀ c v, l.foldl (fun s m => F_sr f s (q_cell (F_w f) m)) s = some (c, v) → F_in f c := by
  intro l
  induction l with
  | nil => intro s _ hs; exact hs
  | cons m l ih =>
    intro s hl hs
    have ci := (q_cell_in wf (hl m List.mem_cons_self)).1
    rw [List.foldl_cons]
    refine ih _ (fun m' hm' => hl m' (List.mem_cons_of_mem _ hm')) ?_
    intro c v w
    unfold F_sr at w
    split at w
    · split at w
      · cases w; exact ci
      · split at w
        · cases w; exact ci
        · exact hs c v w
    · exact hs c v w
def q_SR (f : q_Fl) : Option (Nat × Nat) := (List.range (F_w f * F_h f)).foldl (fun s m => F_sr f s (q_cell (F_w f) m)) none
def q_srA (A : q_All) (a m : Int32) : Int32 := if 0 ≤ a ∧ a < nI (A.2.1 0) then (if m = 0 then q_n1 (A.2.2.1 a.toNatClampNeg) (q_SR (A.2.2.1 a.toNatClampNeg)) else q_s2o (q_SR (A.2.2.1 a.toNatClampNeg))) else -1
theorem den_cstir {A : q_All} {h : am_H} (H : q_Rel A h) (a st : Int32) : ∃ h' : am_H, q_wk h h' ∧ am_den 110 [.ref 0, .int a, .int st] h = some (some (.int (q_srA A a st)), h') := by
  have ok := H.1
  obtain ⟨c1, c2, c3⟩ := H.cnt 0 (by decide)
  have dh := den_has h ok 0 (by decide) (A.2.1 0) c1 c2 a
  rw [nI_0] at dh
  have y : ¬ (1 : Int32) = 0 := by decide
  show ∃ h' : am_H, q_wk h h' ∧ am_ev 110 0 [some (.ref 0), some (.int a), some (.int st), none, none, none, none, none] [] h = _
  unfold q_srA
  by_cases ca : 0 ≤ a ∧ a < nI (A.2.1 0)
  · rw [if_pos ca] at dh ⊢
    obtain ⟨i, hi, rfl⟩ := q_in2 c1 ca
    obtain ⟨fk, cF, -⟩ := H.fl i hi
    have wf := fk.wf
    have z : (nI i).toNatClampNeg = i := nI_clamp (by omega)
    have x : am_ix (nI i) 2 = true := am_ix_nI (by omega) (by decide)
    have r := q_fo_ref ok i (by omega)
    have q178 : q_flk 178 := Or.inl rfl
    obtain ⟨h1, z7, f1, s2⟩ := q_stir_c (8 + 16 * i) (by omega) _ fk (nI i) st 64 0 none h none (by omega) (fun b v w => by cases w) ok cF
    have cF1 := f1.cF cF (by omega)
    have ce : (List.range' 0 64).foldl (F_sc (A.2.2.1 i)) none = q_SR (A.2.2.1 i) := by
      rw [← List.range_eq_range']
      exact q_fold wf (F_sr (A.2.2.1 i)) none
    have q1 : q_m1o none = -1 := rfl
    have q2 : q_s2o none = -1 := rfl
    rw [ce, nI_0, q1, q2] at s2
    refine ⟨h1, f1.wk q178 ok, ?_⟩
    rw [z]
    have s0 : am_ev 110 0 [some (.ref 0), some (.int (nI i)), some (.int st), none, none, none, none, none] [] h = am_ev 110 33 [some (.ref 0), some (.int (nI i)), some (.int st), some (.ref (8 + 16 * i)), some (.int (-1)), some (.int (-1)), some (.int 0), none] [] h := by
      simp only [e110_0, e110_1, e110_4, e110_5, e110_6, e110_9, e110_12, e110_13, e110_14, e110_15, e110_18, e110_21, e110_22f, e110_22d, e110_22b, e110_22l, e110_22t, e110_23, e110_24, e110_25, e110_27, e110_28, e110_30, e110_31, e110_35, e110_37, e110_40, e110_41, e110_43, e110_46, e110_49, e110_52, e110_53, e110_56, e110_57, e110_60, e110_61, e110_64, e110_66, e110_69, e110_70, e110_73, e110_76, e110_78, e110_80, e110_82, e110_85, e110_87, e110_89, e110_91, e110_93, e110_96, e110_99, e110_100, e110_103, e110_105, e110_108, e110_109, e110_111, e110_114, am_bd_some, Option.toList_some, Option.toList_none, List.cons_append, List.nil_append, am_w8_0, am_w8_1, am_w8_2, am_w8_3, am_w8_4, eq_self, or_true, true_or, am_kd_sI, am_kd_sL, am_kd_sR, am_tc_sI, am_tc_sL, am_tc_sR, am_len_sI, am_len_sL, am_len_sR, am_rfs, if_true, if_false, am_rdL_sI, am_rR_sL, am_rt_cq, am_kd_cq, am_tc_cq, am_len_cq, am_rd_sL, am_rd_sR, am_rdL_sR, okK_0 ok, okR_0_0 ok, okK_1 ok, okR_1_5 ok, okT_4 ok, okL_4 ok, dh, y, not_false_eq_true, x, z, r]
    rw [s0, s2]
    by_cases m : st = 0
    · have dn : am_den 67 [.ref (8 + 16 * i), .int (q_m1o (q_SR (A.2.2.1 i)))] h1 = some (some (.int (q_n1 (A.2.2.1 i) (q_SR (A.2.2.1 i)))), h1) := by
        cases hr : q_SR (A.2.2.1 i) with
        | none => exact den_numberOf0 h1 _
        | some p =>
          obtain ⟨c, v⟩ := p
          have hin := F_sr_in wf _ none (fun m hm => List.mem_range.mp hm) (fun c v w => by cases w) c v hr
          exact den_numberOf h1 _ _ cF1.1 c hin.1
      simp only [e110_0, e110_1, e110_4, e110_5, e110_6, e110_9, e110_12, e110_13, e110_14, e110_15, e110_18, e110_21, e110_22f, e110_22d, e110_22b, e110_22l, e110_22t, e110_23, e110_24, e110_25, e110_27, e110_28, e110_30, e110_31, e110_35, e110_37, e110_40, e110_41, e110_43, e110_46, e110_49, e110_52, e110_53, e110_56, e110_57, e110_60, e110_61, e110_64, e110_66, e110_69, e110_70, e110_73, e110_76, e110_78, e110_80, e110_82, e110_85, e110_87, e110_89, e110_91, e110_93, e110_96, e110_99, e110_100, e110_103, e110_105, e110_108, e110_109, e110_111, e110_114, am_bd_some, Option.toList_some, Option.toList_none, List.cons_append, List.nil_append, am_w8_0, am_w8_1, am_w8_2, am_w8_3, am_w8_4, eq_self, or_true, true_or, am_kd_sI, am_kd_sL, am_kd_sR, am_tc_sI, am_tc_sL, am_tc_sR, am_len_sI, am_len_sL, am_len_sR, am_rfs, if_true, if_false, am_rdL_sI, am_rR_sL, am_rt_cq, am_kd_cq, am_tc_cq, am_len_cq, am_rd_sL, am_rd_sR, am_rdL_sR, m, cF1.1.1.1, dn]
    · simp only [e110_0, e110_1, e110_4, e110_5, e110_6, e110_9, e110_12, e110_13, e110_14, e110_15, e110_18, e110_21, e110_22f, e110_22d, e110_22b, e110_22l, e110_22t, e110_23, e110_24, e110_25, e110_27, e110_28, e110_30, e110_31, e110_35, e110_37, e110_40, e110_41, e110_43, e110_46, e110_49, e110_52, e110_53, e110_56, e110_57, e110_60, e110_61, e110_64, e110_66, e110_69, e110_70, e110_73, e110_76, e110_78, e110_80, e110_82, e110_85, e110_87, e110_89, e110_91, e110_93, e110_96, e110_99, e110_100, e110_103, e110_105, e110_108, e110_109, e110_111, e110_114, am_bd_some, Option.toList_some, Option.toList_none, List.cons_append, List.nil_append, am_w8_0, am_w8_1, am_w8_2, am_w8_3, am_w8_4, eq_self, or_true, true_or, am_kd_sI, am_kd_sL, am_kd_sR, am_tc_sI, am_tc_sL, am_tc_sR, am_len_sI, am_len_sL, am_len_sR, am_rfs, if_true, if_false, am_rdL_sI, am_rR_sL, am_rt_cq, am_kd_cq, am_tc_cq, am_len_cq, am_rd_sL, am_rd_sR, am_rdL_sR, m]
  · rw [if_neg ca] at dh ⊢
    refine ⟨h, q_wk.rf ok, ?_⟩
    simp only [e110_0, e110_1, e110_4, e110_5, e110_6, e110_9, e110_12, e110_13, e110_14, e110_15, e110_18, e110_21, e110_22f, e110_22d, e110_22b, e110_22l, e110_22t, e110_23, e110_24, e110_25, e110_27, e110_28, e110_30, e110_31, e110_35, e110_37, e110_40, e110_41, e110_43, e110_46, e110_49, e110_52, e110_53, e110_56, e110_57, e110_60, e110_61, e110_64, e110_66, e110_69, e110_70, e110_73, e110_76, e110_78, e110_80, e110_82, e110_85, e110_87, e110_89, e110_91, e110_93, e110_96, e110_99, e110_100, e110_103, e110_105, e110_108, e110_109, e110_111, e110_114, am_bd_some, Option.toList_some, Option.toList_none, List.cons_append, List.nil_append, am_w8_0, am_w8_1, am_w8_2, am_w8_3, am_w8_4, eq_self, or_true, true_or, am_kd_sI, am_kd_sL, am_kd_sR, am_tc_sI, am_tc_sL, am_tc_sR, am_len_sI, am_len_sL, am_len_sR, am_rfs, if_true, if_false, am_rdL_sI, am_rR_sL, am_rt_cq, am_kd_cq, am_tc_cq, am_len_cq, am_rd_sL, am_rd_sR, am_rdL_sR, okK_0 ok, okR_0_0 ok, okK_1 ok, dh, not_true]
theorem den_mstir {A : q_All} {h : am_H} (H : q_Rel A h) (a st : Int32) : ∃ h' : am_H, q_wk h h' ∧ am_den 287 [.ref 211, .int a, .int st] h = some (some (.int (q_srA A a st)), h') := by
  have ok := H.1
  have h0 := H.2.1
  obtain ⟨c1, c2, c3⟩ := H.cnt 0 (by decide)
  have y : ¬ (1 : Int32) = 0 := by decide
  show ∃ h' : am_H, q_wk h h' ∧ am_ev 287 0 [some (.ref 211), some (.int a), some (.int st), none, none, none, none, none] [] h = _
  unfold q_srA
  by_cases ca : 0 ≤ a ∧ a < nI (A.2.1 0)
  · rw [if_pos ca]
    obtain ⟨i, hi, rfl⟩ := q_in2 c1 ca
    obtain ⟨fk, cF, fm⟩ := H.fl i hi
    have z : (nI i).toNatClampNeg = i := nI_clamp (by omega)
    obtain ⟨h1, f1, e24, g1, s1⟩ := den_hand1 h ok i (by omega) _ fk fm (A.2.1 0) c1 hi c3
    have ok1 := g1.1.1
    obtain ⟨h2, f2, g2, kp, s2⟩ := den_keepAll h1 _ _ g1 fk.wf
    have ok2 := g2.1.1
    obtain ⟨h3, f3, s3⟩ := q_stir_m _ fk (nI i) st (F_w (A.2.2.1 i) * F_h (A.2.2.1 i)) 0 none _ h2 none none (by omega) (fun b v w => by cases w) g2 (G_co.rf _) kp
    have ce : (List.range' 0 (F_w (A.2.2.1 i) * F_h (A.2.2.1 i))).foldl (fun s m => F_sr (A.2.2.1 i) s (q_cell (F_w (A.2.2.1 i)) m)) none = q_SR (A.2.2.1 i) := by
      rw [← List.range_eq_range']
      rfl
    have q1 : q_n1 (A.2.2.1 i) none = -1 := rfl
    have q2 : q_s2o none = -1 := rfl
    rw [ce, nI_0, q1, q2] at s3
    refine ⟨h3, ((f1.wk ok).tr f2).tr (f3.wk ok2), ?_⟩
    rw [z]
    simp only [e287_0, e287_1, e287_2, e287_5, e287_6, e287_7, e287_10, e287_13, e287_14, e287_15, e287_16, e287_17, e287_18, e287_20, e287_21, e287_24, e287_25, e287_29, e287_30, e287_33, e287_36, e287_37, e287_39, e287_42, e287_45, e287_46, e287_48, e287_51, e287_52, e287_55, e287_56, e287_58, e287_59, e287_61, e287_63, e287_64, e287_67, e287_70, e287_72, e287_73, e287_76, e287_78, e287_79, e287_80, e287_83, e287_85, e287_86, e287_89, e287_90, e287_93, e287_94, e287_95, e287_97, e287_100, e287_103, e287_105, e287_107, e287_110, e287_112, e287_115, e287_116, e287_117, e287_119, e287_121, e287_124, e287_126, e287_127, e287_130, e287_133, e287_136, e287_137, e287_140, e287_142, e287_145, e287_146, am_bd_some, Option.toList_some, Option.toList_none, List.cons_append, List.nil_append, am_w8_0, am_w8_1, am_w8_2, am_w8_3, am_w8_4, eq_self, or_true, true_or, am_kd_sI, am_kd_sL, am_kd_sR, am_tc_sI, am_tc_sL, am_tc_sR, am_len_sI, am_len_sL, am_len_sR, am_rfs, if_true, if_false, am_rdL_sI, am_rR_sL, am_rt_cq, am_kd_cq, am_tc_cq, am_len_cq, am_rd_sL, am_rd_sR, am_rdL_sR, okK_211 ok, am_sI_id h0, s1, y, not_false_eq_true, okK_211 ok1, s2]
    exact s3
  · rw [if_neg ca]
    have s0 := den_hand0 h ok (A.2.1 0) c1 c3 a ca
    refine ⟨h, q_wk.rf ok, ?_⟩
    simp only [e287_0, e287_1, e287_2, e287_5, e287_6, e287_7, e287_10, e287_13, e287_14, e287_15, e287_16, e287_17, e287_18, e287_20, e287_21, e287_24, e287_25, e287_29, e287_30, e287_33, e287_36, e287_37, e287_39, e287_42, e287_45, e287_46, e287_48, e287_51, e287_52, e287_55, e287_56, e287_58, e287_59, e287_61, e287_63, e287_64, e287_67, e287_70, e287_72, e287_73, e287_76, e287_78, e287_79, e287_80, e287_83, e287_85, e287_86, e287_89, e287_90, e287_93, e287_94, e287_95, e287_97, e287_100, e287_103, e287_105, e287_107, e287_110, e287_112, e287_115, e287_116, e287_117, e287_119, e287_121, e287_124, e287_126, e287_127, e287_130, e287_133, e287_136, e287_137, e287_140, e287_142, e287_145, e287_146, am_bd_some, Option.toList_some, Option.toList_none, List.cons_append, List.nil_append, am_w8_0, am_w8_1, am_w8_2, am_w8_3, am_w8_4, eq_self, or_true, true_or, am_kd_sI, am_kd_sL, am_kd_sR, am_tc_sI, am_tc_sL, am_tc_sR, am_len_sI, am_len_sL, am_len_sR, am_rfs, if_true, if_false, am_rdL_sI, am_rR_sL, am_rt_cq, am_kd_cq, am_tc_cq, am_len_cq, am_rd_sL, am_rd_sR, am_rdL_sR, okK_211 ok, am_sI_id h0, s0, not_true]
theorem ly_30 : ly_p30 := fun a st _ => pr_wk (fun A => q_srA A a st) (fun A h H => den_cstir H a st) (fun A h H => den_mstir H a st)
