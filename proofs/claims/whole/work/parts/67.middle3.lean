/-! part 67: middle, the pair -/
theorem q_cell_nm {f : q_Fl} {c : Nat} (hc : F_in f c) : q_cell (F_w f) (q_nm f c) = c := by
  obtain ⟨a, b⟩ := q_nm_d hc
  unfold q_cell
  rw [a, b]
  omega
theorem F_md_some {f : q_Fl} (wf : F_wf f) : ∀ (l : List Nat) (s : Option (Nat × Nat)), (∀ m, m ∈ l → m < F_w f * F_h f) → (∀ c v, s = some (c, v) → F_in f c) → (s ≠ none ∨ ∃ m, m ∈ l ∧ F_wall f (q_cell (F_w f) m) = false) → ∃ c v, l.foldl (fun s m => F_md f s (q_cell (F_w f) m)) s = some (c, v) ∧ F_in f c := by
  intro l
  induction l with
  | nil =>
    intro s _ hs h
    rcases h with h | ⟨m, hm, _⟩
    · cases s with
      | none => exact absurd rfl h
      | some p => exact ⟨p.1, p.2, rfl, hs p.1 p.2 rfl⟩
    · cases hm
  | cons m l ih =>
    intro s hl hs h
    have ci := (q_cell_in wf (hl m List.mem_cons_self)).1
    rw [List.foldl_cons]
    refine ih _ (fun m' hm' => hl m' (List.mem_cons_of_mem _ hm')) ?_ ?_
    · intro c v w
      unfold F_md at w
      split at w
      · exact hs c v w
      · split at w
        · cases w; exact ci
        · split at w
          · cases w; exact ci
          · exact hs c v w
    · cases hw : F_wall f (q_cell (F_w f) m) with
      | true =>
        have e : F_md f s (q_cell (F_w f) m) = s := by unfold F_md; rw [hw]; rfl
        rw [e]
        rcases h with h | ⟨m', hm', hw'⟩
        · exact Or.inl h
        · rcases List.mem_cons.mp hm' with rfl | q
          · rw [hw] at hw'; cases hw'
          · exact Or.inr ⟨m', q, hw'⟩
      | false =>
        left
        unfold F_md
        rw [hw, if_neg (show ¬ (false = true) by decide)]
        split
        · intro w; cases w
        · split
          · intro w; cases w
          · intro w; cases w
def q_MR (f : q_Fl) : Option (Nat × Nat) := (List.range (F_w f * F_h f)).foldl (fun s m => F_md f s (q_cell (F_w f) m)) none
theorem q_MR_some {f : q_Fl} (fk : F_ok f) : ∃ c v, q_MR f = some (c, v) ∧ F_in f c := by
  have wf := fk.wf
  refine F_md_some wf _ none (fun m hm => List.mem_range.mp hm) (fun c v w => by cases w) (Or.inr ⟨q_nm f (F_pen f), List.mem_range.mpr (q_nm_lt fk.2.2.1), ?_⟩)
  rw [q_cell_nm fk.2.2.1]
  exact fk.2.2.2.2.2.2.2.1
def q_midA (A : q_All) (a st : Int32) : Int32 := if 0 ≤ a ∧ a < nI (A.2.1 0) then (if st = 0 then q_n1 (A.2.2.1 a.toNatClampNeg) (q_MR (A.2.2.1 a.toNatClampNeg)) else nI (q_n2 (q_MR (A.2.2.1 a.toNatClampNeg)))) else -1
theorem den_cmid {A : q_All} {h : am_H} (H : q_Rel A h) (a st : Int32) : ∃ h' : am_H, q_wk h h' ∧ am_den 99 [.ref 0, .int a, .int st] h = some (some (.int (q_midA A a st)), h') := by
  have ok := H.1
  obtain ⟨c1, c2, c3⟩ := H.cnt 0 (by decide)
  have dh := den_has h ok 0 (by decide) (A.2.1 0) c1 c2 a
  rw [nI_0] at dh
  have y : ¬ (1 : Int32) = 0 := by decide
  show ∃ h' : am_H, q_wk h h' ∧ am_ev 99 0 [some (.ref 0), some (.int a), some (.int st), none, none, none, none, none] [] h = _
  unfold q_midA
  by_cases ca : 0 ≤ a ∧ a < nI (A.2.1 0)
  · rw [if_pos ca] at dh ⊢
    obtain ⟨i, hi, rfl⟩ := q_in2 c1 ca
    obtain ⟨fk, cF, -⟩ := H.fl i hi
    have wf := fk.wf
    have z : (nI i).toNatClampNeg = i := nI_clamp (by omega)
    have x : am_ix (nI i) 2 = true := am_ix_nI (by omega) (by decide)
    have r := q_fo_ref ok i (by omega)
    have q178 : q_flk 178 := Or.inl rfl
    obtain ⟨h1, f1, g1, s1⟩ := den_begin h ok 178 (8 + 16 * i) q178 (by omega) _ wf cF
    have ok1 := f1.ok q178 ok
    obtain ⟨z7, s2⟩ := q_mid_c (8 + 16 * i) _ fk (nI i) st h1 ok1 g1 64 0 none none (by omega) (fun b v w => by cases w)
    have ce : (List.range' 0 64).foldl (F_mc (A.2.2.1 i)) none = q_MR (A.2.2.1 i) := by
      rw [← List.range_eq_range']
      exact q_fold wf (F_md (A.2.2.1 i)) none
    have q1 : q_m1o none = -1 := rfl
    have q2 : q_m2o none = 0 := rfl
    rw [ce, nI_0, q1, q2] at s2
    obtain ⟨c, v, hr, hin⟩ := q_MR_some fk
    rw [hr] at s2
    have q3 : q_m1o (some (c, v)) = nI c := rfl
    have q4 : q_m2o (some (c, v)) = nI v := rfl
    rw [q3, q4] at s2
    have dn := den_numberOf h1 (8 + 16 * i) _ g1.2.1 c hin.1
    refine ⟨h1, f1.wk q178 ok, ?_⟩
    rw [z, hr]
    have s0 : am_ev 99 0 [some (.ref 0), some (.int (nI i)), some (.int st), none, none, none, none, none] [] h = am_ev 99 41 [some (.ref 0), some (.int (nI i)), some (.int st), some (.ref (8 + 16 * i)), some (.int (-1)), some (.int 0), some (.int 0), none] [] h1 := by
      simp only [e99_0, e99_1, e99_4, e99_5, e99_6, e99_9, e99_12, e99_13, e99_14, e99_15, e99_18, e99_21, e99_22f, e99_22d, e99_22b, e99_22l, e99_22t, e99_23, e99_24, e99_25, e99_28, e99_29, e99_32, e99_33, e99_35, e99_36, e99_38, e99_39, e99_43, e99_45, e99_48, e99_49, e99_51, e99_54, e99_57, e99_58, e99_60, e99_63, e99_66, e99_69, e99_70, e99_73, e99_75, e99_78, e99_80, e99_82, e99_83, e99_86, e99_88, e99_90, e99_93, e99_95, e99_97, e99_99, e99_101, e99_104, e99_107, e99_108, e99_111, e99_113, e99_116, e99_117, e99_119, e99_122, am_bd_some, Option.toList_some, Option.toList_none, List.cons_append, List.nil_append, am_w8_0, am_w8_1, am_w8_2, am_w8_3, am_w8_4, eq_self, or_true, true_or, am_kd_sI, am_kd_sL, am_kd_sR, am_tc_sI, am_tc_sL, am_tc_sR, am_len_sI, am_len_sL, am_len_sR, am_rfs, if_true, if_false, am_rdL_sI, am_rR_sL, am_rt_cq, am_kd_cq, am_tc_cq, am_len_cq, am_rd_sL, am_rd_sR, am_rdL_sR, okK_0 ok, okR_0_0 ok, okK_1 ok, okR_1_5 ok, okT_4 ok, okL_4 ok, okR_0_4 ok, okK_178 ok, dh, y, not_false_eq_true, x, z, r, s1]
    rw [s0, s2]
    by_cases m : st = 0
    · simp only [e99_0, e99_1, e99_4, e99_5, e99_6, e99_9, e99_12, e99_13, e99_14, e99_15, e99_18, e99_21, e99_22f, e99_22d, e99_22b, e99_22l, e99_22t, e99_23, e99_24, e99_25, e99_28, e99_29, e99_32, e99_33, e99_35, e99_36, e99_38, e99_39, e99_43, e99_45, e99_48, e99_49, e99_51, e99_54, e99_57, e99_58, e99_60, e99_63, e99_66, e99_69, e99_70, e99_73, e99_75, e99_78, e99_80, e99_82, e99_83, e99_86, e99_88, e99_90, e99_93, e99_95, e99_97, e99_99, e99_101, e99_104, e99_107, e99_108, e99_111, e99_113, e99_116, e99_117, e99_119, e99_122, am_bd_some, Option.toList_some, Option.toList_none, List.cons_append, List.nil_append, am_w8_0, am_w8_1, am_w8_2, am_w8_3, am_w8_4, eq_self, or_true, true_or, am_kd_sI, am_kd_sL, am_kd_sR, am_tc_sI, am_tc_sL, am_tc_sR, am_len_sI, am_len_sL, am_len_sR, am_rfs, if_true, if_false, am_rdL_sI, am_rR_sL, am_rt_cq, am_kd_cq, am_tc_cq, am_len_cq, am_rd_sL, am_rd_sR, am_rdL_sR, m, g1.2.1.1.1, dn, q_n1]
    · simp only [e99_0, e99_1, e99_4, e99_5, e99_6, e99_9, e99_12, e99_13, e99_14, e99_15, e99_18, e99_21, e99_22f, e99_22d, e99_22b, e99_22l, e99_22t, e99_23, e99_24, e99_25, e99_28, e99_29, e99_32, e99_33, e99_35, e99_36, e99_38, e99_39, e99_43, e99_45, e99_48, e99_49, e99_51, e99_54, e99_57, e99_58, e99_60, e99_63, e99_66, e99_69, e99_70, e99_73, e99_75, e99_78, e99_80, e99_82, e99_83, e99_86, e99_88, e99_90, e99_93, e99_95, e99_97, e99_99, e99_101, e99_104, e99_107, e99_108, e99_111, e99_113, e99_116, e99_117, e99_119, e99_122, am_bd_some, Option.toList_some, Option.toList_none, List.cons_append, List.nil_append, am_w8_0, am_w8_1, am_w8_2, am_w8_3, am_w8_4, eq_self, or_true, true_or, am_kd_sI, am_kd_sL, am_kd_sR, am_tc_sI, am_tc_sL, am_tc_sR, am_len_sI, am_len_sL, am_len_sR, am_rfs, if_true, if_false, am_rdL_sI, am_rR_sL, am_rt_cq, am_kd_cq, am_tc_cq, am_len_cq, am_rd_sL, am_rd_sR, am_rdL_sR, m, q_n2]
  · rw [if_neg ca] at dh ⊢
    refine ⟨h, q_wk.rf ok, ?_⟩
    simp only [e99_0, e99_1, e99_4, e99_5, e99_6, e99_9, e99_12, e99_13, e99_14, e99_15, e99_18, e99_21, e99_22f, e99_22d, e99_22b, e99_22l, e99_22t, e99_23, e99_24, e99_25, e99_28, e99_29, e99_32, e99_33, e99_35, e99_36, e99_38, e99_39, e99_43, e99_45, e99_48, e99_49, e99_51, e99_54, e99_57, e99_58, e99_60, e99_63, e99_66, e99_69, e99_70, e99_73, e99_75, e99_78, e99_80, e99_82, e99_83, e99_86, e99_88, e99_90, e99_93, e99_95, e99_97, e99_99, e99_101, e99_104, e99_107, e99_108, e99_111, e99_113, e99_116, e99_117, e99_119, e99_122, am_bd_some, Option.toList_some, Option.toList_none, List.cons_append, List.nil_append, am_w8_0, am_w8_1, am_w8_2, am_w8_3, am_w8_4, eq_self, or_true, true_or, am_kd_sI, am_kd_sL, am_kd_sR, am_tc_sI, am_tc_sL, am_tc_sR, am_len_sI, am_len_sL, am_len_sR, am_rfs, if_true, if_false, am_rdL_sI, am_rR_sL, am_rt_cq, am_kd_cq, am_tc_cq, am_len_cq, am_rd_sL, am_rd_sR, am_rdL_sR, okK_0 ok, okR_0_0 ok, okK_1 ok, dh, not_true]
theorem den_mmid {A : q_All} {h : am_H} (H : q_Rel A h) (a st : Int32) : ∃ h' : am_H, q_wk h h' ∧ am_den 275 [.ref 211, .int a, .int st] h = some (some (.int (q_midA A a st)), h') := by
  have ok := H.1
  have h0 := H.2.1
  obtain ⟨c1, c2, c3⟩ := H.cnt 0 (by decide)
  have y : ¬ (1 : Int32) = 0 := by decide
  show ∃ h' : am_H, q_wk h h' ∧ am_ev 275 0 [some (.ref 211), some (.int a), some (.int st), none, none, none, none, none] [] h = _
  unfold q_midA
  by_cases ca : 0 ≤ a ∧ a < nI (A.2.1 0)
  · rw [if_pos ca]
    obtain ⟨i, hi, rfl⟩ := q_in2 c1 ca
    obtain ⟨fk, cF, fm⟩ := H.fl i hi
    have z : (nI i).toNatClampNeg = i := nI_clamp (by omega)
    obtain ⟨h1, f1, e24, g1, s1⟩ := den_hand1 h ok i (by omega) _ fk fm (A.2.1 0) c1 hi c3
    obtain ⟨z6, z7, s2⟩ := q_mid_m h1 _ fk g1 (nI i) st (F_w (A.2.2.1 i) * F_h (A.2.2.1 i)) 0 none none none (by omega) (fun b v w => by cases w)
    have ce : (List.range' 0 (F_w (A.2.2.1 i) * F_h (A.2.2.1 i))).foldl (fun s m => F_md (A.2.2.1 i) s (q_cell (F_w (A.2.2.1 i)) m)) none = q_MR (A.2.2.1 i) := by
      rw [← List.range_eq_range']
      rfl
    have q1 : q_n1 (A.2.2.1 i) none = -1 := rfl
    have q2 : nI (q_n2 none) = 1000000 := rfl
    rw [ce, nI_0, q1, q2] at s2
    refine ⟨h1, f1.wk ok, ?_⟩
    rw [z]
    have s0 : am_ev 275 0 [some (.ref 211), some (.int (nI i)), some (.int st), none, none, none, none, none] [] h = am_ev 275 25 [some (.ref 211), some (.int (nI i)), some (.int st), some (.int (-1)), some (.int 1000000), some (.int 0), none, none] [] h1 := by
      simp only [e275_0, e275_1, e275_2, e275_5, e275_6, e275_7, e275_10, e275_13, e275_14, e275_15, e275_16, e275_17, e275_20, e275_22, e275_23, e275_27, e275_28, e275_31, e275_34, e275_35, e275_38, e275_40, e275_40z, e275_41, e275_44, e275_47, e275_50, e275_51, e275_53, e275_54, e275_56, e275_58, e275_59, e275_62, e275_65, e275_67, e275_68, e275_70, e275_71, e275_74, e275_76, e275_77, e275_80, e275_81, e275_83, e275_86, e275_89, e275_91, e275_93, e275_96, e275_98, e275_101, e275_102, e275_103, e275_105, e275_107, e275_110, e275_112, e275_115, e275_118, e275_119, e275_122, e275_124, e275_127, e275_128, am_bd_some, Option.toList_some, Option.toList_none, List.cons_append, List.nil_append, am_w8_0, am_w8_1, am_w8_2, am_w8_3, am_w8_4, eq_self, or_true, true_or, am_kd_sI, am_kd_sL, am_kd_sR, am_tc_sI, am_tc_sL, am_tc_sR, am_len_sI, am_len_sL, am_len_sR, am_rfs, if_true, if_false, am_rdL_sI, am_rR_sL, am_rt_cq, am_kd_cq, am_tc_cq, am_len_cq, am_rd_sL, am_rd_sR, am_rdL_sR, okK_211 ok, am_sI_id h0, s1, y, not_false_eq_true]
    rw [s0, s2]
    by_cases m : st = 0
    · simp only [e275_0, e275_1, e275_2, e275_5, e275_6, e275_7, e275_10, e275_13, e275_14, e275_15, e275_16, e275_17, e275_20, e275_22, e275_23, e275_27, e275_28, e275_31, e275_34, e275_35, e275_38, e275_40, e275_40z, e275_41, e275_44, e275_47, e275_50, e275_51, e275_53, e275_54, e275_56, e275_58, e275_59, e275_62, e275_65, e275_67, e275_68, e275_70, e275_71, e275_74, e275_76, e275_77, e275_80, e275_81, e275_83, e275_86, e275_89, e275_91, e275_93, e275_96, e275_98, e275_101, e275_102, e275_103, e275_105, e275_107, e275_110, e275_112, e275_115, e275_118, e275_119, e275_122, e275_124, e275_127, e275_128, am_bd_some, Option.toList_some, Option.toList_none, List.cons_append, List.nil_append, am_w8_0, am_w8_1, am_w8_2, am_w8_3, am_w8_4, eq_self, or_true, true_or, am_kd_sI, am_kd_sL, am_kd_sR, am_tc_sI, am_tc_sL, am_tc_sR, am_len_sI, am_len_sL, am_len_sR, am_rfs, if_true, if_false, am_rdL_sI, am_rR_sL, am_rt_cq, am_kd_cq, am_tc_cq, am_len_cq, am_rd_sL, am_rd_sR, am_rdL_sR, m]
    · simp only [e275_0, e275_1, e275_2, e275_5, e275_6, e275_7, e275_10, e275_13, e275_14, e275_15, e275_16, e275_17, e275_20, e275_22, e275_23, e275_27, e275_28, e275_31, e275_34, e275_35, e275_38, e275_40, e275_40z, e275_41, e275_44, e275_47, e275_50, e275_51, e275_53, e275_54, e275_56, e275_58, e275_59, e275_62, e275_65, e275_67, e275_68, e275_70, e275_71, e275_74, e275_76, e275_77, e275_80, e275_81, e275_83, e275_86, e275_89, e275_91, e275_93, e275_96, e275_98, e275_101, e275_102, e275_103, e275_105, e275_107, e275_110, e275_112, e275_115, e275_118, e275_119, e275_122, e275_124, e275_127, e275_128, am_bd_some, Option.toList_some, Option.toList_none, List.cons_append, List.nil_append, am_w8_0, am_w8_1, am_w8_2, am_w8_3, am_w8_4, eq_self, or_true, true_or, am_kd_sI, am_kd_sL, am_kd_sR, am_tc_sI, am_tc_sL, am_tc_sR, am_len_sI, am_len_sL, am_len_sR, am_rfs, if_true, if_false, am_rdL_sI, am_rR_sL, am_rt_cq, am_kd_cq, am_tc_cq, am_len_cq, am_rd_sL, am_rd_sR, am_rdL_sR, m]
  · rw [if_neg ca]
    have s0 := den_hand0 h ok (A.2.1 0) c1 c3 a ca
    refine ⟨h, q_wk.rf ok, ?_⟩
    simp only [e275_0, e275_1, e275_2, e275_5, e275_6, e275_7, e275_10, e275_13, e275_14, e275_15, e275_16, e275_17, e275_20, e275_22, e275_23, e275_27, e275_28, e275_31, e275_34, e275_35, e275_38, e275_40, e275_40z, e275_41, e275_44, e275_47, e275_50, e275_51, e275_53, e275_54, e275_56, e275_58, e275_59, e275_62, e275_65, e275_67, e275_68, e275_70, e275_71, e275_74, e275_76, e275_77, e275_80, e275_81, e275_83, e275_86, e275_89, e275_91, e275_93, e275_96, e275_98, e275_101, e275_102, e275_103, e275_105, e275_107, e275_110, e275_112, e275_115, e275_118, e275_119, e275_122, e275_124, e275_127, e275_128, am_bd_some, Option.toList_some, Option.toList_none, List.cons_append, List.nil_append, am_w8_0, am_w8_1, am_w8_2, am_w8_3, am_w8_4, eq_self, or_true, true_or, am_kd_sI, am_kd_sL, am_kd_sR, am_tc_sI, am_tc_sL, am_tc_sR, am_len_sI, am_len_sL, am_len_sR, am_rfs, if_true, if_false, am_rdL_sI, am_rR_sL, am_rt_cq, am_kd_cq, am_tc_cq, am_len_cq, am_rd_sL, am_rd_sR, am_rdL_sR, okK_211 ok, am_sI_id h0, s0, not_true]
theorem ly_22 : ly_p22 := fun a st _ => pr_wk (fun A => q_midA A a st) (fun A h H => den_cmid H a st) (fun A h H => den_mmid H a st)
