/-! part 66: middle, the pair -/
def q_n1 (f : q_Fl) (s : Option (Nat × Nat)) : Int32 := match s with
  | none => -1
  | some (c, _) => nI (q_nm f c)
def q_n2 (s : Option (Nat × Nat)) : Nat := match s with
  | none => 1000000
  | some (_, v) => v
theorem q_mid_s (h : am_H) (f : q_Fl) (fk : F_ok f) (mg : q_mg h f (G_0 f)) (a1 st x3 x4 : Int32) (t base : Nat) (ht : F_in f t) (hb0 : base ≤ 1000000) : ∀ r b, b + r = F_n f → am_ev 275 56 [some (.ref 211), some (.int a1), some (.int st), some (.int x3), some (.int x4), some (.int (nI (q_nm f t))), some (.int (nI (base + G_sum (G_0 f) t b))), some (.int (nI b))] [] h = am_ev 275 89 [some (.ref 211), some (.int a1), some (.int st), some (.int x3), some (.int x4), some (.int (nI (q_nm f t))), some (.int (nI (base + G_sum (G_0 f) t (F_n f)))), some (.int (nI (F_n f)))] [] h := by
  have wf := fk.wf
  have n6 := wf.2.2.2.1
  have ok := mg.1.1
  have a5 := mg.1.2.2.2.2.2.1
  have ea := mg.2.2.1
  have i0 := G_0_in fk
  intro r
  induction r with
  | zero =>
    intro b hb
    obtain rfl : b = F_n f := by omega
    have h1 : nI (F_n f) ≤ nI (F_n f) := Int32.le_refl _
    rw [e275_56]
    simp only [e275_0, e275_1, e275_2, e275_5, e275_6, e275_7, e275_10, e275_13, e275_14, e275_15, e275_16, e275_17, e275_20, e275_22, e275_23, e275_25, e275_27, e275_28, e275_31, e275_34, e275_35, e275_38, e275_40, e275_40z, e275_41, e275_44, e275_47, e275_50, e275_51, e275_53, e275_54, e275_58, e275_59, e275_62, e275_65, e275_67, e275_68, e275_70, e275_71, e275_74, e275_76, e275_77, e275_80, e275_81, e275_83, e275_86, e275_91, e275_93, e275_96, e275_98, e275_101, e275_102, e275_103, e275_105, e275_107, e275_110, e275_112, e275_115, e275_118, e275_119, e275_122, e275_124, e275_127, e275_128, am_bd_some, Option.toList_some, Option.toList_none, List.cons_append, List.nil_append, am_w8_0, am_w8_1, am_w8_2, am_w8_3, am_w8_4, eq_self, or_true, true_or, am_kd_sI, am_kd_sL, am_kd_sR, am_tc_sI, am_tc_sL, am_tc_sR, am_len_sI, am_len_sL, am_len_sR, am_rfs, if_true, if_false, am_rdL_sI, am_rR_sL, am_rt_cq, am_kd_cq, am_tc_cq, am_len_cq, am_rd_sL, am_rd_sR, am_rdL_sR, okK_211 ok, a5, h1]
  | succ r ih =>
    intro b hb
    have h1 : ¬ nI (F_n f) ≤ nI b := nI_ge (by omega) (by omega)
    have x : am_ix (nI b) 6 = true := am_ix_nI (by omega) (by decide)
    have z : (nI b).toNatClampNeg = b := nI_clamp (by omega)
    have v := ea b (by omega)
    have da := den_msteps h f mg.1 wf t (G_at (G_0 f) b) ht (i0.2.2 b (by omega))
    have s : nI (base + G_sum (G_0 f) t b) + nI (q_dist t (G_at (G_0 f) b)) = nI (base + G_sum (G_0 f) t (b + 1)) := by
      rw [nI_add]
      congr 1
      show _ = base + (G_sum (G_0 f) t b + q_dist (G_at (G_0 f) (0 + b)) t)
      rw [Nat.zero_add, q_dist_s t]
      omega
    rw [e275_56]
    simp only [e275_0, e275_1, e275_2, e275_5, e275_6, e275_7, e275_10, e275_13, e275_14, e275_15, e275_16, e275_17, e275_20, e275_22, e275_23, e275_25, e275_27, e275_28, e275_31, e275_34, e275_35, e275_38, e275_40, e275_40z, e275_41, e275_44, e275_47, e275_50, e275_51, e275_53, e275_54, e275_58, e275_59, e275_62, e275_65, e275_67, e275_68, e275_70, e275_71, e275_74, e275_76, e275_77, e275_80, e275_81, e275_83, e275_86, e275_91, e275_93, e275_96, e275_98, e275_101, e275_102, e275_103, e275_105, e275_107, e275_110, e275_112, e275_115, e275_118, e275_119, e275_122, e275_124, e275_127, e275_128, am_bd_some, Option.toList_some, Option.toList_none, List.cons_append, List.nil_append, am_w8_0, am_w8_1, am_w8_2, am_w8_3, am_w8_4, eq_self, or_true, true_or, am_kd_sI, am_kd_sL, am_kd_sR, am_tc_sI, am_tc_sL, am_tc_sR, am_len_sI, am_len_sL, am_len_sR, am_rfs, if_true, if_false, am_rdL_sI, am_rR_sL, am_rt_cq, am_kd_cq, am_tc_cq, am_len_cq, am_rd_sL, am_rd_sR, am_rdL_sR, okK_211 ok, okR_211_36 ok, okT_225 ok, okL_225 ok, a5, h1, x, z, v, da, s, nI_1]
    exact ih (b + 1) (by omega)
theorem q_mid_m (h : am_H) (f : q_Fl) (fk : F_ok f) (mg : q_mg h f (G_0 f)) (a1 st : Int32) : ∀ (r m : Nat) (s : Option (Nat × Nat)) (z6 z7 : Option Value), m + r = F_w f * F_h f → (∀ b v, s = some (b, v) → v < 1000) → ∃ z6' z7' : Option Value, am_ev 275 25 [some (.ref 211), some (.int a1), some (.int st), some (.int (q_n1 f s)), some (.int (nI (q_n2 s))), some (.int (nI m)), z6, z7] [] h = am_ev 275 118 [some (.ref 211), some (.int a1), some (.int st), some (.int (q_n1 f ((List.range' m r).foldl (fun s m => F_md f s (q_cell (F_w f) m)) s))), some (.int (nI (q_n2 ((List.range' m r).foldl (fun s m => F_md f s (q_cell (F_w f) m)) s)))), some (.int (nI (F_w f * F_h f))), z6', z7'] [] h := by
  have wf := fk.wf
  have n6 := wf.2.2.2.1
  have c64 := wf.c64
  have ok := mg.1.1
  have a2 := mg.1.2.2.1
  have a6 := mg.1.2.2.2.2.2.2.1
  intro r
  induction r with
  | zero =>
    intro m s z6 z7 hm hs
    obtain rfl : m = F_w f * F_h f := by omega
    have h1 : nI (F_w f * F_h f) ≤ nI (F_w f * F_h f) := Int32.le_refl _
    refine ⟨z6, z7, ?_⟩
    rw [e275_25]
    simp only [e275_0, e275_1, e275_2, e275_5, e275_6, e275_7, e275_10, e275_13, e275_14, e275_15, e275_16, e275_17, e275_20, e275_22, e275_23, e275_27, e275_28, e275_31, e275_34, e275_35, e275_38, e275_40, e275_40z, e275_41, e275_44, e275_47, e275_50, e275_51, e275_53, e275_54, e275_56, e275_58, e275_59, e275_62, e275_65, e275_67, e275_68, e275_70, e275_71, e275_74, e275_76, e275_77, e275_80, e275_81, e275_83, e275_86, e275_89, e275_91, e275_93, e275_96, e275_98, e275_101, e275_102, e275_103, e275_105, e275_107, e275_110, e275_112, e275_115, e275_119, e275_122, e275_124, e275_127, e275_128, am_bd_some, Option.toList_some, Option.toList_none, List.cons_append, List.nil_append, am_w8_0, am_w8_1, am_w8_2, am_w8_3, am_w8_4, eq_self, or_true, true_or, am_kd_sI, am_kd_sL, am_kd_sR, am_tc_sI, am_tc_sL, am_tc_sR, am_len_sI, am_len_sL, am_len_sR, am_rfs, if_true, if_false, am_rdL_sI, am_rR_sL, am_rt_cq, am_kd_cq, am_tc_cq, am_len_cq, am_rd_sL, am_rd_sR, am_rdL_sR, okK_211 ok, a2, h1, List.range'_zero, List.foldl_nil]
  | succ r ih =>
    intro m s z6 z7 hm hs
    have h1 : ¬ nI (F_w f * F_h f) ≤ nI m := nI_ge (by omega) (by omega)
    obtain ⟨ci, cn⟩ := q_cell_in wf (m := m) (by omega)
    have x : am_ix (nI m) 64 = true := am_ix_nI (by omega) (by decide)
    have z : (nI m).toNatClampNeg = m := nI_clamp (by omega)
    have wv := a6 _ ci
    rw [cn] at wv
    have sl := G_sum_lt (G_0_in fk) ci.1 (F_n f) (Nat.le_refl _)
    have n2 : q_n2 s ≤ 1000000 := by
      cases s with
      | none => exact Nat.le_refl _
      | some p => obtain ⟨b, v⟩ := p; have := hs b v rfl; show v ≤ _; omega
    have yt : ¬ q_bi true = 0 := by decide
    have yf : q_bi false = 0 := rfl
    have hs' : ∀ b v, F_md f s (q_cell (F_w f) m) = some (b, v) → v < 1000 := by
      intro b v w
      unfold F_md at w
      split at w
      · exact hs b v w
      · split at w
        · cases w; omega
        · rename_i b0 v0
          split at w
          · cases w; omega
          · exact hs b v w
    have key : ∀ base : Nat, base = (if F_wall f (q_cell (F_w f) m) = true then 1000000 else 0) → (if nI (q_n2 s) ≤ nI (base + G_sum (G_0 f) (q_cell (F_w f) m) (F_n f)) then q_n1 f s else nI m) = q_n1 f (F_md f s (q_cell (F_w f) m)) ∧ min (q_n2 s) (base + G_sum (G_0 f) (q_cell (F_w f) m) (F_n f)) = q_n2 (F_md f s (q_cell (F_w f) m)) := by
      intro base hb
      have cm : nI (q_n2 s) ≤ nI (base + G_sum (G_0 f) (q_cell (F_w f) m) (F_n f)) ↔ q_n2 s ≤ base + G_sum (G_0 f) (q_cell (F_w f) m) (F_n f) := nI_leI (by omega) (by split at hb <;> omega)
      unfold F_md
      cases hw : F_wall f (q_cell (F_w f) m) with
      | true =>
        rw [hw, if_pos rfl] at hb
        rw [if_pos rfl, if_pos (cm.mpr (by omega))]
        exact ⟨rfl, by omega⟩
      | false =>
        rw [hw, if_neg (by decide)] at hb
        rw [if_neg (show ¬ (false = true) by decide)]
        cases s with
        | none =>
          have e : q_n2 none = 1000000 := rfl
          rw [e] at cm ⊢
          rw [if_neg (fun w => by have := cm.mp w; omega)]
          refine ⟨?_, ?_⟩
          · show nI m = nI (q_nm f (q_cell (F_w f) m))
            rw [cn]
          · show _ = G_sum (G_0 f) (q_cell (F_w f) m) (F_n f)
            omega
        | some p =>
          obtain ⟨b, v⟩ := p
          have e : q_n2 (some (b, v)) = v := rfl
          rw [e] at cm ⊢
          by_cases c : G_sum (G_0 f) (q_cell (F_w f) m) (F_n f) < v
          · rw [if_neg (fun w => by have := cm.mp w; omega)]
            show nI m = q_n1 f (if G_sum (G_0 f) (q_cell (F_w f) m) (F_n f) < v then some (q_cell (F_w f) m, G_sum (G_0 f) (q_cell (F_w f) m) (F_n f)) else some (b, v)) ∧ _ = q_n2 (if G_sum (G_0 f) (q_cell (F_w f) m) (F_n f) < v then some (q_cell (F_w f) m, G_sum (G_0 f) (q_cell (F_w f) m) (F_n f)) else some (b, v))
            rw [if_pos c]
            refine ⟨?_, ?_⟩
            · show nI m = nI (q_nm f (q_cell (F_w f) m))
              rw [cn]
            · show _ = G_sum (G_0 f) (q_cell (F_w f) m) (F_n f)
              omega
          · rw [if_pos (cm.mpr (by omega))]
            show q_n1 f (some (b, v)) = q_n1 f (if G_sum (G_0 f) (q_cell (F_w f) m) (F_n f) < v then some (q_cell (F_w f) m, G_sum (G_0 f) (q_cell (F_w f) m) (F_n f)) else some (b, v)) ∧ _ = q_n2 (if G_sum (G_0 f) (q_cell (F_w f) m) (F_n f) < v then some (q_cell (F_w f) m, G_sum (G_0 f) (q_cell (F_w f) m) (F_n f)) else some (b, v))
            rw [if_neg c]
            exact ⟨rfl, by show _ = v; omega⟩
    rw [List.range'_succ, List.foldl_cons, e275_25]
    cases hw : F_wall f (q_cell (F_w f) m) with
    | true =>
      rw [hw] at wv
      obtain ⟨k1, k2⟩ := key 1000000 (by rw [hw]; rfl)
      have ls := q_mid_s h f fk mg a1 st (q_n1 f s) (nI (q_n2 s)) (q_cell (F_w f) m) 1000000 ci (by omega) (F_n f) 0 (by omega)
      rw [cn, nI_0, show nI (1000000 + G_sum (G_0 f) (q_cell (F_w f) m) 0) = 1000000 from rfl] at ls
      have mn := q_imin2 (a := q_n2 s) (b := 1000000 + G_sum (G_0 f) (q_cell (F_w f) m) (F_n f)) (by omega) (by omega)
      rw [k2] at mn
      obtain ⟨z6', z7', s2⟩ := ih (m + 1) _ (some (.int (nI (1000000 + G_sum (G_0 f) (q_cell (F_w f) m) (F_n f))))) (some (.int (nI (F_n f)))) (by omega) hs'
      refine ⟨z6', z7', ?_⟩
      simp only [e275_0, e275_1, e275_2, e275_5, e275_6, e275_7, e275_10, e275_13, e275_14, e275_15, e275_16, e275_17, e275_20, e275_22, e275_23, e275_27, e275_28, e275_31, e275_34, e275_35, e275_38, e275_40, e275_40z, e275_41, e275_44, e275_47, e275_50, e275_51, e275_53, e275_54, e275_58, e275_59, e275_62, e275_65, e275_67, e275_68, e275_70, e275_71, e275_74, e275_76, e275_77, e275_80, e275_81, e275_83, e275_86, e275_91, e275_93, e275_96, e275_98, e275_101, e275_102, e275_103, e275_105, e275_107, e275_110, e275_112, e275_115, e275_119, e275_122, e275_124, e275_127, e275_128, am_bd_some, Option.toList_some, Option.toList_none, List.cons_append, List.nil_append, am_w8_0, am_w8_1, am_w8_2, am_w8_3, am_w8_4, eq_self, or_true, true_or, am_kd_sI, am_kd_sL, am_kd_sR, am_tc_sI, am_tc_sL, am_tc_sR, am_len_sI, am_len_sL, am_len_sR, am_rfs, if_true, if_false, am_rdL_sI, am_rR_sL, am_rt_cq, am_kd_cq, am_tc_cq, am_len_cq, am_rd_sL, am_rd_sR, am_rdL_sR, okK_211 ok, okR_211_34 ok, okT_223 ok, okL_223 ok, a2, h1, x, z, wv, yt]
      rw [ls]
      rw [← k1] at s2
      by_cases c : nI (q_n2 s) ≤ nI (1000000 + G_sum (G_0 f) (q_cell (F_w f) m) (F_n f))
      · rw [if_pos c] at s2
        simp only [e275_0, e275_1, e275_2, e275_5, e275_6, e275_7, e275_10, e275_13, e275_14, e275_15, e275_16, e275_17, e275_20, e275_22, e275_23, e275_27, e275_28, e275_31, e275_34, e275_35, e275_38, e275_40, e275_40z, e275_41, e275_44, e275_47, e275_50, e275_51, e275_53, e275_54, e275_58, e275_59, e275_62, e275_65, e275_67, e275_68, e275_70, e275_71, e275_74, e275_76, e275_77, e275_80, e275_81, e275_83, e275_86, e275_89, e275_91, e275_93, e275_96, e275_98, e275_101, e275_102, e275_103, e275_105, e275_107, e275_110, e275_112, e275_115, e275_119, e275_122, e275_124, e275_127, e275_128, am_bd_some, Option.toList_some, Option.toList_none, List.cons_append, List.nil_append, am_w8_0, am_w8_1, am_w8_2, am_w8_3, am_w8_4, eq_self, or_true, true_or, am_kd_sI, am_kd_sL, am_kd_sR, am_tc_sI, am_tc_sL, am_tc_sR, am_len_sI, am_len_sL, am_len_sR, am_rfs, if_true, if_false, am_rdL_sI, am_rR_sL, am_rt_cq, am_kd_cq, am_tc_cq, am_len_cq, am_rd_sL, am_rd_sR, am_rdL_sR, c, den_lesser, mn, nI_1]
        exact s2
      · rw [if_neg c] at s2
        simp only [e275_0, e275_1, e275_2, e275_5, e275_6, e275_7, e275_10, e275_13, e275_14, e275_15, e275_16, e275_17, e275_20, e275_22, e275_23, e275_27, e275_28, e275_31, e275_34, e275_35, e275_38, e275_40, e275_40z, e275_41, e275_44, e275_47, e275_50, e275_51, e275_53, e275_54, e275_58, e275_59, e275_62, e275_65, e275_67, e275_68, e275_70, e275_71, e275_74, e275_76, e275_77, e275_80, e275_81, e275_83, e275_86, e275_89, e275_91, e275_93, e275_96, e275_98, e275_101, e275_102, e275_103, e275_105, e275_107, e275_110, e275_112, e275_115, e275_119, e275_122, e275_124, e275_127, e275_128, am_bd_some, Option.toList_some, Option.toList_none, List.cons_append, List.nil_append, am_w8_0, am_w8_1, am_w8_2, am_w8_3, am_w8_4, eq_self, or_true, true_or, am_kd_sI, am_kd_sL, am_kd_sR, am_tc_sI, am_tc_sL, am_tc_sR, am_len_sI, am_len_sL, am_len_sR, am_rfs, if_true, if_false, am_rdL_sI, am_rR_sL, am_rt_cq, am_kd_cq, am_tc_cq, am_len_cq, am_rd_sL, am_rd_sR, am_rdL_sR, c, den_lesser, mn, nI_1]
        exact s2
    | false =>
      rw [hw] at wv
      obtain ⟨k1, k2⟩ := key 0 (by rw [hw]; rfl)
      have ls := q_mid_s h f fk mg a1 st (q_n1 f s) (nI (q_n2 s)) (q_cell (F_w f) m) 0 ci (by omega) (F_n f) 0 (by omega)
      rw [cn, nI_0, show nI (0 + G_sum (G_0 f) (q_cell (F_w f) m) 0) = 0 from rfl] at ls
      have mn := q_imin2 (a := q_n2 s) (b := 0 + G_sum (G_0 f) (q_cell (F_w f) m) (F_n f)) (by omega) (by omega)
      rw [k2] at mn
      obtain ⟨z6', z7', s2⟩ := ih (m + 1) _ (some (.int (nI (0 + G_sum (G_0 f) (q_cell (F_w f) m) (F_n f))))) (some (.int (nI (F_n f)))) (by omega) hs'
      refine ⟨z6', z7', ?_⟩
      simp only [e275_0, e275_1, e275_2, e275_5, e275_6, e275_7, e275_10, e275_13, e275_14, e275_15, e275_16, e275_17, e275_20, e275_22, e275_23, e275_27, e275_28, e275_31, e275_34, e275_35, e275_38, e275_40, e275_40z, e275_41, e275_44, e275_47, e275_50, e275_51, e275_53, e275_54, e275_58, e275_59, e275_62, e275_65, e275_67, e275_68, e275_70, e275_71, e275_74, e275_76, e275_77, e275_80, e275_81, e275_83, e275_86, e275_91, e275_93, e275_96, e275_98, e275_101, e275_102, e275_103, e275_105, e275_107, e275_110, e275_112, e275_115, e275_119, e275_122, e275_124, e275_127, e275_128, am_bd_some, Option.toList_some, Option.toList_none, List.cons_append, List.nil_append, am_w8_0, am_w8_1, am_w8_2, am_w8_3, am_w8_4, eq_self, or_true, true_or, am_kd_sI, am_kd_sL, am_kd_sR, am_tc_sI, am_tc_sL, am_tc_sR, am_len_sI, am_len_sL, am_len_sR, am_rfs, if_true, if_false, am_rdL_sI, am_rR_sL, am_rt_cq, am_kd_cq, am_tc_cq, am_len_cq, am_rd_sL, am_rd_sR, am_rdL_sR, okK_211 ok, okR_211_34 ok, okT_223 ok, okL_223 ok, a2, h1, x, z, wv, yf]
      rw [ls]
      rw [← k1] at s2
      by_cases c : nI (q_n2 s) ≤ nI (0 + G_sum (G_0 f) (q_cell (F_w f) m) (F_n f))
      · rw [if_pos c] at s2
        simp only [e275_0, e275_1, e275_2, e275_5, e275_6, e275_7, e275_10, e275_13, e275_14, e275_15, e275_16, e275_17, e275_20, e275_22, e275_23, e275_27, e275_28, e275_31, e275_34, e275_35, e275_38, e275_40, e275_40z, e275_41, e275_44, e275_47, e275_50, e275_51, e275_53, e275_54, e275_58, e275_59, e275_62, e275_65, e275_67, e275_68, e275_70, e275_71, e275_74, e275_76, e275_77, e275_80, e275_81, e275_83, e275_86, e275_89, e275_91, e275_93, e275_96, e275_98, e275_101, e275_102, e275_103, e275_105, e275_107, e275_110, e275_112, e275_115, e275_119, e275_122, e275_124, e275_127, e275_128, am_bd_some, Option.toList_some, Option.toList_none, List.cons_append, List.nil_append, am_w8_0, am_w8_1, am_w8_2, am_w8_3, am_w8_4, eq_self, or_true, true_or, am_kd_sI, am_kd_sL, am_kd_sR, am_tc_sI, am_tc_sL, am_tc_sR, am_len_sI, am_len_sL, am_len_sR, am_rfs, if_true, if_false, am_rdL_sI, am_rR_sL, am_rt_cq, am_kd_cq, am_tc_cq, am_len_cq, am_rd_sL, am_rd_sR, am_rdL_sR, c, den_lesser, mn, nI_1]
        exact s2
      · rw [if_neg c] at s2
        simp only [e275_0, e275_1, e275_2, e275_5, e275_6, e275_7, e275_10, e275_13, e275_14, e275_15, e275_16, e275_17, e275_20, e275_22, e275_23, e275_27, e275_28, e275_31, e275_34, e275_35, e275_38, e275_40, e275_40z, e275_41, e275_44, e275_47, e275_50, e275_51, e275_53, e275_54, e275_58, e275_59, e275_62, e275_65, e275_67, e275_68, e275_70, e275_71, e275_74, e275_76, e275_77, e275_80, e275_81, e275_83, e275_86, e275_89, e275_91, e275_93, e275_96, e275_98, e275_101, e275_102, e275_103, e275_105, e275_107, e275_110, e275_112, e275_115, e275_119, e275_122, e275_124, e275_127, e275_128, am_bd_some, Option.toList_some, Option.toList_none, List.cons_append, List.nil_append, am_w8_0, am_w8_1, am_w8_2, am_w8_3, am_w8_4, eq_self, or_true, true_or, am_kd_sI, am_kd_sL, am_kd_sR, am_tc_sI, am_tc_sL, am_tc_sR, am_len_sI, am_len_sL, am_len_sR, am_rfs, if_true, if_false, am_rdL_sI, am_rR_sL, am_rt_cq, am_kd_cq, am_tc_cq, am_len_cq, am_rd_sL, am_rd_sR, am_rdL_sR, c, den_lesser, mn, nI_1]
        exact s2
