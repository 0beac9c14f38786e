/-! part 86: nearest -/
theorem den_cellOf0 (h : am_H) (o : Nat) (f : q_Fl) (cf : q_cf h o f) (wf : F_wf f) (v : Int32) (hv : v < 0) : am_den 69 [.ref o, .int v] h = some (some (.int (-1)), h) := by
  obtain ⟨fo, c0, c1, -⟩ := cf
  obtain ⟨⟨w1, w2⟩, -⟩ := wf
  have l1 : ¬ nI (F_w f) < 1 := fun t => by have := (nI_ltI (b := 1) (by omega) (by decide)).mp t; omega
  show am_ev 69 0 [some (.ref o), some (.int v)] [] h = _
  simp only [e69_0, e69_1, e69_4, e69_5, e69_8, e69_9, e69_12, e69_13, e69_14, e69_17, e69_18, e69_21, e69_22, e69_25, e69_26, e69_27, e69_29, e69_30, e69_31, e69_34, e69_35, e69_36, e69_37, e69_38, e69_41, e69_42, e69_43, am_bd_some, Option.toList_some, Option.toList_none, List.cons_append, List.nil_append, am_w8_0, am_w8_1, am_w8_2, am_w8_3, am_w8_4, eq_self, or_true, true_or, am_kd_sI, am_kd_sL, am_kd_sR, am_tc_sI, am_tc_sL, am_tc_sR, am_len_sI, am_len_sL, am_len_sR, am_rfs, if_true, if_false, am_rdL_sI, am_rR_sL, am_rt_cq, am_kd_cq, am_tc_cq, am_len_cq, am_rd_sL, am_rd_sR, am_rdL_sR, fo.1, c0, l1, hv]
/-- the nearest beast so far, with its steps -/
def F_nr (D : Nat → Option Nat) (f : q_Fl) (s : Option (Nat × Nat)) (b : Nat) : Option (Nat × Nat) := match D (F_cell f b) with
  | none => s
  | some n => match s with
    | none => some (b, n)
    | some (b0, v) => if n < v then some (b, n) else some (b0, v)
theorem F_nr_0 {D : Nat → Option Nat} {f : q_Fl} {s : Option (Nat × Nat)} {b : Nat} (h : D (F_cell f b) = none) : F_nr D f s b = s := by
  unfold F_nr
  rw [h]
theorem F_nr_1 {D : Nat → Option Nat} {f : q_Fl} {b n : Nat} (h : D (F_cell f b) = some n) : F_nr D f none b = some (b, n) := by
  unfold F_nr
  rw [h]
theorem F_nr_2 {D : Nat → Option Nat} {f : q_Fl} {b n b0 v : Nat} (h : D (F_cell f b) = some n) (l : n < v) : F_nr D f (some (b0, v)) b = some (b, n) := by
  unfold F_nr
  rw [h]
  exact if_pos l
theorem F_nr_3 {D : Nat → Option Nat} {f : q_Fl} {b n b0 v : Nat} (h : D (F_cell f b) = some n) (l : ¬ n < v) : F_nr D f (some (b0, v)) b = some (b0, v) := by
  unfold F_nr
  rw [h]
  exact if_neg l
def q_w2 (s : Option (Nat × Nat)) : Nat := match s with
  | none => 1000
  | some (_, v) => v
theorem q_nr_c (o : Nat) (f : q_Fl) (fk : F_ok f) (s : Nat) (S : Nat → Nat) (h : am_H) (ok : am_okH h) (cF : q_cF h o f) (hS : ∀ v, F_in f v → h.1 200 v = nI (S v) ∧ ((S v = 1000 ∧ q_D f s v = none) ∨ (S v < 64 ∧ q_D f s v = some (S v)))) (a1 a2 st a5 : Int32) : ∀ (r b : Nat) (t : Option (Nat × Nat)) (z9 : Option Value), b + r = F_n f → (∀ b v, t = some (b, v) → b < 6 ∧ v < 64) → ∃ z9' : Option Value, am_ev 97 73 [some (.ref 0), some (.int a1), some (.int a2), some (.int st), some (.ref o), some (.int a5), some (.int (q_m1o t)), some (.int (nI (q_w2 t))), some (.int (nI b)), z9] [] h = am_ev 97 122 [some (.ref 0), some (.int a1), some (.int a2), some (.int st), some (.ref o), some (.int a5), some (.int (q_m1o ((List.range' b r).foldl (F_nr (q_D f s) f) t))), some (.int (nI (q_w2 ((List.range' b r).foldl (F_nr (q_D f s) f) t)))), some (.int (nI (F_n f))), z9'] [] h := by
  have wf := fk.wf
  have n6 := wf.2.2.2.1
  obtain ⟨cf, -, cc⟩ := cF
  have e5 := cf.2.2.2.2.2.1
  obtain ⟨fo1, fo2, fo3, fo4, fo5⟩ := cf.1
  intro r
  induction r with
  | zero =>
    intro b t z9 hb ht
    obtain rfl : b = F_n f := by omega
    have h1 : nI (F_n f) ≤ nI (F_n f) := Int32.le_refl _
    refine ⟨z9, ?_⟩
    rw [e97_73]
    simp only [e97_0, e97_1, e97_4, e97_5, e97_6, e97_9, e97_12, e97_13, e97_14, e97_15, e97_18, e97_21, e97_22f, e97_22d, e97_22b, e97_22l, e97_22t, e97_23, e97_25, e97_27, e97_28, e97_31, e97_33, e97_35, e97_36, e97_39, e97_41, e97_43, e97_46, e97_49, e97_50, e97_51, e97_52, e97_55, e97_57, e97_59, e97_62, e97_63, e97_65, e97_68, e97_70, e97_71, e97_75, e97_77, e97_80, e97_83, e97_84, e97_87, e97_90, e97_92, e97_95, e97_97, e97_98, e97_99, e97_101, e97_103, e97_105, e97_108, e97_110, e97_112, e97_114, e97_116, e97_119, e97_124, e97_125, e97_128, e97_129, e97_130, e97_131, e97_134, e97_136, e97_139, e97_141, am_bd_some, Option.toList_some, Option.toList_none, List.cons_append, List.nil_append, am_w8_0, am_w8_1, am_w8_2, am_w8_3, am_w8_4, eq_self, or_true, true_or, am_kd_sI, am_kd_sL, am_kd_sR, am_tc_sI, am_tc_sL, am_tc_sR, am_len_sI, am_len_sL, am_len_sR, am_rfs, if_true, if_false, am_rdL_sI, am_rR_sL, am_rt_cq, am_kd_cq, am_tc_cq, am_len_cq, am_rd_sL, am_rd_sR, am_rdL_sR, fo1, e5, h1, List.range'_zero, List.foldl_nil]
  | succ r ih =>
    intro b t z9 hb ht
    have h1 : ¬ nI (F_n f) ≤ nI b := nI_ge (by omega) (by omega)
    have x : am_ix (nI b) 6 = true := am_ix_nI (by omega) (by decide)
    have z : (nI b).toNatClampNeg = b := nI_clamp (by omega)
    have v := cc b (by omega)
    have ci := (fk.2.2.2.2.2.2.2.2.2.2.1 b (by omega)).2.1
    have c64 := ci.1
    have xc : am_ix (nI (F_cell f b)) 64 = true := am_ix_nI (by omega) (by decide)
    have zc : (nI (F_cell f b)).toNatClampNeg = F_cell f b := nI_clamp (by omega)
    obtain ⟨rS, hs⟩ := hS _ ci
    have tw : q_w2 t ≤ 1000 := by
      cases t with
      | none => exact Nat.le_refl _
      | some p => obtain ⟨b', v'⟩ := p; have := (ht b' v' rfl).2; show v' ≤ _; omega
    have sl : S (F_cell f b) ≤ 1000 := by omega
    have cm : nI (q_w2 t) ≤ nI (S (F_cell f b)) ↔ q_w2 t ≤ S (F_cell f b) := nI_leI (by omega) (by omega)
    rw [List.range'_succ, List.foldl_cons, e97_73]
    by_cases m : q_w2 t ≤ S (F_cell f b)
    · have m' := cm.mpr m
      have e : F_nr (q_D f s) f t b = t := by
        rcases hs with ⟨_, hd⟩ | ⟨hl, hd⟩
        · exact F_nr_0 hd
        · cases t with
          | none => exact absurd m (by show ¬ 1000 ≤ _; omega)
          | some p => obtain ⟨b', v'⟩ := p; exact F_nr_3 hd (by have : v' ≤ _ := m; omega)
      rw [e]
      obtain ⟨z', s2⟩ := ih (b + 1) t (some (.int (nI (S (F_cell f b))))) (by omega) ht
      refine ⟨z', ?_⟩
      simp only [e97_0, e97_1, e97_4, e97_5, e97_6, e97_9, e97_12, e97_13, e97_14, e97_15, e97_18, e97_21, e97_22f, e97_22d, e97_22b, e97_22l, e97_22t, e97_23, e97_25, e97_27, e97_28, e97_31, e97_33, e97_35, e97_36, e97_39, e97_41, e97_43, e97_46, e97_49, e97_50, e97_51, e97_52, e97_55, e97_57, e97_59, e97_62, e97_63, e97_65, e97_68, e97_70, e97_71, e97_75, e97_77, e97_80, e97_83, e97_84, e97_87, e97_90, e97_92, e97_95, e97_97, e97_98, e97_99, e97_101, e97_103, e97_105, e97_108, e97_110, e97_112, e97_114, e97_116, e97_119, e97_124, e97_125, e97_128, e97_129, e97_130, e97_131, e97_134, e97_136, e97_139, e97_141, am_bd_some, Option.toList_some, Option.toList_none, List.cons_append, List.nil_append, am_w8_0, am_w8_1, am_w8_2, am_w8_3, am_w8_4, eq_self, or_true, true_or, am_kd_sI, am_kd_sL, am_kd_sR, am_tc_sI, am_tc_sL, am_tc_sR, am_len_sI, am_len_sL, am_len_sR, am_rfs, if_true, if_false, am_rdL_sI, am_rR_sL, am_rt_cq, am_kd_cq, am_tc_cq, am_len_cq, am_rd_sL, am_rd_sR, am_rdL_sR, fo1, fo3, q_tc fo5, q_ln fo5, e5, h1, okK_0 ok, okR_0_8 ok, okK_199 ok, okR_199_0 ok, okT_200 ok, okL_200 ok, x, z, v, xc, zc, rS, m', nI_1]
      exact s2
    · have m' : ¬ nI (q_w2 t) ≤ nI (S (F_cell f b)) := fun w => m (cm.mp w)
      have e : F_nr (q_D f s) f t b = some (b, S (F_cell f b)) := by
        rcases hs with ⟨h0, hd⟩ | ⟨hl, hd⟩
        · omega
        · cases t with
          | none => exact F_nr_1 hd
          | some p => obtain ⟨b', v'⟩ := p; exact F_nr_2 hd (by have : ¬ v' ≤ _ := m; omega)
      rw [e]
      obtain ⟨z', s2⟩ := ih (b + 1) (some (b, S (F_cell f b))) (some (.int (nI (S (F_cell f b))))) (by omega) (fun b' v' w => by cases w; omega)
      refine ⟨z', ?_⟩
      simp only [e97_0, e97_1, e97_4, e97_5, e97_6, e97_9, e97_12, e97_13, e97_14, e97_15, e97_18, e97_21, e97_22f, e97_22d, e97_22b, e97_22l, e97_22t, e97_23, e97_25, e97_27, e97_28, e97_31, e97_33, e97_35, e97_36, e97_39, e97_41, e97_43, e97_46, e97_49, e97_50, e97_51, e97_52, e97_55, e97_57, e97_59, e97_62, e97_63, e97_65, e97_68, e97_70, e97_71, e97_75, e97_77, e97_80, e97_83, e97_84, e97_87, e97_90, e97_92, e97_95, e97_97, e97_98, e97_99, e97_101, e97_103, e97_105, e97_108, e97_110, e97_112, e97_114, e97_116, e97_119, e97_124, e97_125, e97_128, e97_129, e97_130, e97_131, e97_134, e97_136, e97_139, e97_141, am_bd_some, Option.toList_some, Option.toList_none, List.cons_append, List.nil_append, am_w8_0, am_w8_1, am_w8_2, am_w8_3, am_w8_4, eq_self, or_true, true_or, am_kd_sI, am_kd_sL, am_kd_sR, am_tc_sI, am_tc_sL, am_tc_sR, am_len_sI, am_len_sL, am_len_sR, am_rfs, if_true, if_false, am_rdL_sI, am_rR_sL, am_rt_cq, am_kd_cq, am_tc_cq, am_len_cq, am_rd_sL, am_rd_sR, am_rdL_sR, fo1, fo3, q_tc fo5, q_ln fo5, e5, h1, okK_0 ok, okR_0_8 ok, okK_199 ok, okR_199_0 ok, okT_200 ok, okL_200 ok, x, z, v, xc, zc, rS, m', nI_1]
      exact s2
theorem q_nr_m (f : q_Fl) (fk : F_ok f) (s : Nat) (h : am_H) (mg : q_mg h f (G_0 f)) (hS : ∀ v, F_in f v → (q_D f s v = none ∧ h.1 230 (q_nm f v) = 1000000) ∨ ∃ n, n < 1000000 ∧ q_D f s v = some n ∧ h.1 230 (q_nm f v) = nI n) (a1 a2 st : Int32) : ∀ (r b : Nat) (t : Option (Nat × Nat)), b + r = F_n f → (∀ b v, t = some (b, v) → b < 6 ∧ v < 1000000) → am_ev 239 48 [some (.ref 211), some (.int a1), some (.int a2), some (.int st), some (.int (q_m1o t)), some (.int (nI (q_n2 t))), some (.int (nI b))] [] h = am_ev 239 108 [some (.ref 211), some (.int a1), some (.int a2), some (.int st), some (.int (q_m1o ((List.range' b r).foldl (F_nr (q_D f s) f) t))), some (.int (nI (q_n2 ((List.range' b r).foldl (F_nr (q_D f s) f) t)))), some (.int (nI (F_n f)))] [] h := by
  have wf := fk.wf
  have n6 := wf.2.2.2.1
  have ok := mg.1.1
  have a5 := mg.1.2.2.2.2.2.1
  have ea := mg.2.2.1
  intro r
  induction r with
  | zero =>
    intro b t hb ht
    obtain rfl : b = F_n f := by omega
    have h1 : nI (F_n f) ≤ nI (F_n f) := Int32.le_refl _
    rw [e239_48]
    simp only [e239_0, e239_1, e239_2, e239_5, e239_6, e239_7, e239_10, e239_13, e239_14, e239_15, e239_18, e239_21, e239_22, e239_25, e239_26, e239_26z, e239_27, e239_30, e239_31, e239_32, e239_33, e239_34, e239_37, e239_38, e239_40, e239_43, e239_45, e239_46, e239_50, e239_51, e239_54, e239_57, e239_58, e239_61, e239_62, e239_65, e239_67, e239_68, e239_69, e239_71, e239_74, e239_76, e239_79, e239_81, e239_83, e239_85, e239_86, e239_89, e239_90, e239_93, e239_95, e239_96, e239_97, e239_100, e239_102, e239_105, e239_110, e239_111, e239_114, e239_115, e239_118, e239_120, e239_123, e239_125, am_bd_some, Option.toList_some, Option.toList_none, List.cons_append, List.nil_append, am_w8_0, am_w8_1, am_w8_2, am_w8_3, am_w8_4, eq_self, or_true, true_or, am_kd_sI, am_kd_sL, am_kd_sR, am_tc_sI, am_tc_sL, am_tc_sR, am_len_sI, am_len_sL, am_len_sR, am_rfs, if_true, if_false, am_rdL_sI, am_rR_sL, am_rt_cq, am_kd_cq, am_tc_cq, am_len_cq, am_rd_sL, am_rd_sR, am_rdL_sR, okK_211 ok, a5, h1, List.range'_zero, List.foldl_nil]
  | succ r ih =>
    intro b t hb ht
    have h1 : ¬ nI (F_n f) ≤ nI b := nI_ge (by omega) (by omega)
    have x : am_ix (nI b) 6 = true := am_ix_nI (by omega) (by decide)
    have z : (nI b).toNatClampNeg = b := nI_clamp (by omega)
    have v : h.1 225 b = nI (q_nm f (F_cell f b)) := ea b (by omega)
    have ci := (fk.2.2.2.2.2.2.2.2.2.2.1 b (by omega)).2.1
    have c64 := q_nm_64 wf ci
    have xc : am_ix (nI (q_nm f (F_cell f b))) 64 = true := am_ix_nI (by omega) (by decide)
    have zc : (nI (q_nm f (F_cell f b))).toNatClampNeg = q_nm f (F_cell f b) := nI_clamp (by omega)
    have tw : q_n2 t ≤ 1000000 := by
      cases t with
      | none => exact Nat.le_refl _
      | some p => obtain ⟨b', v'⟩ := p; have := (ht b' v' rfl).2; show v' ≤ _; omega
    have val : ∃ n, n ≤ 1000000 ∧ h.1 230 (q_nm f (F_cell f b)) = nI n ∧ ((n = 1000000 ∧ q_D f s (F_cell f b) = none) ∨ (n < 1000000 ∧ q_D f s (F_cell f b) = some n)) := by
      rcases hS _ ci with ⟨hd, e⟩ | ⟨n, hl, hd, e⟩
      · exact ⟨1000000, Nat.le_refl _, e, Or.inl ⟨rfl, hd⟩⟩
      · exact ⟨n, by omega, e, Or.inr ⟨hl, hd⟩⟩
    obtain ⟨n, nl, rS, hs⟩ := val
    have cm : nI (q_n2 t) ≤ nI n ↔ q_n2 t ≤ n := nI_leI (by omega) (by omega)
    have mn := q_imin2 (a := q_n2 t) (b := n) (by omega) (by omega)
    have dl := den_lesser (nI (q_n2 t)) (nI n) h
    rw [mn] at dl
    rw [List.range'_succ, List.foldl_cons, e239_48]
    by_cases m : q_n2 t ≤ n
    · have m' := cm.mpr m
      have e : F_nr (q_D f s) f t b = t := by
        rcases hs with ⟨_, hd⟩ | ⟨hl, hd⟩
        · exact F_nr_0 hd
        · cases t with
          | none => exact absurd m (by show ¬ 1000000 ≤ _; omega)
          | some p => obtain ⟨b', v'⟩ := p; exact F_nr_3 hd (by have : v' ≤ _ := m; omega)
      have em : min (q_n2 t) n = q_n2 t := by omega
      rw [em] at dl
      rw [e]
      simp only [e239_0, e239_1, e239_2, e239_5, e239_6, e239_7, e239_10, e239_13, e239_14, e239_15, e239_18, e239_21, e239_22, e239_25, e239_26, e239_26z, e239_27, e239_30, e239_31, e239_32, e239_33, e239_34, e239_37, e239_38, e239_40, e239_43, e239_45, e239_46, e239_50, e239_51, e239_54, e239_57, e239_58, e239_61, e239_62, e239_65, e239_67, e239_68, e239_69, e239_71, e239_74, e239_76, e239_79, e239_81, e239_83, e239_85, e239_86, e239_89, e239_90, e239_93, e239_95, e239_96, e239_97, e239_100, e239_102, e239_105, e239_110, e239_111, e239_114, e239_115, e239_118, e239_120, e239_123, e239_125, am_bd_some, Option.toList_some, Option.toList_none, List.cons_append, List.nil_append, am_w8_0, am_w8_1, am_w8_2, am_w8_3, am_w8_4, eq_self, or_true, true_or, am_kd_sI, am_kd_sL, am_kd_sR, am_tc_sI, am_tc_sL, am_tc_sR, am_len_sI, am_len_sL, am_len_sR, am_rfs, if_true, if_false, am_rdL_sI, am_rR_sL, am_rt_cq, am_kd_cq, am_tc_cq, am_len_cq, am_rd_sL, am_rd_sR, am_rdL_sR, okK_211 ok, okR_211_36 ok, okR_211_44 ok, okT_225 ok, okL_225 ok, okT_230 ok, okL_230 ok, a5, h1, x, z, v, xc, zc, rS, m', dl, nI_1]
      exact ih (b + 1) t (by omega) ht
    · have m' : ¬ nI (q_n2 t) ≤ nI n := fun w => m (cm.mp w)
      have nl2 : n < 1000000 := by omega
      have e : F_nr (q_D f s) f t b = some (b, n) := by
        rcases hs with ⟨h0, hd⟩ | ⟨hl, hd⟩
        · omega
        · cases t with
          | none => exact F_nr_1 hd
          | some p => obtain ⟨b', v'⟩ := p; exact F_nr_2 hd (by have : ¬ v' ≤ _ := m; omega)
      have em : min (q_n2 t) n = n := by omega
      rw [em] at dl
      rw [e]
      simp only [e239_0, e239_1, e239_2, e239_5, e239_6, e239_7, e239_10, e239_13, e239_14, e239_15, e239_18, e239_21, e239_22, e239_25, e239_26, e239_26z, e239_27, e239_30, e239_31, e239_32, e239_33, e239_34, e239_37, e239_38, e239_40, e239_43, e239_45, e239_46, e239_50, e239_51, e239_54, e239_57, e239_58, e239_61, e239_62, e239_65, e239_67, e239_68, e239_69, e239_71, e239_74, e239_76, e239_79, e239_81, e239_83, e239_85, e239_86, e239_89, e239_90, e239_93, e239_95, e239_96, e239_97, e239_100, e239_102, e239_105, e239_110, e239_111, e239_114, e239_115, e239_118, e239_120, e239_123, e239_125, am_bd_some, Option.toList_some, Option.toList_none, List.cons_append, List.nil_append, am_w8_0, am_w8_1, am_w8_2, am_w8_3, am_w8_4, eq_self, or_true, true_or, am_kd_sI, am_kd_sL, am_kd_sR, am_tc_sI, am_tc_sL, am_tc_sR, am_len_sI, am_len_sL, am_len_sR, am_rfs, if_true, if_false, am_rdL_sI, am_rR_sL, am_rt_cq, am_kd_cq, am_tc_cq, am_len_cq, am_rd_sL, am_rd_sR, am_rdL_sR, okK_211 ok, okR_211_36 ok, okR_211_44 ok, okT_225 ok, okL_225 ok, okT_230 ok, okL_230 ok, a5, h1, x, z, v, xc, zc, rS, m', dl, nI_1]
      exact ih (b + 1) (some (b, n)) (by omega) (fun b' v' w => by cases w; omega)
noncomputable def q_NR (f : q_Fl) (s : Nat) : Option (Nat × Nat) := (List.range' 0 (F_n f)).foldl (F_nr (q_D f s) f) none
def q_nrV (R : Option (Nat × Nat)) (st : Int32) : Int32 := match R with
  | none => -1
  | some (b, v) => if st = 0 then nI b else nI v
theorem F_nr_b {D : Nat → Option Nat} {f : q_Fl} : ∀ (l : List Nat) (s : Option (Nat × Nat)), (∀ b, b ∈ l → b < 6) → (∀ b v, s = some (b, v) → b < 6) → ∀ b v, l.foldl (F_nr D f) s = some (b, v) → b < 6 := by
  intro l
  induction l with
  | nil => intro s _ hs; exact hs
  | cons c l ih =>
    intro s hl hs
    rw [List.foldl_cons]
    refine ih _ (fun b hb => hl b (List.mem_cons_of_mem _ hb)) ?_
    intro b v w
    have hc := hl c List.mem_cons_self
    unfold F_nr at w
    split at w
    · exact hs b v w
    · split at w
      · cases w; exact hc
      · split at w
        · cases w; exact hc
        · exact hs b v w
def q_neP (A : q_All) (a c : Int32) : Prop := (0 ≤ a ∧ a < nI (A.2.1 0)) ∧ (0 ≤ c ∧ c < nI (F_w (A.2.2.1 a.toNatClampNeg) * F_h (A.2.2.1 a.toNatClampNeg))) ∧ F_wall (A.2.2.1 a.toNatClampNeg) (q_cell (F_w (A.2.2.1 a.toNatClampNeg)) c.toNatClampNeg) = false
noncomputable def q_neA (A : q_All) (a c st : Int32) : Int32 := @ite _ (q_neP A a c) (Classical.propDecidable _) (q_nrV (q_NR (A.2.2.1 a.toNatClampNeg) (q_cell (F_w (A.2.2.1 a.toNatClampNeg)) c.toNatClampNeg)) st) (-1)
theorem den_cnear {A : q_All} {h : am_H} (H : q_Rel A h) (a c st : Int32) : ∃ h' : am_H, q_wk h h' ∧ am_den 97 [.ref 0, .int a, .int c, .int st] h = some (some (.int (q_neA A a c st)), h') := by
  have ok := H.1
  obtain ⟨c1, c2, c3⟩ := H.cnt 0 (by decide)
  have dh := den_has h ok 0 (by decide) (A.2.1 0) c1 c2 a
  rw [nI_0] at dh
  have y : ¬ (1 : Int32) = 0 := by decide
  show ∃ h' : am_H, q_wk h h' ∧ am_ev 97 0 [some (.ref 0), some (.int a), some (.int c), some (.int st), none, none, none, none, none, none] [] h = _
  unfold q_neA
  by_cases ca : 0 ≤ a ∧ a < nI (A.2.1 0)
  · rw [if_pos ca] at dh
    obtain ⟨i, hi, rfl⟩ := q_in2 c1 ca
    obtain ⟨fk, cF, -⟩ := H.fl i hi
    have wf := fk.wf
    have n6 := wf.2.2.2.1
    have c64 := wf.c64
    have z : (nI i).toNatClampNeg = i := nI_clamp (by omega)
    have x : am_ix (nI i) 2 = true := am_ix_nI (by omega) (by decide)
    have r := q_fo_ref ok i (by omega)
    by_cases n1 : c < 0
    · have P : ¬ q_neP A (nI i) c := fun w => absurd n1 (Int32.not_lt.mpr w.2.1.1)
      rw [if_neg P]
      have dc := den_cellOf0 h _ _ cF.1 wf c n1
      refine ⟨h, q_wk.rf ok, ?_⟩
      simp only [e97_0, e97_1, e97_4, e97_5, e97_6, e97_9, e97_12, e97_13, e97_14, e97_15, e97_18, e97_21, e97_22f, e97_22d, e97_22b, e97_22l, e97_22t, e97_23, e97_25, e97_27, e97_28, e97_31, e97_33, e97_35, e97_36, e97_39, e97_41, e97_43, e97_46, e97_49, e97_50, e97_51, e97_52, e97_55, e97_57, e97_59, e97_62, e97_63, e97_65, e97_68, e97_70, e97_71, e97_75, e97_77, e97_80, e97_83, e97_84, e97_87, e97_90, e97_92, e97_95, e97_97, e97_98, e97_99, e97_101, e97_103, e97_105, e97_108, e97_110, e97_112, e97_114, e97_116, e97_119, e97_122, e97_124, e97_125, e97_128, e97_129, e97_130, e97_131, e97_134, e97_136, e97_139, e97_141, am_bd_some, Option.toList_some, Option.toList_none, List.cons_append, List.nil_append, am_w8_0, am_w8_1, am_w8_2, am_w8_3, am_w8_4, eq_self, or_true, true_or, am_kd_sI, am_kd_sL, am_kd_sR, am_tc_sI, am_tc_sL, am_tc_sR, am_len_sI, am_len_sL, am_len_sR, am_rfs, if_true, if_false, am_rdL_sI, am_rR_sL, am_rt_cq, am_kd_cq, am_tc_cq, am_len_cq, am_rd_sL, am_rd_sR, am_rdL_sR, okK_0 ok, okR_0_0 ok, okK_1 ok, okR_1_5 ok, okT_4 ok, okL_4 ok, dh, y, not_false_eq_true, x, z, r, cF.1.1.1, dc]
    · obtain ⟨m, hm, rfl⟩ := nI_of n1
      have zm : (nI m).toNatClampNeg = m := nI_clamp hm
      have dc := den_cellOf h _ _ cF.1 wf m hm
      by_cases n2 : m < F_w (A.2.2.1 i) * F_h (A.2.2.1 i)
      · rw [if_pos n2] at dc
        obtain ⟨ci, cn⟩ := q_cell_in wf n2
        have q64 := ci.1
        have nm1 : ¬ nI (q_cell (F_w (A.2.2.1 i)) m) = -1 := q_m1_n _ (by omega)
        have dw := den_isWall h _ _ cF.1 (q_cell (F_w (A.2.2.1 i)) m) q64
        cases hw : F_wall (A.2.2.1 i) (q_cell (F_w (A.2.2.1 i)) m) with
        | true =>
          rw [hw] at dw
          have P : ¬ q_neP A (nI i) (nI m) := fun w => by have := w.2.2; rw [z, zm, hw] at this; cases this
          rw [if_neg P]
          have yt : ¬ q_bi true = 0 := by decide
          refine ⟨h, q_wk.rf ok, ?_⟩
          simp only [e97_0, e97_1, e97_4, e97_5, e97_6, e97_9, e97_12, e97_13, e97_14, e97_15, e97_18, e97_21, e97_22f, e97_22d, e97_22b, e97_22l, e97_22t, e97_23, e97_25, e97_27, e97_28, e97_31, e97_33, e97_35, e97_36, e97_39, e97_41, e97_43, e97_46, e97_49, e97_50, e97_51, e97_52, e97_55, e97_57, e97_59, e97_62, e97_63, e97_65, e97_68, e97_70, e97_71, e97_75, e97_77, e97_80, e97_83, e97_84, e97_87, e97_90, e97_92, e97_95, e97_97, e97_98, e97_99, e97_101, e97_103, e97_105, e97_108, e97_110, e97_112, e97_114, e97_116, e97_119, e97_122, e97_124, e97_125, e97_128, e97_129, e97_130, e97_131, e97_134, e97_136, e97_139, e97_141, am_bd_some, Option.toList_some, Option.toList_none, List.cons_append, List.nil_append, am_w8_0, am_w8_1, am_w8_2, am_w8_3, am_w8_4, eq_self, or_true, true_or, am_kd_sI, am_kd_sL, am_kd_sR, am_tc_sI, am_tc_sL, am_tc_sR, am_len_sI, am_len_sL, am_len_sR, am_rfs, if_true, if_false, am_rdL_sI, am_rR_sL, am_rt_cq, am_kd_cq, am_tc_cq, am_len_cq, am_rd_sL, am_rd_sR, am_rdL_sR, okK_0 ok, okR_0_0 ok, okK_1 ok, okR_1_5 ok, okT_4 ok, okL_4 ok, dh, y, not_false_eq_true, x, z, r, cF.1.1.1, dc, nm1, dw, yt]
        | false =>
          rw [hw] at dw
          have P : q_neP A (nI i) (nI m) := ⟨ca, by rw [z]; exact ⟨nI_pos' hm, nI_lt n2 (by omega)⟩, by rw [z, zm]; exact hw⟩
          rw [if_pos P, z, zm]
          have yf : q_bi false = 0 := rfl
          obtain ⟨h1, S, w1, hS, s1⟩ := den_from (8 + 16 * i) (by omega) _ wf _ ci h ok cF.1
          have ok1 := w1.ok ok
          have cF1 := w1.cF (by omega) cF
          obtain ⟨z9, s2⟩ := q_nr_c (8 + 16 * i) _ fk _ S h1 ok1 cF1 hS (nI i) (nI m) st (nI (q_cell (F_w (A.2.2.1 i)) m)) (F_n (A.2.2.1 i)) 0 none none (by omega) (fun b v w => by cases w)
          have q1 : q_m1o none = -1 := rfl
          have q2 : nI (q_w2 none) = 1000 := rfl
          have e0 : (List.range' 0 (F_n (A.2.2.1 i))).foldl (F_nr (q_D (A.2.2.1 i) (q_cell (F_w (A.2.2.1 i)) m)) (A.2.2.1 i)) none = q_NR (A.2.2.1 i) (q_cell (F_w (A.2.2.1 i)) m) := rfl
          rw [q1, q2, nI_0, e0] at s2
          refine ⟨h1, w1.wk ok, ?_⟩
          have s0 : am_ev 97 0 [some (.ref 0), some (.int (nI i)), some (.int (nI m)), some (.int st), none, none, none, none, none, none] [] h = am_ev 97 73 [some (.ref 0), some (.int (nI i)), some (.int (nI m)), some (.int st), some (.ref (8 + 16 * i)), some (.int (nI (q_cell (F_w (A.2.2.1 i)) m))), some (.int (-1)), some (.int 1000), some (.int 0), none] [] h1 := by
            simp only [e97_0, e97_1, e97_4, e97_5, e97_6, e97_9, e97_12, e97_13, e97_14, e97_15, e97_18, e97_21, e97_22f, e97_22d, e97_22b, e97_22l, e97_22t, e97_23, e97_25, e97_27, e97_28, e97_31, e97_33, e97_35, e97_36, e97_39, e97_41, e97_43, e97_46, e97_49, e97_50, e97_51, e97_52, e97_55, e97_57, e97_59, e97_62, e97_63, e97_65, e97_68, e97_70, e97_71, e97_75, e97_77, e97_80, e97_83, e97_84, e97_87, e97_90, e97_92, e97_95, e97_97, e97_98, e97_99, e97_101, e97_103, e97_105, e97_108, e97_110, e97_112, e97_114, e97_116, e97_119, e97_122, e97_124, e97_125, e97_128, e97_129, e97_130, e97_131, e97_134, e97_136, e97_139, e97_141, am_bd_some, Option.toList_some, Option.toList_none, List.cons_append, List.nil_append, am_w8_0, am_w8_1, am_w8_2, am_w8_3, am_w8_4, eq_self, or_true, true_or, am_kd_sI, am_kd_sL, am_kd_sR, am_tc_sI, am_tc_sL, am_tc_sR, am_len_sI, am_len_sL, am_len_sR, am_rfs, if_true, if_false, am_rdL_sI, am_rR_sL, am_rt_cq, am_kd_cq, am_tc_cq, am_len_cq, am_rd_sL, am_rd_sR, am_rdL_sR, okK_0 ok, okR_0_0 ok, okK_1 ok, okR_1_5 ok, okT_4 ok, okL_4 ok, dh, y, not_false_eq_true, x, z, r, cF.1.1.1, dc, nm1, dw, yf, okR_0_8 ok, okK_199 ok, s1]
          rw [s0, s2]
          cases hR : q_NR (A.2.2.1 i) (q_cell (F_w (A.2.2.1 i)) m) with
          | none => simp only [e97_0, e97_1, e97_4, e97_5, e97_6, e97_9, e97_12, e97_13, e97_14, e97_15, e97_18, e97_21, e97_22f, e97_22d, e97_22b, e97_22l, e97_22t, e97_23, e97_25, e97_27, e97_28, e97_31, e97_33, e97_35, e97_36, e97_39, e97_41, e97_43, e97_46, e97_49, e97_50, e97_51, e97_52, e97_55, e97_57, e97_59, e97_62, e97_63, e97_65, e97_68, e97_70, e97_71, e97_75, e97_77, e97_80, e97_83, e97_84, e97_87, e97_90, e97_92, e97_95, e97_97, e97_98, e97_99, e97_101, e97_103, e97_105, e97_108, e97_110, e97_112, e97_114, e97_116, e97_119, e97_122, e97_124, e97_125, e97_128, e97_129, e97_130, e97_131, e97_134, e97_136, e97_139, e97_141, am_bd_some, Option.toList_some, Option.toList_none, List.cons_append, List.nil_append, am_w8_0, am_w8_1, am_w8_2, am_w8_3, am_w8_4, eq_self, or_true, true_or, am_kd_sI, am_kd_sL, am_kd_sR, am_tc_sI, am_tc_sL, am_tc_sR, am_len_sI, am_len_sL, am_len_sR, am_rfs, if_true, if_false, am_rdL_sI, am_rR_sL, am_rt_cq, am_kd_cq, am_tc_cq, am_len_cq, am_rd_sL, am_rd_sR, am_rdL_sR, q1, not_true, q_nrV]
          | some p =>
            obtain ⟨b, v⟩ := p
            have b6 : b < 6 := F_nr_b _ none (fun b hb => by have := List.mem_range'_1.mp hb; omega) (fun b v w => by cases w) b v hR
            have q3 : q_m1o (some (b, v)) = nI b := rfl
            have q4 : q_w2 (some (b, v)) = v := rfl
            have nb : ¬ nI b = -1 := q_m1_n b (by omega)
            unfold q_nrV
            by_cases m0 : st = 0
            · simp only [e97_0, e97_1, e97_4, e97_5, e97_6, e97_9, e97_12, e97_13, e97_14, e97_15, e97_18, e97_21, e97_22f, e97_22d, e97_22b, e97_22l, e97_22t, e97_23, e97_25, e97_27, e97_28, e97_31, e97_33, e97_35, e97_36, e97_39, e97_41, e97_43, e97_46, e97_49, e97_50, e97_51, e97_52, e97_55, e97_57, e97_59, e97_62, e97_63, e97_65, e97_68, e97_70, e97_71, e97_75, e97_77, e97_80, e97_83, e97_84, e97_87, e97_90, e97_92, e97_95, e97_97, e97_98, e97_99, e97_101, e97_103, e97_105, e97_108, e97_110, e97_112, e97_114, e97_116, e97_119, e97_122, e97_124, e97_125, e97_128, e97_129, e97_130, e97_131, e97_134, e97_136, e97_139, e97_141, am_bd_some, Option.toList_some, Option.toList_none, List.cons_append, List.nil_append, am_w8_0, am_w8_1, am_w8_2, am_w8_3, am_w8_4, eq_self, or_true, true_or, am_kd_sI, am_kd_sL, am_kd_sR, am_tc_sI, am_tc_sL, am_tc_sR, am_len_sI, am_len_sL, am_len_sR, am_rfs, if_true, if_false, am_rdL_sI, am_rR_sL, am_rt_cq, am_kd_cq, am_tc_cq, am_len_cq, am_rd_sL, am_rd_sR, am_rdL_sR, q3, q4, nb, not_false_eq_true, m0]
            · simp only [e97_0, e97_1, e97_4, e97_5, e97_6, e97_9, e97_12, e97_13, e97_14, e97_15, e97_18, e97_21, e97_22f, e97_22d, e97_22b, e97_22l, e97_22t, e97_23, e97_25, e97_27, e97_28, e97_31, e97_33, e97_35, e97_36, e97_39, e97_41, e97_43, e97_46, e97_49, e97_50, e97_51, e97_52, e97_55, e97_57, e97_59, e97_62, e97_63, e97_65, e97_68, e97_70, e97_71, e97_75, e97_77, e97_80, e97_83, e97_84, e97_87, e97_90, e97_92, e97_95, e97_97, e97_98, e97_99, e97_101, e97_103, e97_105, e97_108, e97_110, e97_112, e97_114, e97_116, e97_119, e97_122, e97_124, e97_125, e97_128, e97_129, e97_130, e97_131, e97_134, e97_136, e97_139, e97_141, am_bd_some, Option.toList_some, Option.toList_none, List.cons_append, List.nil_append, am_w8_0, am_w8_1, am_w8_2, am_w8_3, am_w8_4, eq_self, or_true, true_or, am_kd_sI, am_kd_sL, am_kd_sR, am_tc_sI, am_tc_sL, am_tc_sR, am_len_sI, am_len_sL, am_len_sR, am_rfs, if_true, if_false, am_rdL_sI, am_rR_sL, am_rt_cq, am_kd_cq, am_tc_cq, am_len_cq, am_rd_sL, am_rd_sR, am_rdL_sR, q3, q4, nb, not_false_eq_true, m0]
      · rw [if_neg n2] at dc
        have P : ¬ q_neP A (nI i) (nI m) := fun w => n2 (by have := w.2.1.2; rw [z] at this; exact (nI_ltI hm (by omega)).mp this)
        rw [if_neg P]
        refine ⟨h, q_wk.rf ok, ?_⟩
        simp only [e97_0, e97_1, e97_4, e97_5, e97_6, e97_9, e97_12, e97_13, e97_14, e97_15, e97_18, e97_21, e97_22f, e97_22d, e97_22b, e97_22l, e97_22t, e97_23, e97_25, e97_27, e97_28, e97_31, e97_33, e97_35, e97_36, e97_39, e97_41, e97_43, e97_46, e97_49, e97_50, e97_51, e97_52, e97_55, e97_57, e97_59, e97_62, e97_63, e97_65, e97_68, e97_70, e97_71, e97_75, e97_77, e97_80, e97_83, e97_84, e97_87, e97_90, e97_92, e97_95, e97_97, e97_98, e97_99, e97_101, e97_103, e97_105, e97_108, e97_110, e97_112, e97_114, e97_116, e97_119, e97_122, e97_124, e97_125, e97_128, e97_129, e97_130, e97_131, e97_134, e97_136, e97_139, e97_141, am_bd_some, Option.toList_some, Option.toList_none, List.cons_append, List.nil_append, am_w8_0, am_w8_1, am_w8_2, am_w8_3, am_w8_4, eq_self, or_true, true_or, am_kd_sI, am_kd_sL, am_kd_sR, am_tc_sI, am_tc_sL, am_tc_sR, am_len_sI, am_len_sL, am_len_sR, am_rfs, if_true, if_false, am_rdL_sI, am_rR_sL, am_rt_cq, am_kd_cq, am_tc_cq, am_len_cq, am_rd_sL, am_rd_sR, am_rdL_sR, okK_0 ok, okR_0_0 ok, okK_1 ok, okR_1_5 ok, okT_4 ok, okL_4 ok, dh, y, not_false_eq_true, x, z, r, cF.1.1.1, dc]
  · rw [if_neg ca] at dh
    rw [if_neg (fun w => ca w.1)]
    refine ⟨h, q_wk.rf ok, ?_⟩
    simp only [e97_0, e97_1, e97_4, e97_5, e97_6, e97_9, e97_12, e97_13, e97_14, e97_15, e97_18, e97_21, e97_22f, e97_22d, e97_22b, e97_22l, e97_22t, e97_23, e97_25, e97_27, e97_28, e97_31, e97_33, e97_35, e97_36, e97_39, e97_41, e97_43, e97_46, e97_49, e97_50, e97_51, e97_52, e97_55, e97_57, e97_59, e97_62, e97_63, e97_65, e97_68, e97_70, e97_71, e97_75, e97_77, e97_80, e97_83, e97_84, e97_87, e97_90, e97_92, e97_95, e97_97, e97_98, e97_99, e97_101, e97_103, e97_105, e97_108, e97_110, e97_112, e97_114, e97_116, e97_119, e97_122, e97_124, e97_125, e97_128, e97_129, e97_130, e97_131, e97_134, e97_136, e97_139, e97_141, am_bd_some, Option.toList_some, Option.toList_none, List.cons_append, List.nil_append, am_w8_0, am_w8_1, am_w8_2, am_w8_3, am_w8_4, eq_self, or_true, true_or, am_kd_sI, am_kd_sL, am_kd_sR, am_tc_sI, am_tc_sL, am_tc_sR, am_len_sI, am_len_sL, am_len_sR, am_rfs, if_true, if_false, am_rdL_sI, am_rR_sL, am_rt_cq, am_kd_cq, am_tc_cq, am_len_cq, am_rd_sL, am_rd_sR, am_rdL_sR, okK_0 ok, okR_0_0 ok, okK_1 ok, dh, not_true]
theorem den_isCell (h : am_H) (ok : am_okH h) (N : Nat) (hN : N < 2 ^ 30) (e : h.1 211 26 = nI N) (c : Int32) : am_den 240 [.ref 211, .int c] h = some (some (.int (if 0 ≤ c ∧ c < nI N then 1 else 0)), h) := by
  have rg := q_m1 (c := N) hN c
  show am_ev 240 0 [some (.ref 211), some (.int c)] [] h = _
  by_cases cc : 0 ≤ c ∧ c < nI N
  · have y : (1 : Int32) = 0 ∨ (1 : Int32) = 1 := Or.inr rfl
    have cct := eq_true cc
    simp only [e240_0, e240_1, e240_2, e240_3, e240_6, e240_7, e240_8, e240_11, am_bd_some, Option.toList_some, Option.toList_none, List.cons_append, List.nil_append, am_w8_0, am_w8_1, am_w8_2, am_w8_3, am_w8_4, eq_self, or_true, true_or, am_kd_sI, am_kd_sL, am_kd_sR, am_tc_sI, am_tc_sL, am_tc_sR, am_len_sI, am_len_sL, am_len_sR, am_rfs, if_true, if_false, am_rdL_sI, am_rR_sL, am_rt_cq, am_kd_cq, am_tc_cq, am_len_cq, am_rd_sL, am_rd_sR, am_rdL_sR, okK_211 ok, e, den_in, rg, cct, y]
  · have y : (0 : Int32) = 0 ∨ (0 : Int32) = 1 := Or.inl rfl
    simp only [e240_0, e240_1, e240_2, e240_3, e240_6, e240_7, e240_8, e240_11, am_bd_some, Option.toList_some, Option.toList_none, List.cons_append, List.nil_append, am_w8_0, am_w8_1, am_w8_2, am_w8_3, am_w8_4, eq_self, or_true, true_or, am_kd_sI, am_kd_sL, am_kd_sR, am_tc_sI, am_tc_sL, am_tc_sR, am_len_sI, am_len_sL, am_len_sR, am_rfs, if_true, if_false, am_rdL_sI, am_rR_sL, am_rt_cq, am_kd_cq, am_tc_cq, am_len_cq, am_rd_sL, am_rd_sR, am_rdL_sR, okK_211 ok, e, den_in, rg, cc, y]
theorem den_mnear {A : q_All} {h : am_H} (H : q_Rel A h) (a c st : Int32) : ∃ h' : am_H, q_wk h h' ∧ am_den 239 [.ref 211, .int a, .int c, .int st] h = some (some (.int (q_neA A a c st)), h') := by
  have ok := H.1
  have h0 := H.2.1
  obtain ⟨c1, c2, c3⟩ := H.cnt 0 (by decide)
  have y : (1 : Int32) = 0 ↔ False := by decide
  show ∃ h' : am_H, q_wk h h' ∧ am_ev 239 0 [some (.ref 211), some (.int a), some (.int c), some (.int st), none, none, none] [] h = _
  unfold q_neA
  by_cases ca : 0 ≤ a ∧ a < nI (A.2.1 0)
  · obtain ⟨i, hi, rfl⟩ := q_in2 c1 ca
    obtain ⟨fk, cF, fm⟩ := H.fl i hi
    have wf := fk.wf
    have n6 := wf.2.2.2.1
    have c64 := wf.c64
    have z : (nI i).toNatClampNeg = i := nI_clamp (by omega)
    obtain ⟨h1, f1, e24, g1, s1⟩ := den_hand1 h ok i (by omega) _ fk fm (A.2.1 0) c1 hi c3
    have ok1 := g1.1.1
    have dc := den_isCell h1 ok1 _ (by omega) g1.1.2.2.1 c
    by_cases cc : 0 ≤ c ∧ c < nI (F_w (A.2.2.1 i) * F_h (A.2.2.1 i))
    · rw [if_pos cc] at dc
      obtain ⟨m, hm, rfl⟩ := nI_of (Int32.not_lt.mpr cc.1)
      have n2 := (nI_ltI hm (by omega)).mp cc.2
      have zm : (nI m).toNatClampNeg = m := nI_clamp hm
      have x : am_ix (nI m) 64 = true := am_ix_nI (by omega) (by decide)
      obtain ⟨ci, cn⟩ := q_cell_in wf n2
      have wv := g1.1.2.2.2.2.2.2.1 _ ci
      rw [cn] at wv
      cases hw : F_wall (A.2.2.1 i) (q_cell (F_w (A.2.2.1 i)) m) with
      | true =>
        rw [hw] at wv
        have P : ¬ q_neP A (nI i) (nI m) := fun w => by have := w.2.2; rw [z, zm, hw] at this; cases this
        rw [if_neg P]
        have yt : ¬ q_bi true = 0 := by decide
        refine ⟨h1, f1.wk ok, ?_⟩
        simp only [e239_0, e239_1, e239_2, e239_5, e239_6, e239_7, e239_10, e239_13, e239_14, e239_15, e239_18, e239_21, e239_22, e239_25, e239_26, e239_26z, e239_27, e239_30, e239_31, e239_32, e239_33, e239_34, e239_37, e239_38, e239_40, e239_43, e239_45, e239_46, e239_50, e239_51, e239_54, e239_57, e239_58, e239_61, e239_62, e239_65, e239_67, e239_68, e239_69, e239_71, e239_74, e239_76, e239_79, e239_81, e239_83, e239_85, e239_86, e239_89, e239_90, e239_93, e239_95, e239_96, e239_97, e239_100, e239_102, e239_105, e239_108, e239_110, e239_111, e239_114, e239_115, e239_118, e239_120, e239_123, e239_125, am_bd_some, Option.toList_some, Option.toList_none, List.cons_append, List.nil_append, am_w8_0, am_w8_1, am_w8_2, am_w8_3, am_w8_4, eq_self, or_true, true_or, am_kd_sI, am_kd_sL, am_kd_sR, am_tc_sI, am_tc_sL, am_tc_sR, am_len_sI, am_len_sL, am_len_sR, am_rfs, if_true, if_false, am_rdL_sI, am_rR_sL, am_rt_cq, am_kd_cq, am_tc_cq, am_len_cq, am_rd_sL, am_rd_sR, am_rdL_sR, okK_211 ok, am_sI_id h0, s1, y, okK_211 ok1, okR_211_34 ok1, okT_223 ok1, okL_223 ok1, dc, x, zm, wv, yt]
      | false =>
        rw [hw] at wv
        have P : q_neP A (nI i) (nI m) := ⟨ca, by rw [z]; exact cc, by rw [z, zm]; exact hw⟩
        rw [if_pos P, z, zm]
        have yf : q_bi false = 0 := rfl
        obtain ⟨h2, w2, hS, s2⟩ := den_findWalk _ wf _ _ ci h1 g1
        rw [cn] at s2
        have g2 := w2.mg g1
        have lp := q_nr_m _ fk _ h2 g2 hS (nI i) (nI m) st (F_n (A.2.2.1 i)) 0 none (by omega) (fun b v w => by cases w)
        have q1 : q_m1o none = -1 := rfl
        have q2 : nI (q_n2 none) = 1000000 := rfl
        have e0 : (List.range' 0 (F_n (A.2.2.1 i))).foldl (F_nr (q_D (A.2.2.1 i) (q_cell (F_w (A.2.2.1 i)) m)) (A.2.2.1 i)) none = q_NR (A.2.2.1 i) (q_cell (F_w (A.2.2.1 i)) m) := rfl
        rw [q1, q2, nI_0, e0] at lp
        refine ⟨h2, (f1.wk ok).tr (w2.wk ok1), ?_⟩
        have s0 : am_ev 239 0 [some (.ref 211), some (.int (nI i)), some (.int (nI m)), some (.int st), none, none, none] [] h = am_ev 239 48 [some (.ref 211), some (.int (nI i)), some (.int (nI m)), some (.int st), some (.int (-1)), some (.int 1000000), some (.int 0)] [] h2 := by
          simp only [e239_0, e239_1, e239_2, e239_5, e239_6, e239_7, e239_10, e239_13, e239_14, e239_15, e239_18, e239_21, e239_22, e239_25, e239_26, e239_26z, e239_27, e239_30, e239_31, e239_32, e239_33, e239_34, e239_37, e239_38, e239_40, e239_43, e239_45, e239_46, e239_50, e239_51, e239_54, e239_57, e239_58, e239_61, e239_62, e239_65, e239_67, e239_68, e239_69, e239_71, e239_74, e239_76, e239_79, e239_81, e239_83, e239_85, e239_86, e239_89, e239_90, e239_93, e239_95, e239_96, e239_97, e239_100, e239_102, e239_105, e239_108, e239_110, e239_111, e239_114, e239_115, e239_118, e239_120, e239_123, e239_125, am_bd_some, Option.toList_some, Option.toList_none, List.cons_append, List.nil_append, am_w8_0, am_w8_1, am_w8_2, am_w8_3, am_w8_4, eq_self, or_true, true_or, am_kd_sI, am_kd_sL, am_kd_sR, am_tc_sI, am_tc_sL, am_tc_sR, am_len_sI, am_len_sL, am_len_sR, am_rfs, if_true, if_false, am_rdL_sI, am_rR_sL, am_rt_cq, am_kd_cq, am_tc_cq, am_len_cq, am_rd_sL, am_rd_sR, am_rdL_sR, okK_211 ok, am_sI_id h0, s1, y, okK_211 ok1, okR_211_34 ok1, okT_223 ok1, okL_223 ok1, dc, x, zm, wv, yf, s2]
        rw [s0, lp]
        cases hR : q_NR (A.2.2.1 i) (q_cell (F_w (A.2.2.1 i)) m) with
        | none => simp only [e239_0, e239_1, e239_2, e239_5, e239_6, e239_7, e239_10, e239_13, e239_14, e239_15, e239_18, e239_21, e239_22, e239_25, e239_26, e239_26z, e239_27, e239_30, e239_31, e239_32, e239_33, e239_34, e239_37, e239_38, e239_40, e239_43, e239_45, e239_46, e239_50, e239_51, e239_54, e239_57, e239_58, e239_61, e239_62, e239_65, e239_67, e239_68, e239_69, e239_71, e239_74, e239_76, e239_79, e239_81, e239_83, e239_85, e239_86, e239_89, e239_90, e239_93, e239_95, e239_96, e239_97, e239_100, e239_102, e239_105, e239_108, e239_110, e239_111, e239_114, e239_115, e239_118, e239_120, e239_123, e239_125, am_bd_some, Option.toList_some, Option.toList_none, List.cons_append, List.nil_append, am_w8_0, am_w8_1, am_w8_2, am_w8_3, am_w8_4, eq_self, or_true, true_or, am_kd_sI, am_kd_sL, am_kd_sR, am_tc_sI, am_tc_sL, am_tc_sR, am_len_sI, am_len_sL, am_len_sR, am_rfs, if_true, if_false, am_rdL_sI, am_rR_sL, am_rt_cq, am_kd_cq, am_tc_cq, am_len_cq, am_rd_sL, am_rd_sR, am_rdL_sR, q1, q_nrV]
        | some p =>
          obtain ⟨b, v⟩ := p
          have b6 : b < 6 := F_nr_b _ none (fun b hb => by have := List.mem_range'_1.mp hb; omega) (fun b v w => by cases w) b v hR
          have q3 : q_m1o (some (b, v)) = nI b := rfl
          have q4 : q_n2 (some (b, v)) = v := rfl
          have nb : ¬ nI b = -1 := q_m1_n b (by omega)
          unfold q_nrV
          by_cases m0 : st = 0
          · simp only [e239_0, e239_1, e239_2, e239_5, e239_6, e239_7, e239_10, e239_13, e239_14, e239_15, e239_18, e239_21, e239_22, e239_25, e239_26, e239_26z, e239_27, e239_30, e239_31, e239_32, e239_33, e239_34, e239_37, e239_38, e239_40, e239_43, e239_45, e239_46, e239_50, e239_51, e239_54, e239_57, e239_58, e239_61, e239_62, e239_65, e239_67, e239_68, e239_69, e239_71, e239_74, e239_76, e239_79, e239_81, e239_83, e239_85, e239_86, e239_89, e239_90, e239_93, e239_95, e239_96, e239_97, e239_100, e239_102, e239_105, e239_108, e239_110, e239_111, e239_114, e239_115, e239_118, e239_120, e239_123, e239_125, am_bd_some, Option.toList_some, Option.toList_none, List.cons_append, List.nil_append, am_w8_0, am_w8_1, am_w8_2, am_w8_3, am_w8_4, eq_self, or_true, true_or, am_kd_sI, am_kd_sL, am_kd_sR, am_tc_sI, am_tc_sL, am_tc_sR, am_len_sI, am_len_sL, am_len_sR, am_rfs, if_true, if_false, am_rdL_sI, am_rR_sL, am_rt_cq, am_kd_cq, am_tc_cq, am_len_cq, am_rd_sL, am_rd_sR, am_rdL_sR, q3, q4, nb, m0, not_true]
          · simp only [e239_0, e239_1, e239_2, e239_5, e239_6, e239_7, e239_10, e239_13, e239_14, e239_15, e239_18, e239_21, e239_22, e239_25, e239_26, e239_26z, e239_27, e239_30, e239_31, e239_32, e239_33, e239_34, e239_37, e239_38, e239_40, e239_43, e239_45, e239_46, e239_50, e239_51, e239_54, e239_57, e239_58, e239_61, e239_62, e239_65, e239_67, e239_68, e239_69, e239_71, e239_74, e239_76, e239_79, e239_81, e239_83, e239_85, e239_86, e239_89, e239_90, e239_93, e239_95, e239_96, e239_97, e239_100, e239_102, e239_105, e239_108, e239_110, e239_111, e239_114, e239_115, e239_118, e239_120, e239_123, e239_125, am_bd_some, Option.toList_some, Option.toList_none, List.cons_append, List.nil_append, am_w8_0, am_w8_1, am_w8_2, am_w8_3, am_w8_4, eq_self, or_true, true_or, am_kd_sI, am_kd_sL, am_kd_sR, am_tc_sI, am_tc_sL, am_tc_sR, am_len_sI, am_len_sL, am_len_sR, am_rfs, if_true, if_false, am_rdL_sI, am_rR_sL, am_rt_cq, am_kd_cq, am_tc_cq, am_len_cq, am_rd_sL, am_rd_sR, am_rdL_sR, q3, q4, nb, m0, not_false_eq_true]
    · rw [if_neg cc] at dc
      have P : ¬ q_neP A (nI i) c := fun w => cc (by have := w.2.1; rw [z] at this; exact this)
      rw [if_neg P]
      refine ⟨h1, f1.wk ok, ?_⟩
      simp only [e239_0, e239_1, e239_2, e239_5, e239_6, e239_7, e239_10, e239_13, e239_14, e239_15, e239_18, e239_21, e239_22, e239_25, e239_26, e239_26z, e239_27, e239_30, e239_31, e239_32, e239_33, e239_34, e239_37, e239_38, e239_40, e239_43, e239_45, e239_46, e239_50, e239_51, e239_54, e239_57, e239_58, e239_61, e239_62, e239_65, e239_67, e239_68, e239_69, e239_71, e239_74, e239_76, e239_79, e239_81, e239_83, e239_85, e239_86, e239_89, e239_90, e239_93, e239_95, e239_96, e239_97, e239_100, e239_102, e239_105, e239_108, e239_110, e239_111, e239_114, e239_115, e239_118, e239_120, e239_123, e239_125, am_bd_some, Option.toList_some, Option.toList_none, List.cons_append, List.nil_append, am_w8_0, am_w8_1, am_w8_2, am_w8_3, am_w8_4, eq_self, or_true, true_or, am_kd_sI, am_kd_sL, am_kd_sR, am_tc_sI, am_tc_sL, am_tc_sR, am_len_sI, am_len_sL, am_len_sR, am_rfs, if_true, if_false, am_rdL_sI, am_rR_sL, am_rt_cq, am_kd_cq, am_tc_cq, am_len_cq, am_rd_sL, am_rd_sR, am_rdL_sR, okK_211 ok, am_sI_id h0, s1, y, okK_211 ok1, dc]
  · rw [if_neg (fun w => ca w.1)]
    have s0 := den_hand0 h ok (A.2.1 0) c1 c3 a ca
    refine ⟨h, q_wk.rf ok, ?_⟩
    simp only [e239_0, e239_1, e239_2, e239_5, e239_6, e239_7, e239_10, e239_13, e239_14, e239_15, e239_18, e239_21, e239_22, e239_25, e239_26, e239_26z, e239_27, e239_30, e239_31, e239_32, e239_33, e239_34, e239_37, e239_38, e239_40, e239_43, e239_45, e239_46, e239_50, e239_51, e239_54, e239_57, e239_58, e239_61, e239_62, e239_65, e239_67, e239_68, e239_69, e239_71, e239_74, e239_76, e239_79, e239_81, e239_83, e239_85, e239_86, e239_89, e239_90, e239_93, e239_95, e239_96, e239_97, e239_100, e239_102, e239_105, e239_108, e239_110, e239_111, e239_114, e239_115, e239_118, e239_120, e239_123, e239_125, am_bd_some, Option.toList_some, Option.toList_none, List.cons_append, List.nil_append, am_w8_0, am_w8_1, am_w8_2, am_w8_3, am_w8_4, eq_self, or_true, true_or, am_kd_sI, am_kd_sL, am_kd_sR, am_tc_sI, am_tc_sL, am_tc_sR, am_len_sI, am_len_sL, am_len_sR, am_rfs, if_true, if_false, am_rdL_sI, am_rR_sL, am_rt_cq, am_kd_cq, am_tc_cq, am_len_cq, am_rd_sL, am_rd_sR, am_rdL_sR, okK_211 ok, am_sI_id h0, s0]
theorem ly_12 : ly_p12 := fun a c st _ => pr_wk (fun A => q_neA A a c st) (fun A h H => den_cnear H a c st) (fun A h H => den_mnear H a c st)
