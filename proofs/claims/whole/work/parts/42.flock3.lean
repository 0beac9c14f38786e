/-! part 42: the flock goes -/
theorem q_dist_l {a b : Nat} (ha : a < 64) (hb : b < 64) : q_dist a b < 100 := by
  unfold q_dist q_df
  split <;> split <;> omega
theorem q_ov_m1 (o : Option Nat) (h : ∀ t, o = some t → t < 64) : q_ov o = -1 ↔ o = none := by
  cases o with
  | none => exact ⟨fun _ => rfl, fun _ => rfl⟩
  | some t =>
    refine ⟨fun q => ?_, fun q => by cases q⟩
    have := nI_pos' (n := t) (by have := h t rfl; omega)
    rw [show q_ov (some t) = nI t from rfl] at q
    rw [q] at this
    exact absurd this (by decide)
theorem F_pv_eq {f : q_Fl} (wf : F_wf f) {t : Nat} (ht : t < 64) : nI t = F_pv f ↔ t = F_pen f := by
  unfold F_pv
  by_cases c : F_pen f < 64
  · rw [if_pos c]
    exact nI_eq (by omega) (by omega)
  · rw [if_neg c]
    constructor
    · intro q
      have := nI_pos' (n := t) (by omega)
      rw [q] at this
      exact absurd this (by decide)
    · intro q
      omega
theorem q_way_l (h : am_H) (q o : Nat) (f : q_Fl) (g : q_G) (cg : q_cg h q o f g) (wf : F_wf f) (i : G_in f g) (b : Nat) (hb : b < F_n f) : ∀ (r d : Nat) (z5 z6 : Option Value), d + r = 4 → am_ev 78 36 [some (.ref q), some (.int (nI b)), some (.int (nI (q_dist (G_at g b) (G_dog g)))), some (.int (if F_kind f b = 3 then 1 else 0)), some (.int (nI d)), z5, z6] [] h = some (some (.int (q_ov (q_first (G_ok1 f g b) r d))), h) := by
  have n6 := wf.2.2.2.1
  have isb := fun c hc => den_isBeasts h q o f g cg wf i c hc
  obtain ⟨⟨k, r0, dj⟩, cf, ⟨e1, e2, e4, e5, e6⟩, ea, ew⟩ := cg
  have nx := fun d (hd : d < 4) => den_next h o f cf wf (G_at g b) d (i.2.2 b hb) hd
  obtain ⟨fo, c0, c1, c2, c4, c5, c6, c7⟩ := cf
  have x : am_ix (nI b) 6 = true := am_ix_nI (by omega) (by decide)
  have z : (nI b).toNatClampNeg = b := nI_clamp (by omega)
  have a1 := ea b hb
  have hd64 := i.1.1
  have ha64 := (i.2.2 b hb).1
  intro r
  induction r with
  | zero =>
    intro d z5 z6 hd
    obtain rfl : d = 4 := by omega
    have h1 : (4 : Int32) ≤ nI 4 := by decide
    rw [e78_36]
    simp only [e78_0, e78_1, e78_4, e78_5, e78_6, e78_7, e78_10, e78_13, e78_14, e78_15, e78_18, e78_21, e78_22, e78_23, e78_24, e78_27, e78_28, e78_31, e78_32, e78_33, e78_34, e78_38, e78_39, e78_42, e78_43, e78_46, e78_47, e78_50, e78_51, e78_52, e78_54, e78_57, e78_59, e78_61, e78_62, e78_65, e78_67, e78_68, e78_71, e78_74, e78_76, e78_77, e78_80, e78_83, e78_86, e78_87, e78_89, e78_92, e78_95, e78_98, e78_100, e78_101, e78_104, e78_107, e78_109, e78_110, e78_113, e78_115, e78_116, e78_119, e78_122, e78_124, e78_125, e78_128, e78_130, e78_131, e78_134, e78_137, e78_138, am_bd_some, Option.toList_some, Option.toList_none, List.cons_append, List.nil_append, am_w8_0, am_w8_1, am_w8_2, am_w8_3, am_w8_4, eq_self, or_true, true_or, am_kd_sI, am_kd_sL, am_kd_sR, am_tc_sI, am_tc_sL, am_tc_sR, am_len_sI, am_len_sL, am_len_sR, am_rfs, if_true, if_false, am_rdL_sI, am_rR_sL, am_rt_cq, am_kd_cq, am_tc_cq, am_len_cq, am_rd_sL, am_rd_sR, am_rdL_sR, h1, q_first, q_ov]
  | succ r ih =>
    intro d z5 z6 hd
    have h1 : ¬ (4 : Int32) ≤ nI d := fun w => nI_ge (b := 4) (a := d) (by omega) (by decide) w
    have dn := nx d (by omega)
    rw [e78_36]
    cases hx : F_nx f (G_at g b) d with
    | none =>
      rw [hx] at dn
      have g1 : ¬ G_ok1 f g b d = true := by unfold G_ok1; rw [hx]; exact Bool.false_ne_true
      have m1 : q_ov none = -1 := rfl
      simp only [e78_0, e78_1, e78_4, e78_5, e78_6, e78_7, e78_10, e78_13, e78_14, e78_15, e78_18, e78_21, e78_22, e78_23, e78_24, e78_27, e78_28, e78_31, e78_32, e78_33, e78_34, e78_38, e78_39, e78_42, e78_43, e78_46, e78_47, e78_50, e78_51, e78_52, e78_54, e78_57, e78_59, e78_61, e78_62, e78_65, e78_67, e78_68, e78_71, e78_74, e78_76, e78_77, e78_80, e78_83, e78_86, e78_87, e78_89, e78_92, e78_95, e78_98, e78_100, e78_101, e78_104, e78_107, e78_109, e78_110, e78_113, e78_115, e78_116, e78_119, e78_122, e78_124, e78_125, e78_128, e78_130, e78_131, e78_134, e78_137, e78_138, am_bd_some, Option.toList_some, Option.toList_none, List.cons_append, List.nil_append, am_w8_0, am_w8_1, am_w8_2, am_w8_3, am_w8_4, eq_self, or_true, true_or, am_kd_sI, am_kd_sL, am_kd_sR, am_tc_sI, am_tc_sL, am_tc_sR, am_len_sI, am_len_sL, am_len_sR, am_rfs, if_true, if_false, am_rdL_sI, am_rR_sL, am_rt_cq, am_kd_cq, am_tc_cq, am_len_cq, am_rd_sL, am_rd_sR, am_rdL_sR, k.1, k.2.1, q_tc k.2.2.2.1, q_ln k.2.2.2.1, r0, fo.1, h1, x, z, a1, dn, m1, nI_1, q_first, if_neg g1]
      exact ih (d + 1) _ _ (by omega)
    | some t =>
      rw [hx] at dn
      have ht := F_nx_in wf (i.2.2 b hb) hx
      have ht64 := ht.1
      have m1 : q_ov (some t) = nI t := rfl
      have m2 : ¬ nI t = -1 := fun w => by
        have := nI_pos' (n := t) (by omega)
        rw [w] at this
        exact absurd this (by decide)
      have m3 : nI t = nI (G_dog g) ↔ t = G_dog g := nI_eq (by omega) (by omega)
      have m4 : nI t = F_pv f ↔ t = F_pen f := F_pv_eq wf ht64
      have db := isb t ht64
      have da := den_capart h t (G_dog g) ht64 hd64
      have l1 := q_dist_l ht64 hd64
      have l2 := q_dist_l ha64 hd64
      have m5 : nI (q_dist (G_at g b) (G_dog g)) ≤ nI (q_dist t (G_dog g)) ↔ q_dist (G_at g b) (G_dog g) ≤ q_dist t (G_dog g) := nI_leI (by omega) (by omega)
      have m6 : nI (q_dist t (G_dog g)) ≤ nI (q_dist (G_at g b) (G_dog g)) ↔ q_dist t (G_dog g) ≤ q_dist (G_at g b) (G_dog g) := nI_leI (by omega) (by omega)
      have gd : G_ok1 f g b d = (G_fr f g t && (if F_kind f b = 3 then decide (q_dist t (G_dog g) < q_dist (G_at g b) (G_dog g)) else decide (q_dist (G_at g b) (G_dog g) < q_dist t (G_dog g)))) := by unfold G_ok1; rw [hx]
      have lp := fun z5 z6 => ih (d + 1) z5 z6 (by omega)
      simp only [e78_0, e78_1, e78_4, e78_5, e78_6, e78_7, e78_10, e78_13, e78_14, e78_15, e78_18, e78_21, e78_22, e78_23, e78_24, e78_27, e78_28, e78_31, e78_32, e78_33, e78_34, e78_38, e78_39, e78_42, e78_43, e78_46, e78_47, e78_50, e78_51, e78_52, e78_54, e78_57, e78_59, e78_61, e78_62, e78_65, e78_67, e78_68, e78_71, e78_74, e78_76, e78_77, e78_80, e78_83, e78_86, e78_87, e78_89, e78_92, e78_95, e78_98, e78_100, e78_101, e78_104, e78_107, e78_109, e78_110, e78_113, e78_115, e78_116, e78_119, e78_122, e78_124, e78_125, e78_128, e78_130, e78_131, e78_134, e78_137, e78_138, am_bd_some, Option.toList_some, Option.toList_none, List.cons_append, List.nil_append, am_w8_0, am_w8_1, am_w8_2, am_w8_3, am_w8_4, eq_self, or_true, true_or, am_kd_sI, am_kd_sL, am_kd_sR, am_tc_sI, am_tc_sL, am_tc_sR, am_len_sI, am_len_sL, am_len_sR, am_rfs, if_true, if_false, am_rdL_sI, am_rR_sL, am_rt_cq, am_kd_cq, am_tc_cq, am_len_cq, am_rd_sL, am_rd_sR, am_rdL_sR, k.1, k.2.1, q_tc k.2.2.2.1, q_ln k.2.2.2.1, r0, fo.1, h1, x, z, a1, dn, m1, m2, e1, c2, m3, m4, db, da, m5, m6, nI_1, q_bi_0, lp, q_first, gd, G_fr]
      by_cases u1 : t = G_dog g
      · simp [u1]
      · by_cases u2 : t = F_pen f
        · by_cases u3 : F_kind f b = 3
          · by_cases u4 : q_dist (G_at g b) (G_dog g) ≤ q_dist t (G_dog g)
            · have u5 : ¬ q_dist t (G_dog g) < q_dist (G_at g b) (G_dog g) := by omega
              simp [u1, u3, u4, u5]
            · have u5 : q_dist t (G_dog g) < q_dist (G_at g b) (G_dog g) := by omega
              rw [u2] at u1 u4 u5
              simp [u1, u2, u3, u4, u5, q_ov]
          · by_cases u4 : q_dist t (G_dog g) ≤ q_dist (G_at g b) (G_dog g)
            · have u5 : ¬ q_dist (G_at g b) (G_dog g) < q_dist t (G_dog g) := by omega
              simp [u1, u3, u4, u5]
            · have u5 : q_dist (G_at g b) (G_dog g) < q_dist t (G_dog g) := by omega
              rw [u2] at u1 u4 u5
              simp [u1, u2, u3, u4, u5, q_ov]
        · by_cases u6 : G_bs f g t = true
          · simp [u1, u2, u6]
          · have u7 : G_bs f g t = false := by simpa using u6
            by_cases u3 : F_kind f b = 3
            · by_cases u4 : q_dist (G_at g b) (G_dog g) ≤ q_dist t (G_dog g)
              · have u5 : ¬ q_dist t (G_dog g) < q_dist (G_at g b) (G_dog g) := by omega
                simp [u1, u2, u3, u4, u5, u7]
              · have u5 : q_dist t (G_dog g) < q_dist (G_at g b) (G_dog g) := by omega
                simp [u1, u2, u3, u4, u5, u7, q_ov]
            · by_cases u4 : q_dist t (G_dog g) ≤ q_dist (G_at g b) (G_dog g)
              · have u5 : ¬ q_dist (G_at g b) (G_dog g) < q_dist t (G_dog g) := by omega
                simp [u1, u2, u3, u4, u5, u7]
              · have u5 : q_dist (G_at g b) (G_dog g) < q_dist t (G_dog g) := by omega
                simp [u1, u2, u3, u4, u5, u7, q_ov]
theorem den_wayOpen (h : am_H) (q o : Nat) (f : q_Fl) (g : q_G) (cg : q_cg h q o f g) (wf : F_wf f) (i : G_in f g) (b : Nat) (hb : b < F_n f) : am_den 78 [.ref q, .int (nI b)] h = some (some (.int (q_ov (G_way f g b))), h) := by
  have n6 := wf.2.2.2.1
  have lp := q_way_l h q o f g cg wf i b hb 4 0 none none (by omega)
  obtain ⟨⟨k, r0, dj⟩, cf, ⟨e1, e2, e4, e5, e6⟩, ea, ew⟩ := cg
  obtain ⟨fo, c0, c1, c2, c4, c5, c6, c7⟩ := cf
  have x : am_ix (nI b) 6 = true := am_ix_nI (by omega) (by decide)
  have z : (nI b).toNatClampNeg = b := nI_clamp (by omega)
  have a1 := ea b hb
  have k1 := c7 b hb
  have kk := wf.2.2.2.2.2 b hb
  have da := den_capart h (G_at g b) (G_dog g) (i.2.2 b hb).1 i.1.1
  have hk3 : nI (F_kind f b) = 3 ↔ F_kind f b = 3 := nI_eq (b := 3) (by omega) (by decide)
  show am_ev 78 0 [some (.ref q), some (.int (nI b)), none, none, none, none, none] [] h = _
  rw [nI_0] at lp
  by_cases m : F_kind f b = 3
  · rw [if_pos m] at lp
    have m' := hk3.mpr m
    simp only [e78_0, e78_1, e78_4, e78_5, e78_6, e78_7, e78_10, e78_13, e78_14, e78_15, e78_18, e78_21, e78_22, e78_23, e78_24, e78_27, e78_28, e78_31, e78_32, e78_33, e78_34, e78_38, e78_39, e78_42, e78_43, e78_46, e78_47, e78_50, e78_51, e78_52, e78_54, e78_57, e78_59, e78_61, e78_62, e78_65, e78_67, e78_68, e78_71, e78_74, e78_76, e78_77, e78_80, e78_83, e78_86, e78_87, e78_89, e78_92, e78_95, e78_98, e78_100, e78_101, e78_104, e78_107, e78_109, e78_110, e78_113, e78_115, e78_116, e78_119, e78_122, e78_124, e78_125, e78_128, e78_130, e78_131, e78_134, e78_137, e78_138, am_bd_some, Option.toList_some, Option.toList_none, List.cons_append, List.nil_append, am_w8_0, am_w8_1, am_w8_2, am_w8_3, am_w8_4, eq_self, or_true, true_or, am_kd_sI, am_kd_sL, am_kd_sR, am_tc_sI, am_tc_sL, am_tc_sR, am_len_sI, am_len_sL, am_len_sR, am_rfs, if_true, if_false, am_rdL_sI, am_rR_sL, am_rt_cq, am_kd_cq, am_tc_cq, am_len_cq, am_rd_sL, am_rd_sR, am_rdL_sR, k.1, k.2.1, q_tc k.2.2.2.1, q_ln k.2.2.2.1, r0, fo.1, fo.2.1, q_tc fo.2.2.2.1, q_ln fo.2.2.2.1, e1, x, z, a1, k1, da, eq_true m', not_true]
    exact lp
  · rw [if_neg m] at lp
    have m' : ¬ nI (F_kind f b) = 3 := fun w => m (hk3.mp w)
    simp only [e78_0, e78_1, e78_4, e78_5, e78_6, e78_7, e78_10, e78_13, e78_14, e78_15, e78_18, e78_21, e78_22, e78_23, e78_24, e78_27, e78_28, e78_31, e78_32, e78_33, e78_34, e78_38, e78_39, e78_42, e78_43, e78_46, e78_47, e78_50, e78_51, e78_52, e78_54, e78_57, e78_59, e78_61, e78_62, e78_65, e78_67, e78_68, e78_71, e78_74, e78_76, e78_77, e78_80, e78_83, e78_86, e78_87, e78_89, e78_92, e78_95, e78_98, e78_100, e78_101, e78_104, e78_107, e78_109, e78_110, e78_113, e78_115, e78_116, e78_119, e78_122, e78_124, e78_125, e78_128, e78_130, e78_131, e78_134, e78_137, e78_138, am_bd_some, Option.toList_some, Option.toList_none, List.cons_append, List.nil_append, am_w8_0, am_w8_1, am_w8_2, am_w8_3, am_w8_4, eq_self, or_true, true_or, am_kd_sI, am_kd_sL, am_kd_sR, am_tc_sI, am_tc_sL, am_tc_sR, am_len_sI, am_len_sL, am_len_sR, am_rfs, if_true, if_false, am_rdL_sI, am_rR_sL, am_rt_cq, am_kd_cq, am_tc_cq, am_len_cq, am_rd_sL, am_rd_sR, am_rdL_sR, k.1, k.2.1, q_tc k.2.2.2.1, q_ln k.2.2.2.1, r0, fo.1, fo.2.1, q_tc fo.2.2.2.1, q_ln fo.2.2.2.1, e1, x, z, a1, k1, da, m', not_false_eq_true]
    exact lp
theorem G_way_lt {f : q_Fl} {g : q_G} {b d : Nat} (h : G_way f g b = some d) : d < 4 ∧ G_ok1 f g b d = true := by
  obtain ⟨h1, h2, h3⟩ := q_first_lt _ 4 0 d h
  exact ⟨by omega, h3⟩
theorem den_wayDriven (h : am_H) (q o : Nat) (f : q_Fl) (g : q_G) (cg : q_cg h q o f g) (wf : F_wf f) (i : G_in f g) (b : Nat) (hb : b < F_n f) : am_den 96 [.ref q, .int (nI b)] h = some (some (.int (if G_drv f g b = true then q_ov (G_way f g b) else -1)), h) := by
  have dd := den_isDriven h q o f g cg wf i b hb
  have dw := den_wayOpen h q o f g cg wf i b hb
  have k := cg.1.1
  show am_ev 96 0 [some (.ref q), some (.int (nI b))] [] h = _
  simp only [e96_0, e96_1, e96_2, e96_5, e96_8, e96_9, e96_10, e96_13, e96_16, e96_17, am_bd_some, Option.toList_some, Option.toList_none, List.cons_append, List.nil_append, am_w8_0, am_w8_1, am_w8_2, am_w8_3, am_w8_4, eq_self, or_true, true_or, am_kd_sI, am_kd_sL, am_kd_sR, am_tc_sI, am_tc_sL, am_tc_sR, am_len_sI, am_len_sL, am_len_sR, am_rfs, if_true, if_false, am_rdL_sI, am_rR_sL, am_rt_cq, am_kd_cq, am_tc_cq, am_len_cq, am_rd_sL, am_rd_sR, am_rdL_sR, k.1, dd, dw, q_bi_0]
  cases G_drv f g b
  · simp
  · simp
theorem q_cg_step {h : am_H} {q o : Nat} {f : q_Fl} {g : q_G} (cg : q_cg h q o f g) (wf : F_wf f) (b t : Nat) (hb : b < F_n f) (v : Int32) (hv : v = nI (if t = F_pen f then G_pen g ||| 2 ^ b else G_pen g)) : q_cg (am_sI (am_sI (am_sI h (q + 4) b (nI t)) (q + 5) b (nI (G_went g b + 1))) q 2 v) q o f (G_mv f g b t) := by
  obtain ⟨⟨k, r0, dj⟩, cf, ⟨e1, e2, e4, e5, e6⟩, ea, ew⟩ := cg
  obtain ⟨fo, c0, c1, c2, c4, c5, c6, c7⟩ := cf
  have rd : ∀ a j, (am_sI (am_sI (am_sI h (q + 4) b (nI t)) (q + 5) b (nI (G_went g b + 1))) q 2 v).1 a j = if a = q ∧ j = 2 then v else if a = q + 5 ∧ j = b then nI (G_went g b + 1) else if a = q + 4 ∧ j = b then nI t else h.1 a j := fun a j => rfl
  have far : ∀ a j, a = o ∨ a = o + 1 → (am_sI (am_sI (am_sI h (q + 4) b (nI t)) (q + 5) b (nI (G_went g b + 1))) q 2 v).1 a j = h.1 a j := fun a j ha => by
    rw [rd, if_neg (by omega), if_neg (by omega), if_neg (by omega)]
  refine ⟨⟨k, r0, dj⟩, ⟨fo, ?_, ?_, ?_, ?_, ?_, c6, fun b' hb' => ?_⟩, ⟨?_, ?_, ?_, ?_, ?_⟩, fun b' hb' => ?_, fun b' hb' => ?_⟩
  · rw [far _ _ (Or.inl rfl)]; exact c0
  · rw [far _ _ (Or.inl rfl)]; exact c1
  · rw [far _ _ (Or.inl rfl)]; exact c2
  · rw [far _ _ (Or.inl rfl)]; exact c4
  · rw [far _ _ (Or.inl rfl)]; exact c5
  · rw [far _ _ (Or.inr rfl)]; exact c7 b' hb'
  · rw [rd, if_neg (by omega), if_neg (by omega), if_neg (by omega)]; exact e1
  · rw [rd, if_pos ⟨rfl, rfl⟩]; exact hv
  · rw [rd, if_neg (by omega), if_neg (by omega), if_neg (by omega)]; exact e4
  · rw [rd, if_neg (by omega), if_neg (by omega), if_neg (by omega)]; exact e5
  · rw [rd, if_neg (by omega), if_neg (by omega), if_neg (by omega)]; exact e6
  · show _ = nI (q_up (G_at g) b t b')
    unfold q_up
    rw [rd, if_neg (by omega), if_neg (by omega)]
    by_cases c : b' = b
    · rw [if_pos ⟨rfl, c⟩, if_pos c]
    · rw [if_neg (fun w => c w.2), if_neg c]
      exact ea b' hb'
  · show _ = nI (q_up (G_went g) b (G_went g b + 1) b')
    unfold q_up
    rw [rd, if_neg (by omega)]
    by_cases c : b' = b
    · rw [if_pos ⟨rfl, c⟩, if_pos c]
    · rw [if_neg (fun w => c w.2), if_neg (by omega), if_neg c]
      exact ew b' hb'
theorem q_ff_step (q b : Nat) (h : am_H) (u v w : Int32) : q_ff q h (am_sI (am_sI (am_sI h (q + 4) b u) (q + 5) b v) q 2 w) := ⟨rfl, fun a k p1 p2 p3 => by
  rw [am_rd_sI, if_neg (by omega), am_rd_sI, if_neg (by omega), am_rd_sI, if_neg (by omega)]⟩
theorem den_step (h : am_H) (q o : Nat) (f : q_Fl) (g : q_G) (cg : q_cg h q o f g) (wf : F_wf f) (i : G_in f g) (b d t : Nat) (hb : b < F_n f) (hd : d < 4) (hx : F_nx f (G_at g b) d = some t) : ∃ h' : am_H, q_ff q h h' ∧ q_cg h' q o f (G_mv f g b t) ∧ am_den 81 [.ref q, .int (nI b), .int (nI d)] h = some (none, h') := by
  have n6 := wf.2.2.2.1
  have cg0 := cg
  obtain ⟨⟨k, r0, dj⟩, cf, ⟨e1, e2, e4, e5, e6⟩, ea, ew⟩ := cg
  have dn := den_next h o f cf wf (G_at g b) d (i.2.2 b hb) hd
  rw [hx] at dn
  obtain ⟨fo, c0, c1, c2, c4, c5, c6, c7⟩ := cf
  have ht := F_nx_in wf (i.2.2 b hb) hx
  have x : am_ix (nI b) 6 = true := am_ix_nI (by omega) (by decide)
  have z : (nI b).toNatClampNeg = b := nI_clamp (by omega)
  have a1 := ea b hb
  have w1 := ew b hb
  have m1 : q_ov (some t) = nI t := rfl
  have nd : ¬ nI d = -1 := fun w => by
    have := nI_pos' (n := d) (by omega)
    rw [w] at this
    exact absurd this (by decide)
  have m4 : nI t = F_pv f ↔ t = F_pen f := F_pv_eq wf ht.1
  have r5 : (am_sI h (q + 4) b (nI t)).1 (q + 5) b = nI (G_went g b) := by rw [am_rd_sI, if_neg (by omega)]; exact w1
  have r4 : (am_sI (am_sI h (q + 4) b (nI t)) (q + 5) b (nI (G_went g b + 1))).1 (q + 4) b = nI t := by rw [am_rd_sI, if_neg (by omega), am_rd_sI, if_pos ⟨rfl, rfl⟩]
  have r2 : (am_sI (am_sI h (q + 4) b (nI t)) (q + 5) b (nI (G_went g b + 1))).1 q 2 = nI (G_pen g) := by rw [am_rd_sI, if_neg (by omega), am_rd_sI, if_neg (by omega)]; exact e2
  have rp : (am_sI (am_sI h (q + 4) b (nI t)) (q + 5) b (nI (G_went g b + 1))).1 o 2 = F_pv f := by rw [am_rd_sI, if_neg (by omega), am_rd_sI, if_neg (by omega)]; exact c2
  have po := q_por (G_pen g) i.2.1 b (by omega)
  by_cases m : t = F_pen f
  · refine ⟨am_sI (am_sI (am_sI h (q + 4) b (nI t)) (q + 5) b (nI (G_went g b + 1))) q 2 (nI (G_pen g ||| 2 ^ b)), q_ff_step q b h _ _ _, q_cg_step cg0 wf b t hb _ (by rw [if_pos m]), ?_⟩
    show am_ev 81 0 [some (.ref q), some (.int (nI b)), some (.int (nI d))] [] h = _
    have m' := m4.mpr m
    simp only [e81_0, e81_1, e81_2, e81_5, e81_6, e81_7, e81_10, e81_11, e81_12, e81_15, e81_16, e81_19, e81_20, e81_21, e81_22, e81_25, e81_26, e81_27, e81_30, e81_31, e81_32, e81_33, e81_34, e81_35, e81_36, e81_37, e81_40, e81_41, e81_42, e81_43, e81_46, e81_49, e81_52, e81_53, e81_53i, e81_54, e81_57, e81_58, e81_59, e81_60, e81_61, e81_64, am_bd_some, Option.toList_some, Option.toList_none, List.cons_append, List.nil_append, am_w8_0, am_w8_1, am_w8_2, am_w8_3, am_w8_4, eq_self, or_true, true_or, am_kd_sI, am_kd_sL, am_kd_sR, am_tc_sI, am_tc_sL, am_tc_sR, am_len_sI, am_len_sL, am_len_sR, am_rfs, if_true, if_false, am_rdL_sI, am_rR_sL, am_rt_cq, am_kd_cq, am_tc_cq, am_len_cq, am_rd_sL, am_rd_sR, am_rdL_sR, nd, not_false_eq_true, k.1, k.2.1, k.2.2.1, q_tc k.2.2.2.1, q_ln k.2.2.2.1, q_tc k.2.2.2.2, q_ln k.2.2.2.2, r0, fo.1, x, z, a1, dn, m1, r5, nI_1, r4, rp, eq_true m', not_true, r2, po]
  · refine ⟨am_sI (am_sI (am_sI h (q + 4) b (nI t)) (q + 5) b (nI (G_went g b + 1))) q 2 (nI (G_pen g)), q_ff_step q b h _ _ _, q_cg_step cg0 wf b t hb _ (by rw [if_neg m]), ?_⟩
    show am_ev 81 0 [some (.ref q), some (.int (nI b)), some (.int (nI d))] [] h = _
    have m' : ¬ nI t = F_pv f := fun w => m (m4.mp w)
    rw [am_sI_id r2]
    simp only [e81_0, e81_1, e81_2, e81_5, e81_6, e81_7, e81_10, e81_11, e81_12, e81_15, e81_16, e81_19, e81_20, e81_21, e81_22, e81_25, e81_26, e81_27, e81_30, e81_31, e81_32, e81_33, e81_34, e81_35, e81_36, e81_37, e81_40, e81_41, e81_42, e81_43, e81_46, e81_49, e81_52, e81_53, e81_53i, e81_54, e81_57, e81_58, e81_59, e81_60, e81_61, e81_64, am_bd_some, Option.toList_some, Option.toList_none, List.cons_append, List.nil_append, am_w8_0, am_w8_1, am_w8_2, am_w8_3, am_w8_4, eq_self, or_true, true_or, am_kd_sI, am_kd_sL, am_kd_sR, am_tc_sI, am_tc_sL, am_tc_sR, am_len_sI, am_len_sL, am_len_sR, am_rfs, if_true, if_false, am_rdL_sI, am_rR_sL, am_rt_cq, am_kd_cq, am_tc_cq, am_len_cq, am_rd_sL, am_rd_sR, am_rdL_sR, nd, not_false_eq_true, k.1, k.2.1, k.2.2.1, q_tc k.2.2.2.1, q_ln k.2.2.2.1, q_tc k.2.2.2.2, q_ln k.2.2.2.2, r0, fo.1, x, z, a1, dn, m1, r5, nI_1, r4, rp, m']
theorem den_step0 (h : am_H) (q b : Nat) : am_den 81 [.ref q, .int (nI b), .int (-1)] h = some (none, h) := by
  show am_ev 81 0 [some (.ref q), some (.int (nI b)), some (.int (-1))] [] h = _
  simp only [e81_0, e81_1, e81_2, e81_5, e81_6, e81_7, e81_10, e81_11, e81_12, e81_15, e81_16, e81_19, e81_20, e81_21, e81_22, e81_25, e81_26, e81_27, e81_30, e81_31, e81_32, e81_33, e81_34, e81_35, e81_36, e81_37, e81_40, e81_41, e81_42, e81_43, e81_46, e81_49, e81_52, e81_53, e81_53i, e81_54, e81_57, e81_58, e81_59, e81_60, e81_61, e81_64, am_bd_some, Option.toList_some, Option.toList_none, List.cons_append, List.nil_append, am_w8_0, am_w8_1, am_w8_2, am_w8_3, am_w8_4, eq_self, or_true, true_or, am_kd_sI, am_kd_sL, am_kd_sR, am_tc_sI, am_tc_sL, am_tc_sR, am_len_sI, am_len_sL, am_len_sR, am_rfs, if_true, if_false, am_rdL_sI, am_rR_sL, am_rt_cq, am_kd_cq, am_tc_cq, am_len_cq, am_rd_sL, am_rd_sR, am_rdL_sR, not_true]
/-- a step by its own way -/
theorem den_step1 (h : am_H) (q o : Nat) (f : q_Fl) (g : q_G) (cg : q_cg h q o f g) (wf : F_wf f) (i : G_in f g) (b : Nat) (hb : b < F_n f) : ∃ h' : am_H, q_ff q h h' ∧ q_cg h' q o f (G_s1 f g b) ∧ am_den 81 [.ref q, .int (nI b), .int (q_ov (G_way f g b))] h = some (none, h') := by
  unfold G_s1
  cases hw : G_way f g b with
  | none => exact ⟨h, q_ff.rf q h, cg, den_step0 h q b⟩
  | some d =>
    obtain ⟨d4, dk⟩ := G_way_lt hw
    show ∃ h' : am_H, q_ff q h h' ∧ q_cg h' q o f (G_st f g b d) ∧ _
    unfold G_st
    cases hx : F_nx f (G_at g b) d with
    | none =>
      unfold G_ok1 at dk
      rw [hx] at dk
      cases dk
    | some t => exact den_step h q o f g cg wf i b d t hb d4 hx
theorem den_goes (h : am_H) (q o : Nat) (f : q_Fl) (g : q_G) (cg : q_cg h q o f g) (wf : F_wf f) (i : G_in f g) (b : Nat) (hb : b < F_n f) : ∃ h' : am_H, q_ff q h h' ∧ q_cg h' q o f (G_go f g b) ∧ am_den 74 [.ref q, .int (nI b)] h = some (some (.int (q_bi (G_went1 f g b))), h') := by
  have n6 := wf.2.2.2.1
  have dd := den_isDriven h q o f g cg wf i b hb
  have dw := den_wayOpen h q o f g cg wf i b hb
  have k := cg.1.1
  show ∃ h' : am_H, q_ff q h h' ∧ q_cg h' q o f (G_go f g b) ∧ am_ev 74 0 [some (.ref q), some (.int (nI b)), none] [] h = _
  unfold G_go G_went1
  cases hdr : G_drv f g b with
  | false =>
    rw [hdr] at dd
    refine ⟨h, q_ff.rf q h, cg, ?_⟩
    have y : q_bi false = 0 := rfl
    simp only [e74_0, e74_1, e74_2, e74_5, e74_8, e74_9, e74_10, e74_13, e74_16, e74_17, e74_18, e74_19, e74_20, e74_23, e74_24, e74_25, e74_26, e74_27, e74_28, e74_31, e74_32, e74_35, e74_38, e74_39, e74_40, e74_41, e74_44, e74_45, e74_46, e74_49, e74_52, e74_53, e74_54, e74_55, e74_56, e74_59, e74_62, e74_63, am_bd_some, Option.toList_some, Option.toList_none, List.cons_append, List.nil_append, am_w8_0, am_w8_1, am_w8_2, am_w8_3, am_w8_4, eq_self, or_true, true_or, am_kd_sI, am_kd_sL, am_kd_sR, am_tc_sI, am_tc_sL, am_tc_sR, am_len_sI, am_len_sL, am_len_sR, am_rfs, if_true, if_false, am_rdL_sI, am_rR_sL, am_rt_cq, am_kd_cq, am_tc_cq, am_len_cq, am_rd_sL, am_rd_sR, am_rdL_sR, k.1, dd, y, not_true, Bool.false_and]
  | true =>
    rw [hdr] at dd
    have y : ¬ q_bi true = 0 := by decide
    obtain ⟨h1, f1, g1, s1⟩ := den_step1 h q o f g cg wf i b hb
    have i1 := G_s1_in (b := b) wf i hb
    cases hw : G_way f g b with
    | none =>
      rw [hw] at dw
      have e1 : G_s1 f g b = g := by unfold G_s1; rw [hw]
      have m1 : q_ov none = -1 := rfl
      have y0 : q_bi false = 0 := rfl
      refine ⟨h, q_ff.rf q h, ?_, ?_⟩
      · rw [if_pos rfl, e1, e1]
        split <;> exact cg
      · simp only [e74_0, e74_1, e74_2, e74_5, e74_8, e74_9, e74_10, e74_13, e74_16, e74_17, e74_18, e74_19, e74_20, e74_23, e74_24, e74_25, e74_26, e74_27, e74_28, e74_31, e74_32, e74_35, e74_38, e74_39, e74_40, e74_41, e74_44, e74_45, e74_46, e74_49, e74_52, e74_53, e74_54, e74_55, e74_56, e74_59, e74_62, e74_63, am_bd_some, Option.toList_some, Option.toList_none, List.cons_append, List.nil_append, am_w8_0, am_w8_1, am_w8_2, am_w8_3, am_w8_4, eq_self, or_true, true_or, am_kd_sI, am_kd_sL, am_kd_sR, am_tc_sI, am_tc_sL, am_tc_sR, am_len_sI, am_len_sL, am_len_sR, am_rfs, if_true, if_false, am_rdL_sI, am_rR_sL, am_rt_cq, am_kd_cq, am_tc_cq, am_len_cq, am_rd_sL, am_rd_sR, am_rdL_sR, k.1, dd, y, dw, m1, not_true, Option.isSome, Bool.true_and, y0]
    | some d =>
      rw [hw] at dw s1
      have d4 := (G_way_lt hw).1
      have m1 : q_ov (some d) = nI d := rfl
      rw [m1] at dw s1
      have nd : ¬ nI d = -1 := fun w => by
        have := nI_pos' (n := d) (by omega)
        rw [w] at this
        exact absurd this (by decide)
      have k' := g1.1.1
      have x : am_ix (nI b) 6 = true := am_ix_nI (by omega) (by decide)
      have z : (nI b).toNatClampNeg = b := nI_clamp (by omega)
      have fo' := g1.2.1.1
      have r0' := g1.1.2.1
      have k1 := g1.2.1.2.2.2.2.2.2.2 b hb
      have kk := wf.2.2.2.2.2 b hb
      have hk2 : nI (F_kind f b) = 2 ↔ F_kind f b = 2 := nI_eq (b := 2) (by omega) (by decide)
      have dp := den_isPenned h1 q o f (G_s1 f g b) g1 i1 b (by omega)
      have y1 : q_bi true = 1 := rfl
      have y10 : ¬ (1 : Int32) = 0 := by decide
      by_cases m : F_kind f b = 2
      · have m' := hk2.mpr m
        cases hp : G_pnd (G_s1 f g b) b with
        | true =>
          rw [hp] at dp
          refine ⟨h1, f1, ?_, ?_⟩
          · rw [if_pos rfl, if_neg (fun w => by cases w.2)]
            exact g1
          · simp only [e74_0, e74_1, e74_2, e74_5, e74_8, e74_9, e74_10, e74_13, e74_16, e74_17, e74_18, e74_19, e74_20, e74_23, e74_24, e74_25, e74_26, e74_27, e74_28, e74_31, e74_32, e74_35, e74_38, e74_39, e74_40, e74_41, e74_44, e74_45, e74_46, e74_49, e74_52, e74_53, e74_54, e74_55, e74_56, e74_59, e74_62, e74_63, am_bd_some, Option.toList_some, Option.toList_none, List.cons_append, List.nil_append, am_w8_0, am_w8_1, am_w8_2, am_w8_3, am_w8_4, eq_self, or_true, true_or, am_kd_sI, am_kd_sL, am_kd_sR, am_tc_sI, am_tc_sL, am_tc_sR, am_len_sI, am_len_sL, am_len_sR, am_rfs, if_true, if_false, am_rdL_sI, am_rR_sL, am_rt_cq, am_kd_cq, am_tc_cq, am_len_cq, am_rd_sL, am_rd_sR, am_rdL_sR, k.1, dd, y, dw, nd, not_false_eq_true, s1, k'.1, r0', fo'.1, fo'.2.1, q_tc fo'.2.2.2.1, q_ln fo'.2.2.2.1, x, z, k1, eq_true m', not_true, dp, Option.isSome, Bool.true_and, y1, y10]
        | false =>
          rw [hp] at dp
          have y0 : q_bi false = 0 := rfl
          have dw2 := den_wayOpen h1 q o f (G_s1 f g b) g1 wf i1 b hb
          obtain ⟨h2, f2, g2, s2⟩ := den_step1 h1 q o f (G_s1 f g b) g1 wf i1 b hb
          refine ⟨h2, f1.tr f2, ?_, ?_⟩
          · rw [if_pos rfl, if_pos ⟨m, rfl⟩]
            exact g2
          · simp only [e74_0, e74_1, e74_2, e74_5, e74_8, e74_9, e74_10, e74_13, e74_16, e74_17, e74_18, e74_19, e74_20, e74_23, e74_24, e74_25, e74_26, e74_27, e74_28, e74_31, e74_32, e74_35, e74_38, e74_39, e74_40, e74_41, e74_44, e74_45, e74_46, e74_49, e74_52, e74_53, e74_54, e74_55, e74_56, e74_59, e74_62, e74_63, am_bd_some, Option.toList_some, Option.toList_none, List.cons_append, List.nil_append, am_w8_0, am_w8_1, am_w8_2, am_w8_3, am_w8_4, eq_self, or_true, true_or, am_kd_sI, am_kd_sL, am_kd_sR, am_tc_sI, am_tc_sL, am_tc_sR, am_len_sI, am_len_sL, am_len_sR, am_rfs, if_true, if_false, am_rdL_sI, am_rR_sL, am_rt_cq, am_kd_cq, am_tc_cq, am_len_cq, am_rd_sL, am_rd_sR, am_rdL_sR, k.1, dd, y, dw, nd, not_false_eq_true, s1, k'.1, r0', fo'.1, fo'.2.1, q_tc fo'.2.2.2.1, q_ln fo'.2.2.2.1, x, z, k1, eq_true m', not_true, dp, y0, dw2, s2, Option.isSome, Bool.true_and, y1, y10]
      · have m' : ¬ nI (F_kind f b) = 2 := fun w => m (hk2.mp w)
        refine ⟨h1, f1, ?_, ?_⟩
        · rw [if_pos rfl, if_neg (fun w => m w.1)]
          exact g1
        · simp only [e74_0, e74_1, e74_2, e74_5, e74_8, e74_9, e74_10, e74_13, e74_16, e74_17, e74_18, e74_19, e74_20, e74_23, e74_24, e74_25, e74_26, e74_27, e74_28, e74_31, e74_32, e74_35, e74_38, e74_39, e74_40, e74_41, e74_44, e74_45, e74_46, e74_49, e74_52, e74_53, e74_54, e74_55, e74_56, e74_59, e74_62, e74_63, am_bd_some, Option.toList_some, Option.toList_none, List.cons_append, List.nil_append, am_w8_0, am_w8_1, am_w8_2, am_w8_3, am_w8_4, eq_self, or_true, true_or, am_kd_sI, am_kd_sL, am_kd_sR, am_tc_sI, am_tc_sL, am_tc_sR, am_len_sI, am_len_sL, am_len_sR, am_rfs, if_true, if_false, am_rdL_sI, am_rR_sL, am_rt_cq, am_kd_cq, am_tc_cq, am_len_cq, am_rd_sL, am_rd_sR, am_rdL_sR, k.1, dd, y, dw, nd, not_false_eq_true, s1, k'.1, r0', fo'.1, fo'.2.1, q_tc fo'.2.2.2.1, q_ln fo'.2.2.2.1, x, z, k1, m', Option.isSome, Bool.true_and, y1, y10]
