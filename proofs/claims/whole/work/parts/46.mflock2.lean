/-! part 46: the reference's flock goes -/
theorem q_or_b : ∀ m, m < 64 → ∀ b, b < 6 → ∀ c, c < 6 → (m ||| 2 ^ b).testBit c = (m.testBit c || decide (c = b)) := by decide +kernel
theorem G_mv_pi {f : q_Fl} {g : q_G} {b t : Nat} (wf : F_wf f) (i : G_in f g) (p : G_pi f g) (hb : b < F_n f) (hp : G_pnd g b = false) : G_pi f (G_mv f g b t) := by
  have n6 := wf.2.2.2.1
  intro c hc
  show (if t = F_pen f then G_pen g ||| 2 ^ b else G_pen g).testBit c = decide (q_up (G_at g) b t c = F_pen f)
  unfold q_up
  have pc := p c hc
  unfold G_pnd at pc hp
  by_cases m : t = F_pen f
  · rw [if_pos m, q_or_b _ i.2.1 b (by omega) c (by omega)]
    by_cases k : c = b
    · rw [if_pos k, k, hp]
      simp [m]
    · rw [if_neg k, pc]
      simp [k]
  · rw [if_neg m]
    by_cases k : c = b
    · rw [if_pos k, k, hp]
      simp [m]
    · rw [if_neg k, pc]
theorem G_s1_pi {f : q_Fl} {g : q_G} {b : Nat} (wf : F_wf f) (i : G_in f g) (p : G_pi f g) (hb : b < F_n f) (hp : G_pnd g b = false) : G_pi f (G_s1 f g b) := by
  unfold G_s1
  split
  · exact p
  · unfold G_st
    split
    · exact p
    · exact G_mv_pi wf i p hb hp
theorem G_drv_np {f : q_Fl} {g : q_G} {b : Nat} (h : G_drv f g b = true) : G_pnd g b = false := by
  unfold G_drv at h
  cases hp : G_pnd g b with
  | false => rfl
  | true => rw [hp] at h; simp at h
theorem G_go_pi {f : q_Fl} {g : q_G} {b : Nat} (wf : F_wf f) (i : G_in f g) (p : G_pi f g) (hb : b < F_n f) : G_pi f (G_go f g b) := by
  unfold G_go
  split
  · rename_i hd
    have p1 := G_s1_pi wf i p hb (G_drv_np hd)
    split
    · rename_i hk
      exact G_s1_pi wf (G_s1_in wf i hb) p1 hb hk.2
    · exact p1
  · exact p
theorem G_all_pi {f : q_Fl} (wf : F_wf f) : ∀ r b g, b + r = F_n f → G_in f g → G_pi f g → G_pi f (G_all f r b g) := by
  intro r
  induction r with
  | zero => intro b g _ _ p; exact p
  | succ r ih => intro b g hb i p; exact ih (b + 1) _ (by omega) (G_go_in wf i (by omega)) (G_go_pi wf i p (by omega))
theorem den_mdriven (h : am_H) (f : q_Fl) (g : q_G) (mg : q_mg h f g) (wf : F_wf f) (i : G_in f g) (b : Nat) (hb : b < F_n f) : am_den 219 [.ref 211, .int (nI b)] h = some (some (.int (q_bi (G_drv f g b))), h) := by
  have n6 := wf.2.2.2.1
  have mf := mg.1
  have da := den_msteps h f mf wf (G_at g b) (G_dog g) (i.2.2 b hb) i.1
  obtain ⟨⟨ok, a1, a2, a3, a4, a5, a6, a7⟩, ⟨e1, e2, e3, e4, e5⟩, ea, ew⟩ := mg
  have x : am_ix (nI b) 6 = true := am_ix_nI (by omega) (by decide)
  have z : (nI b).toNatClampNeg = b := nI_clamp (by omega)
  have s1 := ea b hb
  have k1 := a7 b hb
  have kk := wf.2.2.2.2.2 b hb
  have ey := wf.2.2.1
  have dh := den_mhas h (G_pen g) b i.2.1 (by omega)
  have hk1 : nI (F_kind f b) = 1 ↔ F_kind f b = 1 := nI_eq (b := 1) (by omega) (by decide)
  have dl := q_dist_l (i.2.2 b hb).1 i.1.1
  have c1l : (1 : Int32) < nI (q_dist (G_at g b) (G_dog g)) ↔ 1 < q_dist (G_at g b) (G_dog g) := nI_ltI (a := 1) (by decide) (by omega)
  have cel : nI (F_eye f) < nI (q_dist (G_at g b) (G_dog g)) ↔ F_eye f < q_dist (G_at g b) (G_dog g) := nI_ltI (by omega) (by omega)
  have pd : (G_pen g).testBit b = G_pnd g b := rfl
  rw [pd] at dh
  show am_ev 219 0 [some (.ref 211), some (.int (nI b))] [] h = _
  simp only [e219_0, e219_1, e219_4, e219_5, e219_8, e219_11, e219_12, e219_15, e219_18, e219_19, e219_22, e219_25, e219_26, e219_27, e219_30, e219_31, e219_32, e219_33, e219_36, e219_39, e219_40, e219_43, e219_44, e219_45, e219_46, e219_49, e219_50, e219_53, e219_54, e219_57, e219_60, e219_61, e219_64, e219_65, am_bd_some, Option.toList_some, Option.toList_none, List.cons_append, List.nil_append, am_w8_0, am_w8_1, am_w8_2, am_w8_3, am_w8_4, eq_self, or_true, true_or, am_kd_sI, am_kd_sL, am_kd_sR, am_tc_sI, am_tc_sL, am_tc_sR, am_len_sI, am_len_sL, am_len_sR, am_rfs, if_true, if_false, am_rdL_sI, am_rR_sL, am_rt_cq, am_kd_cq, am_tc_cq, am_len_cq, am_rd_sL, am_rd_sR, am_rdL_sR, okK_211 ok, okR_211_35 ok, okR_211_36 ok, okT_224 ok, okL_224 ok, okT_225 ok, okL_225 ok, e1, e2, e3, e4, a4, dh, x, z, s1, k1, da, hk1, c1l, cel, q_bi_0, G_drv]
  cases G_pnd g b
  · cases G_lies g
    · cases G_back g
      · by_cases m : F_kind f b = 1
        · by_cases m2 : 1 < q_dist (G_at g b) (G_dog g)
          · have m3 : ¬ q_dist (G_at g b) (G_dog g) ≤ 1 := by omega
            simp [m, m2, m3, q_bi]
          · have m3 : q_dist (G_at g b) (G_dog g) ≤ 1 := by omega
            simp [m, m2, m3, q_bi]
        · by_cases m2 : F_eye f < q_dist (G_at g b) (G_dog g)
          · have m3 : ¬ q_dist (G_at g b) (G_dog g) ≤ F_eye f := by omega
            simp [m, m2, m3, q_bi]
          · have m3 : q_dist (G_at g b) (G_dog g) ≤ F_eye f := by omega
            simp [m, m2, m3, q_bi]
      · simp [q_bi]
    · simp [q_bi]
  · simp [q_bi]
theorem q_mway_l (h : am_H) (f : q_Fl) (g : q_G) (mg : q_mg h f g) (wf : F_wf f) (i : G_in f g) (p : G_pi f g) (b : Nat) (hb : b < F_n f) : ∀ (r d : Nat) (z3 z4 z5 : Option Value), d + r = 4 → am_ev 223 2 [some (.ref 211), some (.int (nI b)), some (.int (nI d)), z3, z4, z5] [] h = some (some (.int (q_ov (q_first (G_ok1 f g b) r d))), h) := by
  have n6 := wf.2.2.2.1
  have mf := mg.1
  have mg0 := mg
  have hin := i.2.2 b hb
  have nx := fun d (hd : d < 4) => den_mnext h f mf wf (G_at g b) d hin hd
  have da := den_msteps h f mf wf (G_at g b) (G_dog g) hin i.1
  obtain ⟨⟨ok, a1, a2, a3, a4, a5, a6, a7⟩, ⟨e1, e2, e3, e4, e5⟩, ea, ew⟩ := mg
  have x : am_ix (nI b) 6 = true := am_ix_nI (by omega) (by decide)
  have z : (nI b).toNatClampNeg = b := nI_clamp (by omega)
  have s1 := ea b hb
  have k1 := a7 b hb
  have kk := wf.2.2.2.2.2 b hb
  have hk3 : nI (F_kind f b) = 3 ↔ F_kind f b = 3 := nI_eq (b := 3) (by omega) (by decide)
  intro r
  induction r with
  | zero =>
    intro d z3 z4 z5 hd
    obtain rfl : d = 4 := by omega
    have h1 : (4 : Int32) ≤ nI 4 := by decide
    rw [e223_2]
    simp only [e223_0, e223_1, e223_3, e223_4, e223_7, e223_8, e223_9, e223_12, e223_13, e223_14, e223_15, e223_18, e223_19, e223_20, e223_21, e223_24, e223_25, e223_28, e223_29, e223_30, e223_31, e223_34, e223_37, e223_38, e223_39, e223_42, e223_43, e223_44, e223_45, e223_48, e223_51, e223_52, e223_54, e223_55, e223_56, e223_59, e223_60, e223_63, e223_64, e223_64z, e223_65, e223_68, e223_69, e223_70, e223_73, e223_76, e223_77, e223_78, e223_81, e223_84, e223_85, e223_88, e223_89, e223_91, e223_93, e223_96, e223_97, e223_100, e223_101, e223_102, e223_103, e223_106, e223_108, e223_111, e223_114, e223_116, e223_119, e223_120, e223_121, e223_124, e223_127, e223_128, am_bd_some, Option.toList_some, Option.toList_none, List.cons_append, List.nil_append, am_w8_0, am_w8_1, am_w8_2, am_w8_3, am_w8_4, eq_self, or_true, true_or, am_kd_sI, am_kd_sL, am_kd_sR, am_tc_sI, am_tc_sL, am_tc_sR, am_len_sI, am_len_sL, am_len_sR, am_rfs, if_true, if_false, am_rdL_sI, am_rR_sL, am_rt_cq, am_kd_cq, am_tc_cq, am_len_cq, am_rd_sL, am_rd_sR, am_rdL_sR, h1, q_first, q_ov]
  | succ r ih =>
    intro d z3 z4 z5 hd
    have h1 : ¬ (4 : Int32) ≤ nI d := fun w => nI_ge (b := 4) (a := d) (by omega) (by decide) w
    have dn := nx d (by omega)
    have lp := fun z3 z4 z5 => ih (d + 1) z3 z4 z5 (by omega)
    rw [e223_2]
    cases hx : F_gx f (G_at g b) d with
    | none =>
      rw [hx] at dn
      have g1 : ¬ G_ok1 f g b d = true := by unfold G_ok1 F_nx; rw [hx]; exact Bool.false_ne_true
      have m1 : q_nv f none = -1 := rfl
      simp only [e223_0, e223_1, e223_3, e223_4, e223_7, e223_8, e223_9, e223_12, e223_13, e223_14, e223_15, e223_18, e223_19, e223_20, e223_21, e223_24, e223_25, e223_28, e223_29, e223_30, e223_31, e223_34, e223_37, e223_38, e223_39, e223_42, e223_43, e223_44, e223_45, e223_48, e223_51, e223_52, e223_54, e223_55, e223_56, e223_59, e223_60, e223_63, e223_64, e223_64z, e223_65, e223_68, e223_69, e223_70, e223_73, e223_76, e223_77, e223_78, e223_81, e223_84, e223_85, e223_88, e223_89, e223_91, e223_93, e223_96, e223_97, e223_100, e223_101, e223_102, e223_103, e223_106, e223_108, e223_111, e223_114, e223_116, e223_119, e223_120, e223_121, e223_124, e223_127, e223_128, am_bd_some, Option.toList_some, Option.toList_none, List.cons_append, List.nil_append, am_w8_0, am_w8_1, am_w8_2, am_w8_3, am_w8_4, eq_self, or_true, true_or, am_kd_sI, am_kd_sL, am_kd_sR, am_tc_sI, am_tc_sL, am_tc_sR, am_len_sI, am_len_sL, am_len_sR, am_rfs, if_true, if_false, am_rdL_sI, am_rR_sL, am_rt_cq, am_kd_cq, am_tc_cq, am_len_cq, am_rd_sL, am_rd_sR, am_rdL_sR, okK_211 ok, okR_211_36 ok, okT_225 ok, okL_225 ok, h1, x, z, s1, dn, m1, not_true, nI_1, q_first, if_neg g1]
      exact lp _ _ _
    | some t =>
      rw [hx] at dn
      have ht := F_gx_in wf hin hx
      have ht64 := ht.1
      have tl := q_nm_64 wf ht
      have dl := q_nm_64 wf i.1
      have m1 : q_nv f (some t) = nI (q_nm f t) := rfl
      have m2 : ¬ nI (q_nm f t) = -1 := fun w => by
        have := nI_pos' (n := q_nm f t) (by omega)
        rw [w] at this
        exact absurd this (by decide)
      have dt := den_msteps h f mf wf t (G_dog g) ht i.1
      have xt : am_ix (nI (q_nm f t)) 64 = true := am_ix_nI tl (by decide)
      have zt : (nI (q_nm f t)).toNatClampNeg = q_nm f t := nI_clamp (by omega)
      have wt := a6 t ht
      have m3 : nI (q_nm f t) = nI (q_nm f (G_dog g)) ↔ t = G_dog g := (nI_eq (by omega) (by omega)).trans (q_nm_inj ht i.1)
      have db := den_iba h f g mg0 wf i p t ht
      have l1 := q_dist_l ht64 i.1.1
      have l2 := q_dist_l hin.1 i.1.1
      have sb := pk_sub_toInt (a := q_dist t (G_dog g)) (b := q_dist (G_at g b) (G_dog g)) (by omega) (by omega)
      have m5 : 0 ≤ nI (q_dist t (G_dog g)) - nI (q_dist (G_at g b) (G_dog g)) ↔ q_dist (G_at g b) (G_dog g) ≤ q_dist t (G_dog g) := by
        rw [Int32.le_iff_toInt_le, sb]
        show (0 : Int) ≤ _ ↔ _
        omega
      have m6 : nI (q_dist t (G_dog g)) - nI (q_dist (G_at g b) (G_dog g)) ≤ 0 ↔ q_dist t (G_dog g) ≤ q_dist (G_at g b) (G_dog g) := by
        rw [Int32.le_iff_toInt_le, sb]
        show _ ≤ (0 : Int) ↔ _
        omega
      cases hwl : F_wall f t with
      | true =>
        have g1 : ¬ G_ok1 f g b d = true := by
          have : F_nx f (G_at g b) d = none := by unfold F_nx; rw [hx]; show (if F_wall f t = true then none else some t) = none; rw [if_pos hwl]
          unfold G_ok1
          rw [this]
          exact Bool.false_ne_true
        rw [hwl] at wt
        have y : ¬ q_bi true = 0 := by decide
        simp only [e223_0, e223_1, e223_3, e223_4, e223_7, e223_8, e223_9, e223_12, e223_13, e223_14, e223_15, e223_18, e223_19, e223_20, e223_21, e223_24, e223_25, e223_28, e223_29, e223_30, e223_31, e223_34, e223_37, e223_38, e223_39, e223_42, e223_43, e223_44, e223_45, e223_48, e223_51, e223_52, e223_54, e223_55, e223_56, e223_59, e223_60, e223_63, e223_64, e223_64z, e223_65, e223_68, e223_69, e223_70, e223_73, e223_76, e223_77, e223_78, e223_81, e223_84, e223_85, e223_88, e223_89, e223_91, e223_93, e223_96, e223_97, e223_100, e223_101, e223_102, e223_103, e223_106, e223_108, e223_111, e223_114, e223_116, e223_119, e223_120, e223_121, e223_124, e223_127, e223_128, am_bd_some, Option.toList_some, Option.toList_none, List.cons_append, List.nil_append, am_w8_0, am_w8_1, am_w8_2, am_w8_3, am_w8_4, eq_self, or_true, true_or, am_kd_sI, am_kd_sL, am_kd_sR, am_tc_sI, am_tc_sL, am_tc_sR, am_len_sI, am_len_sL, am_len_sR, am_rfs, if_true, if_false, am_rdL_sI, am_rR_sL, am_rt_cq, am_kd_cq, am_tc_cq, am_len_cq, am_rd_sL, am_rd_sR, am_rdL_sR, okK_211 ok, okR_211_34 ok, okR_211_36 ok, okT_225 ok, okL_225 ok, okT_223 ok, okL_223 ok, h1, x, z, s1, dn, m1, m2, not_false_eq_true, e1, dt, da, xt, zt, wt, y, nI_1, q_first, if_neg g1]
        exact lp _ _ _
      | false =>
        have gx : F_nx f (G_at g b) d = some t := by unfold F_nx; rw [hx]; show (if F_wall f t = true then none else some t) = some t; rw [hwl]; rfl
        have gd : G_ok1 f g b d = (G_fr f g t && (if F_kind f b = 3 then decide (q_dist t (G_dog g) < q_dist (G_at g b) (G_dog g)) else decide (q_dist (G_at g b) (G_dog g) < q_dist t (G_dog g)))) := by unfold G_ok1; rw [gx]
        rw [hwl] at wt
        have y : q_bi false = 0 := rfl
        simp only [e223_0, e223_1, e223_3, e223_4, e223_7, e223_8, e223_9, e223_12, e223_13, e223_14, e223_15, e223_18, e223_19, e223_20, e223_21, e223_24, e223_25, e223_28, e223_29, e223_30, e223_31, e223_34, e223_37, e223_38, e223_39, e223_42, e223_43, e223_44, e223_45, e223_48, e223_51, e223_52, e223_54, e223_55, e223_56, e223_59, e223_60, e223_63, e223_64, e223_64z, e223_65, e223_68, e223_69, e223_70, e223_73, e223_76, e223_77, e223_78, e223_81, e223_84, e223_85, e223_88, e223_89, e223_91, e223_93, e223_96, e223_97, e223_100, e223_101, e223_102, e223_103, e223_106, e223_108, e223_111, e223_114, e223_116, e223_119, e223_120, e223_121, e223_124, e223_127, e223_128, am_bd_some, Option.toList_some, Option.toList_none, List.cons_append, List.nil_append, am_w8_0, am_w8_1, am_w8_2, am_w8_3, am_w8_4, eq_self, or_true, true_or, am_kd_sI, am_kd_sL, am_kd_sR, am_tc_sI, am_tc_sL, am_tc_sR, am_len_sI, am_len_sL, am_len_sR, am_rfs, if_true, if_false, am_rdL_sI, am_rR_sL, am_rt_cq, am_kd_cq, am_tc_cq, am_len_cq, am_rd_sL, am_rd_sR, am_rdL_sR, okK_211 ok, okR_211_34 ok, okR_211_35 ok, okR_211_36 ok, okT_224 ok, okL_224 ok, okT_225 ok, okL_225 ok, okT_223 ok, okL_223 ok, h1, x, z, s1, k1, dn, m1, m2, not_false_eq_true, e1, dt, da, xt, zt, wt, y, not_true, m3, db, hk3, m5, m6, nI_1, lp, q_first, gd, G_fr, q_bi_0]
        by_cases u1 : t = G_dog g
        · simp [u1]
        · by_cases u2 : t = F_pen f
          · by_cases u3 : F_kind f b = 3
            · by_cases u4 : q_dist (G_at g b) (G_dog g) ≤ q_dist t (G_dog g)
              · have u5 : ¬ q_dist t (G_dog g) < q_dist (G_at g b) (G_dog g) := by omega
                rw [u2] at u1 u4 u5
                simp [u1, u2, u3, u4, u5]
              · have u5 : q_dist t (G_dog g) < q_dist (G_at g b) (G_dog g) := by omega
                rw [u2] at u1 u4 u5
                simp [u1, u2, u3, u4, u5, q_ov]
            · by_cases u4 : q_dist t (G_dog g) ≤ q_dist (G_at g b) (G_dog g)
              · have u5 : ¬ q_dist (G_at g b) (G_dog g) < q_dist t (G_dog g) := by omega
                rw [u2] at u1 u4 u5
                simp [u1, u2, u3, u4, u5]
              · have u5 : q_dist (G_at g b) (G_dog g) < q_dist t (G_dog g) := by omega
                rw [u2] at u1 u4 u5
                simp [u1, u2, u3, u4, u5, q_ov]
          · by_cases u6 : G_bs f g t = true
            · simp [u1, u2, u6]
            · have u7 : G_bs f g t = false := by simpa using u6
              by_cases u3 : F_kind f b = 3
              · by_cases u4 : q_dist (G_at g b) (G_dog g) ≤ q_dist t (G_dog g)
                · have u5 : ¬ q_dist t (G_dog g) < q_dist (G_at g b) (G_dog g) := by omega
                  simp [u1, u2, u3, u4, u5, u7]
                · have u5 : q_dist t (G_dog g) < q_dist (G_at g b) (G_dog g) := by omega
                  simp [u1, u2, u3, u4, u5, u7, q_ov]
              · by_cases u4 : q_dist t (G_dog g) ≤ q_dist (G_at g b) (G_dog g)
                · have u5 : ¬ q_dist (G_at g b) (G_dog g) < q_dist t (G_dog g) := by omega
                  simp [u1, u2, u3, u4, u5, u7]
                · have u5 : q_dist (G_at g b) (G_dog g) < q_dist t (G_dog g) := by omega
                  simp [u1, u2, u3, u4, u5, u7, q_ov]
theorem den_mway (h : am_H) (f : q_Fl) (g : q_G) (mg : q_mg h f g) (wf : F_wf f) (i : G_in f g) (p : G_pi f g) (b : Nat) (hb : b < F_n f) : am_den 223 [.ref 211, .int (nI b)] h = some (some (.int (q_ov (G_way f g b))), h) := by
  have lp := q_mway_l h f g mg wf i p b hb 4 0 none none none (by omega)
  rw [nI_0] at lp
  show am_ev 223 0 [some (.ref 211), some (.int (nI b)), none, none, none, none] [] h = _
  simp only [e223_0, e223_1, e223_3, e223_4, e223_7, e223_8, e223_9, e223_12, e223_13, e223_14, e223_15, e223_18, e223_19, e223_20, e223_21, e223_24, e223_25, e223_28, e223_29, e223_30, e223_31, e223_34, e223_37, e223_38, e223_39, e223_42, e223_43, e223_44, e223_45, e223_48, e223_51, e223_52, e223_54, e223_55, e223_56, e223_59, e223_60, e223_63, e223_64, e223_64z, e223_65, e223_68, e223_69, e223_70, e223_73, e223_76, e223_77, e223_78, e223_81, e223_84, e223_85, e223_88, e223_89, e223_91, e223_93, e223_96, e223_97, e223_100, e223_101, e223_102, e223_103, e223_106, e223_108, e223_111, e223_114, e223_116, e223_119, e223_120, e223_121, e223_124, e223_127, e223_128, am_bd_some, Option.toList_some, Option.toList_none, List.cons_append, List.nil_append, am_w8_0, am_w8_1, am_w8_2, am_w8_3, am_w8_4, eq_self, or_true, true_or, am_kd_sI, am_kd_sL, am_kd_sR, am_tc_sI, am_tc_sL, am_tc_sR, am_len_sI, am_len_sL, am_len_sR, am_rfs, if_true, if_false, am_rdL_sI, am_rR_sL, am_rt_cq, am_kd_cq, am_tc_cq, am_len_cq, am_rd_sL, am_rd_sR, am_rdL_sR]
  exact lp
