/-! part 9B: the reference: all goings -/
theorem q_mg_set {h : am_H} {f : q_Fl} {g : q_G} (m : q_mg h f g) (h1 : F_n f = 1) (gl : G_lies g = false) (gb : G_back g = false) (x y : Nat) : q_mg (am_sI (am_sI (am_sI h 211 28 (nI (q_nm f x))) 225 0 (nI (q_nm f y))) 211 31 0) f (G_sx x y (G_min g) (G_went g 0)) := by
  obtain ⟨⟨ok, a1, a2, a3, a4, a5, a6, a7⟩, ⟨e1, e2, e3, e4, e5⟩, ea, ew⟩ := m
  rw [gl] at e3
  rw [gb] at e4
  refine ⟨⟨ok, a1, a2, a3, a4, a5, a6, a7⟩, ⟨rfl, rfl, e3, e4, e5⟩, fun b hb => ?_, fun b hb => ?_⟩
  · obtain rfl : b = 0 := by omega
    rfl
  · obtain rfl : b = 0 := by omega
    exact ew 0 hb
theorem q_d64 {s : Nat} (hs : s < 4096) : nI s / 64 = nI (s / 64) ∧ nI s - nI (s / 64) * 64 = nI (s % 64) := by
  have e1 : nI s / 64 = nI (s / 64) := pk_div (d := 64) (by omega) (by decide) (by decide)
  have e2 := pk_rem (a := s) (d := 64) (by omega) (by decide) (by decide)
  rw [show (nI 64 : Int32) = 64 from rfl, e1] at e2
  exact ⟨e1, e2⟩
theorem q_sc_d {f : q_Fl} (wf : F_wf f) {x y : Nat} (hx : F_in f x) (hy : F_in f y) : q_sc f x y / 64 = q_nm f x ∧ q_sc f x y % 64 = q_nm f y := by
  have := q_nm_64 wf hy
  unfold q_sc
  omega
def q_lab (H kH e : Nat) : Nat := if H = 0 then 4 + e else kH + 4
set_option maxHeartbeats 2000000 in
theorem q_fg_i (f : q_Fl) (fk : F_ok f) (h1 : F_n f = 1) (x0 y0 : Nat) (hx0 : F_in f x0) (hy0 : F_in f y0) (hp0 : y0 ≠ F_pen f) (a1 ks : Int32) (H x y kH : Nat) (hx : F_in f x) (hy : F_in f y) (hyp : y ≠ F_pen f) : ∀ (r d T : Nat) (X Y K : Nat → Nat) (h : am_H) (g : q_G), d + r = 4 → q_mg h f g → G_lies g = false → G_back g = false → q_hM h f T X Y K → q_MQ f x0 y0 T X Y K → H < T → (X H = x ∧ Y H = y ∧ K H = kH) → (∀ j e, j < T → d ≤ e → e < 4 → K j ≤ q_lab H kH e) → (∀ j, j < T → K j ≤ q_lab H kH 3) → ∃ (h' : am_H) (T' : Nat) (X' Y' K' : Nat → Nat) (g' : q_G) (z : Option Value), q_wk h h' ∧ q_mg h' f g' ∧ G_lies g' = false ∧ G_back g' = false ∧ q_hM h' f T' X' Y' K' ∧ q_MQ f x0 y0 T' X' Y' K' ∧ q_pfx T X Y K T' X' Y' K' ∧ (∀ e t, d ≤ e → e < 4 → N_dg f x y e = some t → ∃ j, j < T' ∧ X' j = t ∧ Y' j = N_b f t y ∧ K' j ≤ q_lab H kH e) ∧ (∀ j, j < T' → K' j ≤ q_lab H kH 3) ∧ am_ev 229 72 [some (.ref 211), some (.int a1), some (.int ks), some (.int (nI (q_sc f x y))), some (.int (nI d))] [] h = am_ev 229 178 [some (.ref 211), some (.int a1), some (.int ks), some (.int (nI (q_sc f x y))), z] [] h' := by
  have wf := fk.wf
  have sl := q_sc_lt wf hx hy
  obtain ⟨s1, s2⟩ := q_sc_d wf hx hy
  obtain ⟨d1, d2⟩ := q_d64 sl
  rw [s1] at d1 d2
  rw [s2] at d2
  have n64 : ¬ (64 : Int32) = 0 := by decide
  have xs : am_ix (nI (q_sc f x y)) 4096 = true := am_ix_nI sl (by decide)
  have zs : (nI (q_sc f x y)).toNatClampNeg = q_sc f x y := nI_clamp (by omega)
  have x0' : am_ix 0 6 = true := by decide
  have z0' : (0 : Int32).toNatClampNeg = 0 := rfl
  have pn : q_pn f = nI (q_nm f (F_pen f)) := if_pos fk.2.2.1.1
  have npen : ¬ nI (q_nm f y) = q_pn f := fun w => hyp ((q_pn_eq wf hy).mp w)
  intro r
  induction r with
  | zero =>
    intro d T X Y K h g hd mg gl gb hM mq hHT hH hK hK3
    obtain rfl : d = 4 := by omega
    have h4 : (4 : Int32) ≤ nI 4 := by decide
    refine ⟨h, T, X, Y, K, g, some (.int (nI 4)), q_wk.rf mg.1.1, mg, gl, gb, hM, mq, q_pfx.rf _ _ _ _, fun e t e1 e2 => by omega, hK3, ?_⟩
    rw [e229_72]
    simp only [e229_0, e229_1, e229_2, e229_5, e229_6, e229_7, e229_8, e229_11, e229_14, e229_15, e229_18, e229_19, e229_20, e229_21, e229_24, e229_27, e229_28, e229_29, e229_32, e229_33, e229_35, e229_36, e229_39, e229_40, e229_41, e229_44, e229_45, e229_46, e229_47, e229_48, e229_49, e229_52, e229_53, e229_54, e229_55, e229_56, e229_59, e229_62, e229_63, e229_66, e229_67, e229_68, e229_69, e229_70, e229_74, e229_75, e229_78, e229_79, e229_81, e229_82, e229_83, e229_86, e229_89, e229_90, e229_91, e229_93, e229_94, e229_97, e229_98, e229_101, e229_102, e229_103, e229_105, e229_106, e229_107, e229_108, e229_109, e229_112, e229_113, e229_115, e229_118, e229_121, e229_122, e229_123, e229_126, e229_127, e229_129, e229_130, e229_133, e229_134, e229_135, e229_138, e229_139, e229_140, e229_141, e229_142, e229_145, e229_146, e229_147, e229_148, e229_149, e229_150, e229_153, e229_154, e229_155, e229_158, e229_160, e229_163, e229_164, e229_167, e229_168, e229_169, e229_172, e229_175, e229_181, e229_184, am_bd_some, Option.toList_some, Option.toList_none, List.cons_append, List.nil_append, am_w8_0, am_w8_1, am_w8_2, am_w8_3, am_w8_4, eq_self, or_true, true_or, am_kd_sI, am_kd_sL, am_kd_sR, am_tc_sI, am_tc_sL, am_tc_sR, am_len_sI, am_len_sL, am_len_sR, am_rfs, if_true, if_false, am_rdL_sI, am_rR_sL, am_rt_cq, am_kd_cq, am_tc_cq, am_len_cq, am_rd_sL, am_rd_sR, am_rdL_sR, h4]
  | succ r ih =>
    intro d T X Y K h g hd mg gl gb hM mq hHT hH hK hK3
    have ok := mg.1.1
    have a3 := mg.1.2.2.2.1
    have h4 : ¬ (4 : Int32) ≤ nI d := fun w => nI_ge (b := 4) (a := d) (by omega) (by decide) w
    let ha : am_H := am_sI (am_sI (am_sI h 211 28 (nI (q_nm f x))) 225 0 (nI (q_nm f y))) 211 31 0
    have mga : q_mg ha f (G_sx x y (G_min g) (G_went g 0)) := q_mg_set mg h1 gl gb x y
    have oka := mga.1.1
    have mwa : q_mw h ha := ⟨rfl, fun a k p1 p2 p3 => by
      show (am_sI (am_sI (am_sI h 211 28 (nI (q_nm f x))) 225 0 (nI (q_nm f y))) 211 31 0).1 a k = _
      rw [am_rd_sI, if_neg (by omega), am_rd_sI, if_neg (by omega), am_rd_sI, if_neg (by omega)]⟩
    have hMa := mwa.hM hM
    obtain ⟨b1, b2⟩ := den_mdg ha f _ mga wf (G_sx_in hx hy) (G_sx_pi hyp) d (by omega)
    have ng' : G_dg f (G_sx x y (G_min g) (G_went g 0)) d = match N_dg f x y d with
      | none => none
      | some t => some (G_slies (G_sdog (G_sx x y (G_min g) (G_went g 0)) t) false) := N_dg_G h1 (G_sx x y (G_min g) (G_went g 0)) d
    have st : am_ev 229 72 [some (.ref 211), some (.int a1), some (.int ks), some (.int (nI (q_sc f x y))), some (.int (nI d))] [] h = am_ev 229 112 [some (.ref 211), some (.int a1), some (.int ks), some (.int (nI (q_sc f x y))), some (.int (nI d))] [] ha := by
      rw [e229_72]
      simp only [e229_0, e229_1, e229_2, e229_5, e229_6, e229_7, e229_8, e229_11, e229_14, e229_15, e229_18, e229_19, e229_20, e229_21, e229_24, e229_27, e229_28, e229_29, e229_32, e229_33, e229_35, e229_36, e229_39, e229_40, e229_41, e229_44, e229_45, e229_46, e229_47, e229_48, e229_49, e229_52, e229_53, e229_54, e229_55, e229_56, e229_59, e229_62, e229_63, e229_66, e229_67, e229_68, e229_69, e229_70, e229_74, e229_75, e229_78, e229_79, e229_81, e229_82, e229_83, e229_86, e229_89, e229_90, e229_91, e229_93, e229_94, e229_97, e229_98, e229_101, e229_102, e229_103, e229_105, e229_106, e229_107, e229_108, e229_109, e229_113, e229_115, e229_118, e229_121, e229_122, e229_123, e229_126, e229_127, e229_129, e229_130, e229_133, e229_134, e229_135, e229_138, e229_139, e229_140, e229_141, e229_142, e229_145, e229_146, e229_147, e229_148, e229_149, e229_150, e229_153, e229_154, e229_155, e229_158, e229_160, e229_163, e229_164, e229_167, e229_168, e229_169, e229_172, e229_175, e229_181, e229_184, am_bd_some, Option.toList_some, Option.toList_none, List.cons_append, List.nil_append, am_w8_0, am_w8_1, am_w8_2, am_w8_3, am_w8_4, eq_self, or_true, true_or, am_kd_sI, am_kd_sL, am_kd_sR, am_tc_sI, am_tc_sL, am_tc_sR, am_len_sI, am_len_sL, am_len_sR, am_rfs, if_true, if_false, am_rdL_sI, am_rR_sL, am_rt_cq, am_kd_cq, am_tc_cq, am_len_cq, am_rd_sL, am_rd_sR, am_rdL_sR, h4, n64, d1, d2, okK_211 ok, a3, npen, okR_211_36 ok, okT_225 ok, okL_225 ok, x0', z0']
      rfl
    cases hn : N_dg f x y d with
    | none =>
      rw [hn] at ng'
      obtain ⟨h2, T2, X2, Y2, K2, g2, z2, w2, mg2, gl2, gb2, hM2, mq2, p2, e2, k2, s2'⟩ := ih (d + 1) T X Y K ha _ (by omega) mga rfl rfl hMa mq hHT hH (fun j e hj h5 h6 => hK j e hj (by omega) h6) hK3
      refine ⟨h2, T2, X2, Y2, K2, g2, z2, (mwa.wk ok).tr w2, mg2, gl2, gb2, hM2, mq2, p2, fun e t h5 h6 ht => ?_, k2, ?_⟩
      · by_cases c : e = d
        · rw [c, hn] at ht; cases ht
        · exact e2 e t (by omega) h6 ht
      · rw [st]
        simp only [e229_0, e229_1, e229_2, e229_5, e229_6, e229_7, e229_8, e229_11, e229_14, e229_15, e229_18, e229_19, e229_20, e229_21, e229_24, e229_27, e229_28, e229_29, e229_32, e229_33, e229_35, e229_36, e229_39, e229_40, e229_41, e229_44, e229_45, e229_46, e229_47, e229_48, e229_49, e229_52, e229_53, e229_54, e229_55, e229_56, e229_59, e229_62, e229_63, e229_66, e229_67, e229_68, e229_69, e229_70, e229_74, e229_75, e229_78, e229_79, e229_81, e229_82, e229_83, e229_86, e229_89, e229_90, e229_91, e229_93, e229_94, e229_97, e229_98, e229_101, e229_102, e229_103, e229_105, e229_106, e229_107, e229_108, e229_109, e229_112, e229_113, e229_115, e229_118, e229_121, e229_122, e229_123, e229_126, e229_127, e229_129, e229_130, e229_133, e229_134, e229_135, e229_138, e229_139, e229_140, e229_141, e229_142, e229_145, e229_146, e229_147, e229_148, e229_149, e229_150, e229_153, e229_154, e229_155, e229_158, e229_160, e229_163, e229_164, e229_167, e229_168, e229_169, e229_172, e229_175, e229_181, e229_184, am_bd_some, Option.toList_some, Option.toList_none, List.cons_append, List.nil_append, am_w8_0, am_w8_1, am_w8_2, am_w8_3, am_w8_4, eq_self, or_true, true_or, am_kd_sI, am_kd_sL, am_kd_sR, am_tc_sI, am_tc_sL, am_tc_sR, am_len_sI, am_len_sL, am_len_sR, am_rfs, if_true, if_false, am_rdL_sI, am_rR_sL, am_rt_cq, am_kd_cq, am_tc_cq, am_len_cq, am_rd_sL, am_rd_sR, am_rdL_sR, okK_211 oka, b1 ng', nI_1]
        exact s2'
    | some t =>
      rw [hn] at ng'
      obtain ⟨hb, fb, gb', sb⟩ := b2 _ ng'
      have gbx : q_mg hb f (G_sx t y (G_min g) (G_went g 0)) := gb'
      have okb := gbx.1.1
      have ti := (N_dg_ok wf hx hn).1
      obtain ⟨hc, fc, gc, sc⟩ := den_mgoes hb f _ gbx wf (G_sx_in ti hy) (G_sx_pi hyp) 0 (by omega)
      rw [nI_0] at sc
      have okc := gc.1.1
      have lb := G_go_lb f (G_sx t y (G_min g) (G_went g 0)) 0
      have hMc := (fb.tr fc).hM hMa
      have ni := N_b_in wf h1 ti hy
      have edog : hc.1 211 28 = nI (q_nm f t) := by
        have := gc.2.1.1
        rw [G_go_dog] at this
        exact this
      have eat : hc.1 225 0 = nI (q_nm f (N_b f t y)) := by
        have := gc.2.2.1 0 (by omega)
        rw [N_b_eq] at this
        exact this
      have code : (64 : Int32) * nI (q_nm f t) + nI (q_nm f (N_b f t y)) = nI (q_sc f t (N_b f t y)) := by
        rw [show (64 : Int32) * nI (q_nm f t) = nI (64 * q_nm f t) from pk_mul 64 _, nI_add]
        rfl
      obtain ⟨hX, hY, hKH⟩ := hH
      obtain ⟨-, vg, vw⟩ := hMc.2.1 H hHT
      rw [hX, hY] at vg vw
      have mqH := mq.2.2.1 H
      have bH : H ≠ 0 → (1 ≤ kH / 4 ∧ kH / 4 ≤ H) := fun hz => by have := (mqH (by omega) hHT).1; rw [hKH] at this; exact this
      have lab4 : 4 ≤ q_lab H kH d ∧ q_lab H kH d / 4 ≤ T := by
        have := mq.1.1
        unfold q_lab
        split
        · omega
        · rename_i hz
          have := bH hz
          omega
      have wit : ∃ y', q_E f x0 y0 (q_lab H kH d / 4) (q_lab H kH d % 4) t y' ∧ N_b f t y = N_b f t y' := by
        unfold q_lab
        by_cases hz : H = 0
        · rw [if_pos hz, show (4 + d) / 4 = 1 by omega, show (4 + d) % 4 = d by omega]
          have ex : x = x0 := by rw [← hX, hz]; exact mq.2.1.1
          have ey : y = y0 := by rw [← hY, hz]; exact mq.2.1.2.1
          exact ⟨y0, Or.inl ⟨rfl, by omega, by rw [← ex, ← ey]; exact hn, rfl⟩, by rw [ey]⟩
        · rw [if_neg hz, show (kH + 4) / 4 = kH / 4 + 1 by omega, show (kH + 4) % 4 = kH % 4 by omega]
          obtain ⟨-, y'', E1, E2⟩ := mqH (by omega) hHT
          rw [hX, hKH] at E1
          rw [hX, hY] at E2
          exact ⟨y, Or.inr ⟨x, y'', d, by omega, E1, by rw [← E2]; exact hyp, by rw [← E2]; exact hn, E2⟩, rfl⟩
      obtain ⟨hd', T1, X1, Y1, K1, fd, hM1, mq1, p1, ⟨j1, j2, j3, j4, j5⟩, k1, sd⟩ := den_meets f wf x0 y0 T X Y K hc okc hMc mq t (N_b f t y) (q_lab H kH d) ti ni lab4.1 lab4.2 wit (fun j hj => hK j d hj (Nat.le_refl _) (by omega))
      have okd : am_okH hd' := okc.of (congrArg Prod.snd fd.1)
      have y1 : (1 : Int32) = 0 ↔ False := by decide
      obtain ⟨q1, q2, q3⟩ := p1.2 H hHT
      obtain ⟨h2, T2, X2, Y2, K2, g2, z2, w2, mg2, gl2, gb2, hM2, mq2, p2, e2, k2, s2'⟩ := ih (d + 1) T1 X1 Y1 K1 hd' _ (by omega) (fd.mg gc) lb.1 lb.2 hM1 mq1 (Nat.lt_of_lt_of_le hHT p1.1) ⟨q1.trans hX, q2.trans hY, q3.trans hKH⟩ (fun j e hj h5 h6 => by
        have a1 := k1 j hj
        have : q_lab H kH d ≤ q_lab H kH e := by unfold q_lab; split <;> omega
        omega) (fun j hj => by
        have a1 := k1 j hj
        have : q_lab H kH d ≤ q_lab H kH 3 := by unfold q_lab; split <;> omega
        omega)
      refine ⟨h2, T2, X2, Y2, K2, g2, z2, (((mwa.tr fb).tr fc).wk ok).tr ((fd.wk okc).tr w2), mg2, gl2, gb2, hM2, mq2, p1.tr p2, fun e u h5 h6 ht => ?_, k2, ?_⟩
      · by_cases c : e = d
        · rw [c, hn] at ht
          cases ht
          obtain ⟨u1, u2, u3⟩ := p2.2 j1 j2
          exact ⟨j1, Nat.lt_of_lt_of_le j2 p2.1, u1.trans j3, u2.trans j4, by rw [u3, c]; exact j5⟩
        · exact e2 e u (by omega) h6 ht
      · rw [st]
        by_cases hz : H = 0
        · have g0 : q_g0 K H = 0 := if_pos hz
          have l1 : q_lab H kH d / 4 = 1 := by unfold q_lab; rw [if_pos hz]; omega
          have l2 : q_lab H kH d % 4 = d := by unfold q_lab; rw [if_pos hz]; omega
          rw [g0, nI_0] at vg
          rw [l1, l2, show nI 1 = 1 from rfl] at sd
          have z1 : (0 : Int32) + 1 = 1 := by decide
          simp only [e229_0, e229_1, e229_2, e229_5, e229_6, e229_7, e229_8, e229_11, e229_14, e229_15, e229_18, e229_19, e229_20, e229_21, e229_24, e229_27, e229_28, e229_29, e229_32, e229_33, e229_35, e229_36, e229_39, e229_40, e229_41, e229_44, e229_45, e229_46, e229_47, e229_48, e229_49, e229_52, e229_53, e229_54, e229_55, e229_56, e229_59, e229_62, e229_63, e229_66, e229_67, e229_68, e229_69, e229_70, e229_74, e229_75, e229_78, e229_79, e229_81, e229_82, e229_83, e229_86, e229_89, e229_90, e229_91, e229_93, e229_94, e229_97, e229_98, e229_101, e229_102, e229_103, e229_105, e229_106, e229_107, e229_108, e229_109, e229_112, e229_113, e229_115, e229_118, e229_121, e229_122, e229_123, e229_126, e229_127, e229_129, e229_130, e229_133, e229_134, e229_135, e229_138, e229_139, e229_140, e229_141, e229_142, e229_145, e229_146, e229_147, e229_148, e229_149, e229_150, e229_153, e229_154, e229_155, e229_158, e229_160, e229_163, e229_164, e229_167, e229_168, e229_169, e229_172, e229_175, e229_181, e229_184, am_bd_some, Option.toList_some, Option.toList_none, List.cons_append, List.nil_append, am_w8_0, am_w8_1, am_w8_2, am_w8_3, am_w8_4, eq_self, or_true, true_or, am_kd_sI, am_kd_sL, am_kd_sR, am_tc_sI, am_tc_sL, am_tc_sR, am_len_sI, am_len_sL, am_len_sR, am_rfs, if_true, if_false, am_rdL_sI, am_rR_sL, am_rt_cq, am_kd_cq, am_tc_cq, am_len_cq, am_rd_sL, am_rd_sR, am_rdL_sR, okK_211 oka, sb, y1, okK_211 okb, sc, okK_211 okc, okR_211_36 okc, okT_225 okc, okL_225 okc, x0', z0', edog, eat, code, okR_211_40 okc, okT_227 okc, okL_227 okc, xs, zs, vg, z1, not_true, sd, nI_1]
          exact s2'
        · have g0 : q_g0 K H = kH / 4 := by unfold q_g0; rw [if_neg hz, hKH]
          have w0 : q_w0 K H = nI (kH % 4) := by unfold q_w0; rw [if_neg hz, hKH]
          have l1 : q_lab H kH d / 4 = kH / 4 + 1 := by unfold q_lab; rw [if_neg hz]; omega
          have l2 : q_lab H kH d % 4 = kH % 4 := by unfold q_lab; rw [if_neg hz]; omega
          have T4096 := mq.1.2
          have bz := bH hz
          rw [g0] at vg
          rw [w0] at vw
          rw [l1, l2] at sd
          have nz : ¬ nI (kH / 4) = 0 := nI_ne0 (by omega) (by omega)
          simp only [e229_0, e229_1, e229_2, e229_5, e229_6, e229_7, e229_8, e229_11, e229_14, e229_15, e229_18, e229_19, e229_20, e229_21, e229_24, e229_27, e229_28, e229_29, e229_32, e229_33, e229_35, e229_36, e229_39, e229_40, e229_41, e229_44, e229_45, e229_46, e229_47, e229_48, e229_49, e229_52, e229_53, e229_54, e229_55, e229_56, e229_59, e229_62, e229_63, e229_66, e229_67, e229_68, e229_69, e229_70, e229_74, e229_75, e229_78, e229_79, e229_81, e229_82, e229_83, e229_86, e229_89, e229_90, e229_91, e229_93, e229_94, e229_97, e229_98, e229_101, e229_102, e229_103, e229_105, e229_106, e229_107, e229_108, e229_109, e229_112, e229_113, e229_115, e229_118, e229_121, e229_122, e229_123, e229_126, e229_127, e229_129, e229_130, e229_133, e229_134, e229_135, e229_138, e229_139, e229_140, e229_141, e229_142, e229_145, e229_146, e229_147, e229_148, e229_149, e229_150, e229_153, e229_154, e229_155, e229_158, e229_160, e229_163, e229_164, e229_167, e229_168, e229_169, e229_172, e229_175, e229_181, e229_184, am_bd_some, Option.toList_some, Option.toList_none, List.cons_append, List.nil_append, am_w8_0, am_w8_1, am_w8_2, am_w8_3, am_w8_4, eq_self, or_true, true_or, am_kd_sI, am_kd_sL, am_kd_sR, am_tc_sI, am_tc_sL, am_tc_sR, am_len_sI, am_len_sL, am_len_sR, am_rfs, if_true, if_false, am_rdL_sI, am_rR_sL, am_rt_cq, am_kd_cq, am_tc_cq, am_len_cq, am_rd_sL, am_rd_sR, am_rdL_sR, okK_211 oka, sb, y1, okK_211 okb, sc, okK_211 okc, okR_211_36 okc, okT_225 okc, okL_225 okc, x0', z0', edog, eat, code, okR_211_40 okc, okR_211_41 okc, okT_227 okc, okL_227 okc, okT_228 okc, okL_228 okc, xs, zs, vg, vw, nz, not_false_eq_true, nI_1, sd]
          exact s2'
/-- the search, as it stands behind H states -/
def q_SM (f : q_Fl) (x0 y0 T : Nat) (X Y K : Nat → Nat) (H : Nat) : Prop := q_MQ f x0 y0 T X Y K ∧ (H < T → ∀ j, j < T → K j ≤ K H + 4) ∧ (∀ i, i < H → i < T → Y i ≠ F_pen f → ∀ v t, v < 4 → N_dg f (X i) (Y i) v = some t → (∃ j, j < T ∧ X j = t ∧ Y j = N_b f t (Y i) ∧ K j ≤ q_lab i (K i) v)) ∧ (H = 0 → T = 1)
theorem q_SM.all {f : q_Fl} {x0 y0 T : Nat} {X Y K : Nat → Nat} {H : Nat} (s : q_SM f x0 y0 T X Y K H) (hT : T ≤ H) (hp0 : y0 ≠ F_pen f) : ∀ n w x y, q_E f x0 y0 n w x y → ∃ j, j < T ∧ X j = x ∧ Y j = N_b f x y ∧ K j ≤ 4 * n + w := by
  obtain ⟨mq, -, ed, -⟩ := s
  intro n
  induction n with
  | zero => intro w x y h; exact absurd h (fun w => w)
  | succ n ih =>
    intro w x y h
    rcases h with ⟨h1, h2, h3, h4⟩ | ⟨x', y', v, hv, he, hb, hd, hy⟩
    · obtain ⟨j, a, b, c, d⟩ := ed 0 (by have := mq.1.1; omega) (by have := mq.1.1; omega) (by rw [mq.2.1.2.1]; exact hp0) w x h2 (by rw [mq.2.1.1, mq.2.1.2.1]; exact h3)
      refine ⟨j, a, b, by rw [c, mq.2.1.2.1, h4], ?_⟩
      have : q_lab 0 (K 0) w = 4 + w := if_pos rfl
      omega
    · obtain ⟨i, i1, i2, i3, i4⟩ := ih w x' y' he
      obtain ⟨j, a, b, c, d⟩ := ed i (by omega) i1 (by rw [i3]; exact hb) v x hv (by rw [i2, i3]; exact hd)
      refine ⟨j, a, b, by rw [c, i3, hy], ?_⟩
      have n1 : 1 ≤ n := by
        cases n with
        | zero => exact absurd he (fun w => w)
        | succ n => omega
      have : q_lab i (K i) v ≤ 4 * (n + 1) + w := by
        unfold q_lab
        split <;> omega
      omega
theorem q_fg_o (f : q_Fl) (fk : F_ok f) (h1 : F_n f = 1) (x0 y0 : Nat) (hx0 : F_in f x0) (hy0 : F_in f y0) (hp0 : y0 ≠ F_pen f) (a1 : Int32) : ∀ (r H T : Nat) (X Y K : Nat → Nat) (h : am_H) (g : q_G) (z3 z4 : Option Value), H + r = 4096 → q_mg h f g → G_lies g = false → G_back g = false → q_hM h f T X Y K → q_SM f x0 y0 T X Y K H → ∃ (h' : am_H) (T' : Nat) (X' Y' K' : Nat → Nat) (g' : q_G), q_wk h h' ∧ q_mg h' f g' ∧ q_hM h' f T' X' Y' K' ∧ q_SM f x0 y0 T' X' Y' K' T' ∧ am_ev 229 54 [some (.ref 211), some (.int a1), some (.int (nI H)), z3, z4] [] h = some (none, h') := by
  have wf := fk.wf
  have stop : ∀ (H T : Nat) (X Y K : Nat → Nat), T ≤ H → q_SM f x0 y0 T X Y K H → q_SM f x0 y0 T X Y K T := fun H T X Y K hT s => ⟨s.1, fun q => absurd q (Nat.lt_irrefl _), fun i i1 i2 i3 => s.2.2.1 i (by omega) i2 i3, fun q => by have := s.1.1.1; omega⟩
  intro r
  induction r with
  | zero =>
    intro H T X Y K h g z3 z4 hr mg gl gb hM sm
    have T1 := sm.1.1.2
    have hle : nI T ≤ nI H := nI_le (by omega) (by omega)
    refine ⟨h, T, X, Y, K, g, q_wk.rf mg.1.1, mg, hM, stop H T X Y K (by omega) sm, ?_⟩
    rw [e229_54]
    simp only [e229_0, e229_1, e229_2, e229_5, e229_6, e229_7, e229_8, e229_11, e229_14, e229_15, e229_18, e229_19, e229_20, e229_21, e229_24, e229_27, e229_28, e229_29, e229_32, e229_33, e229_35, e229_36, e229_39, e229_40, e229_41, e229_44, e229_45, e229_46, e229_47, e229_48, e229_49, e229_52, e229_53, e229_55, e229_56, e229_59, e229_62, e229_63, e229_66, e229_67, e229_68, e229_69, e229_70, e229_72, e229_74, e229_75, e229_78, e229_79, e229_81, e229_82, e229_83, e229_86, e229_89, e229_90, e229_91, e229_93, e229_94, e229_97, e229_98, e229_101, e229_102, e229_103, e229_105, e229_106, e229_107, e229_108, e229_109, e229_112, e229_113, e229_115, e229_118, e229_121, e229_122, e229_123, e229_126, e229_127, e229_129, e229_130, e229_133, e229_134, e229_135, e229_138, e229_139, e229_140, e229_141, e229_142, e229_145, e229_146, e229_147, e229_148, e229_149, e229_150, e229_153, e229_154, e229_155, e229_158, e229_160, e229_163, e229_164, e229_167, e229_168, e229_169, e229_172, e229_175, e229_178, e229_181, e229_184, am_bd_some, Option.toList_some, Option.toList_none, List.cons_append, List.nil_append, am_w8_0, am_w8_1, am_w8_2, am_w8_3, am_w8_4, eq_self, or_true, true_or, am_kd_sI, am_kd_sL, am_kd_sR, am_tc_sI, am_tc_sL, am_tc_sR, am_len_sI, am_len_sL, am_len_sR, am_rfs, if_true, if_false, am_rdL_sI, am_rR_sL, am_rt_cq, am_kd_cq, am_tc_cq, am_len_cq, am_rd_sL, am_rd_sR, am_rdL_sR, okK_211 mg.1.1, hM.1, hle]
  | succ r ih =>
    intro H T X Y K h g z3 z4 hr mg gl gb hM sm
    have ok := mg.1.1
    have T1 := sm.1.1.2
    by_cases hHT : H < T
    · have hle : ¬ nI T ≤ nI H := nI_ge hHT (by omega)
      have xH : am_ix (nI H) 4096 = true := am_ix_nI (by omega) (by decide)
      have zH : (nI H).toNatClampNeg = H := nI_clamp (by omega)
      have rH := (hM.2.1 H hHT).1
      obtain ⟨hx, hy⟩ := sm.1.2.2.2.1 H hHT
      have st : ∀ z : Option Value, am_ev 229 54 [some (.ref 211), some (.int a1), some (.int (nI H)), z3, z] [] h = am_ev 229 72 [some (.ref 211), some (.int a1), some (.int (nI H)), some (.int (nI (q_sc f (X H) (Y H)))), some (.int 0)] [] h := fun z => by
        rw [e229_54]
        simp only [e229_0, e229_1, e229_2, e229_5, e229_6, e229_7, e229_8, e229_11, e229_14, e229_15, e229_18, e229_19, e229_20, e229_21, e229_24, e229_27, e229_28, e229_29, e229_32, e229_33, e229_35, e229_36, e229_39, e229_40, e229_41, e229_44, e229_45, e229_46, e229_47, e229_48, e229_49, e229_52, e229_53, e229_55, e229_56, e229_59, e229_62, e229_63, e229_66, e229_67, e229_68, e229_69, e229_70, e229_74, e229_75, e229_78, e229_79, e229_81, e229_82, e229_83, e229_86, e229_89, e229_90, e229_91, e229_93, e229_94, e229_97, e229_98, e229_101, e229_102, e229_103, e229_105, e229_106, e229_107, e229_108, e229_109, e229_112, e229_113, e229_115, e229_118, e229_121, e229_122, e229_123, e229_126, e229_127, e229_129, e229_130, e229_133, e229_134, e229_135, e229_138, e229_139, e229_140, e229_141, e229_142, e229_145, e229_146, e229_147, e229_148, e229_149, e229_150, e229_153, e229_154, e229_155, e229_158, e229_160, e229_163, e229_164, e229_167, e229_168, e229_169, e229_172, e229_175, e229_178, e229_181, e229_184, am_bd_some, Option.toList_some, Option.toList_none, List.cons_append, List.nil_append, am_w8_0, am_w8_1, am_w8_2, am_w8_3, am_w8_4, eq_self, or_true, true_or, am_kd_sI, am_kd_sL, am_kd_sR, am_tc_sI, am_tc_sL, am_tc_sR, am_len_sI, am_len_sL, am_len_sR, am_rfs, if_true, if_false, am_rdL_sI, am_rR_sL, am_rt_cq, am_kd_cq, am_tc_cq, am_len_cq, am_rd_sL, am_rd_sR, am_rdL_sR, okK_211 ok, hM.1, hle, okR_211_42 ok, okT_229 ok, okL_229 ok, xH, zH, rH]
      by_cases cp : Y H = F_pen f
      · have smN : q_SM f x0 y0 T X Y K (H + 1) := by
          refine ⟨sm.1, fun hl j hj => ?_, fun i i1 i2 i3 => ?_, fun q => by omega⟩
          · have := sm.2.1 hHT j hj
            have := sm.1.2.2.2.2.2 H (H + 1) (by omega) hl
            omega
          · by_cases ci : i = H
            · rw [ci] at i3; exact absurd cp i3
            · exact sm.2.2.1 i (by omega) i2 i3
        have sl := q_sc_lt wf hx hy
        obtain ⟨s1, s2⟩ := q_sc_d wf hx hy
        obtain ⟨d1, d2⟩ := q_d64 sl
        rw [s1] at d1 d2
        rw [s2] at d2
        have n64 : ¬ (64 : Int32) = 0 := by decide
        have a3 := mg.1.2.2.2.1
        have h4 : ¬ (4 : Int32) ≤ 0 := by decide
        have pe := eq_true ((q_pn_eq wf hy).mpr cp)
        obtain ⟨h2, T2, X2, Y2, K2, g2, w2, mg2, hM2, sm2, s2'⟩ := ih (H + 1) T X Y K h g (some (.int (nI (q_sc f (X H) (Y H))))) (some (.int 0)) (by omega) mg gl gb hM smN
        refine ⟨h2, T2, X2, Y2, K2, g2, w2, mg2, hM2, sm2, ?_⟩
        rw [st, e229_72]
        simp only [e229_0, e229_1, e229_2, e229_5, e229_6, e229_7, e229_8, e229_11, e229_14, e229_15, e229_18, e229_19, e229_20, e229_21, e229_24, e229_27, e229_28, e229_29, e229_32, e229_33, e229_35, e229_36, e229_39, e229_40, e229_41, e229_44, e229_45, e229_46, e229_47, e229_48, e229_49, e229_52, e229_53, e229_55, e229_56, e229_59, e229_62, e229_63, e229_66, e229_67, e229_68, e229_69, e229_70, e229_74, e229_75, e229_78, e229_79, e229_81, e229_82, e229_83, e229_86, e229_89, e229_90, e229_91, e229_93, e229_94, e229_97, e229_98, e229_101, e229_102, e229_103, e229_105, e229_106, e229_107, e229_108, e229_109, e229_112, e229_113, e229_115, e229_118, e229_121, e229_122, e229_123, e229_126, e229_127, e229_129, e229_130, e229_133, e229_134, e229_135, e229_138, e229_139, e229_140, e229_141, e229_142, e229_145, e229_146, e229_147, e229_148, e229_149, e229_150, e229_153, e229_154, e229_155, e229_158, e229_160, e229_163, e229_164, e229_167, e229_168, e229_169, e229_172, e229_175, e229_178, e229_181, e229_184, am_bd_some, Option.toList_some, Option.toList_none, List.cons_append, List.nil_append, am_w8_0, am_w8_1, am_w8_2, am_w8_3, am_w8_4, eq_self, or_true, true_or, am_kd_sI, am_kd_sL, am_kd_sR, am_tc_sI, am_tc_sL, am_tc_sR, am_len_sI, am_len_sL, am_len_sR, am_rfs, if_true, if_false, am_rdL_sI, am_rR_sL, am_rt_cq, am_kd_cq, am_tc_cq, am_len_cq, am_rd_sL, am_rd_sR, am_rdL_sR, h4, n64, d1, d2, okK_211 ok, a3, pe, nI_1]
        exact s2'
      · obtain ⟨h2, T2, X2, Y2, K2, g2, z2, w2, mg2, gl2, gb2, hM2, mq2, p2, e2, k2, s2⟩ := q_fg_i f fk h1 x0 y0 hx0 hy0 hp0 a1 (nI H) H (X H) (Y H) (K H) hx hy cp 4 0 T X Y K h g (by omega) mg gl gb hM sm.1 hHT ⟨rfl, rfl, rfl⟩ (fun j e hj _ he => by
          have b1 := sm.2.1 hHT j hj
          unfold q_lab
          split
          · rename_i hz
            have b0 := sm.1.2.1.2.2
            rw [hz] at b1
            have cj : j = 0 := by have := sm.2.2.2 hz; omega
            rw [cj]
            omega
          · exact b1) (fun j hj => by
          have b1 := sm.2.1 hHT j hj
          unfold q_lab
          split
          · rename_i hz
            have b0 := sm.1.2.1.2.2
            rw [hz] at b1
            omega
          · exact b1)
        rw [nI_0] at s2
        have pH := p2.2 H hHT
        have smN : q_SM f x0 y0 T2 X2 Y2 K2 (H + 1) := by
          refine ⟨mq2, fun hl j hj => ?_, fun i i1 i2 i3 v t hv ht => ?_, fun q => by omega⟩
          · have a1 := k2 j hj
            have a2 := mq2.2.2.2.2.2 H (H + 1) (by omega) hl
            rw [pH.2.2] at a2
            have : q_lab H (K H) 3 ≤ K H + 4 := by
              unfold q_lab
              split
              · rename_i hz
                rw [hz, sm.1.2.1.2.2]
                decide
              · exact Nat.le_refl _
            omega
          · by_cases ci : i = H
            · subst ci
              rw [pH.1, pH.2.1] at ht
              rw [pH.2.1, pH.2.2]
              exact e2 v t (Nat.zero_le _) hv ht
            · have iT : i < T := by omega
              obtain ⟨q1, q2, q3⟩ := p2.2 i iT
              rw [q1, q2] at ht
              rw [q2] at i3 ⊢
              rw [q3]
              obtain ⟨j, j1, j2, j3, j4⟩ := sm.2.2.1 i (by omega) iT i3 v t hv ht
              obtain ⟨u1, u2, u3⟩ := p2.2 j j1
              exact ⟨j, Nat.lt_of_lt_of_le j1 p2.1, u1.trans j2, u2.trans j3, by rw [u3]; exact j4⟩
        obtain ⟨h3, T3, X3, Y3, K3, g3, w3, mg3, hM3, sm3, s3⟩ := ih (H + 1) T2 X2 Y2 K2 h2 g2 (some (.int (nI (q_sc f (X H) (Y H))))) z2 (by omega) mg2 gl2 gb2 hM2 smN
        refine ⟨h3, T3, X3, Y3, K3, g3, w2.tr w3, mg3, hM3, sm3, ?_⟩
        rw [st, s2]
        simp only [e229_0, e229_1, e229_2, e229_5, e229_6, e229_7, e229_8, e229_11, e229_14, e229_15, e229_18, e229_19, e229_20, e229_21, e229_24, e229_27, e229_28, e229_29, e229_32, e229_33, e229_35, e229_36, e229_39, e229_40, e229_41, e229_44, e229_45, e229_46, e229_47, e229_48, e229_49, e229_52, e229_53, e229_55, e229_56, e229_59, e229_62, e229_63, e229_66, e229_67, e229_68, e229_69, e229_70, e229_74, e229_75, e229_78, e229_79, e229_81, e229_82, e229_83, e229_86, e229_89, e229_90, e229_91, e229_93, e229_94, e229_97, e229_98, e229_101, e229_102, e229_103, e229_105, e229_106, e229_107, e229_108, e229_109, e229_112, e229_113, e229_115, e229_118, e229_121, e229_122, e229_123, e229_126, e229_127, e229_129, e229_130, e229_133, e229_134, e229_135, e229_138, e229_139, e229_140, e229_141, e229_142, e229_145, e229_146, e229_147, e229_148, e229_149, e229_150, e229_153, e229_154, e229_155, e229_158, e229_160, e229_163, e229_164, e229_167, e229_168, e229_169, e229_172, e229_175, e229_178, e229_181, e229_184, am_bd_some, Option.toList_some, Option.toList_none, List.cons_append, List.nil_append, am_w8_0, am_w8_1, am_w8_2, am_w8_3, am_w8_4, eq_self, or_true, true_or, am_kd_sI, am_kd_sL, am_kd_sR, am_tc_sI, am_tc_sL, am_tc_sR, am_len_sI, am_len_sL, am_len_sR, am_rfs, if_true, if_false, am_rdL_sI, am_rR_sL, am_rt_cq, am_kd_cq, am_tc_cq, am_len_cq, am_rd_sL, am_rd_sR, am_rdL_sR, nI_1]
        exact s3
    · have hle : nI T ≤ nI H := nI_le (by omega) (by omega)
      refine ⟨h, T, X, Y, K, g, q_wk.rf ok, mg, hM, stop H T X Y K (by omega) sm, ?_⟩
      rw [e229_54]
      simp only [e229_0, e229_1, e229_2, e229_5, e229_6, e229_7, e229_8, e229_11, e229_14, e229_15, e229_18, e229_19, e229_20, e229_21, e229_24, e229_27, e229_28, e229_29, e229_32, e229_33, e229_35, e229_36, e229_39, e229_40, e229_41, e229_44, e229_45, e229_46, e229_47, e229_48, e229_49, e229_52, e229_53, e229_55, e229_56, e229_59, e229_62, e229_63, e229_66, e229_67, e229_68, e229_69, e229_70, e229_72, e229_74, e229_75, e229_78, e229_79, e229_81, e229_82, e229_83, e229_86, e229_89, e229_90, e229_91, e229_93, e229_94, e229_97, e229_98, e229_101, e229_102, e229_103, e229_105, e229_106, e229_107, e229_108, e229_109, e229_112, e229_113, e229_115, e229_118, e229_121, e229_122, e229_123, e229_126, e229_127, e229_129, e229_130, e229_133, e229_134, e229_135, e229_138, e229_139, e229_140, e229_141, e229_142, e229_145, e229_146, e229_147, e229_148, e229_149, e229_150, e229_153, e229_154, e229_155, e229_158, e229_160, e229_163, e229_164, e229_167, e229_168, e229_169, e229_172, e229_175, e229_178, e229_181, e229_184, am_bd_some, Option.toList_some, Option.toList_none, List.cons_append, List.nil_append, am_w8_0, am_w8_1, am_w8_2, am_w8_3, am_w8_4, eq_self, or_true, true_or, am_kd_sI, am_kd_sL, am_kd_sR, am_tc_sI, am_tc_sL, am_tc_sR, am_len_sI, am_len_sL, am_len_sR, am_rfs, if_true, if_false, am_rdL_sI, am_rR_sL, am_rt_cq, am_kd_cq, am_tc_cq, am_len_cq, am_rd_sL, am_rd_sR, am_rdL_sR, okK_211 ok, hM.1, hle]
