/-! part 80: by a log: goesBy, isSo, findFits -/
/-- a log is to hand -/
def q_lgM (h : am_H) : Prop := am_okH h ∧ (h.1 211 25 = 8 ∧ h.1 211 26 = 64 ∧ h.1 211 27 = -1 ∧ h.1 211 30 = 1 ∧ h.1 211 31 = 0 ∧ h.1 211 32 = 0 ∧ h.1 211 33 = 0) ∧ ∀ c, c < 64 → h.1 223 c = 0
def q_gbw (h h' : am_H) : Prop := h'.2 = h.2 ∧ ∀ a k, a ≠ 224 → a ≠ 225 → (a = 211 → k ≠ 28 ∧ k ≠ 29 ∧ k ≠ 52 ∧ k ≠ 53) → h'.1 a k = h.1 a k
theorem q_gbw.rf (h : am_H) : q_gbw h h := ⟨rfl, fun _ _ _ _ _ => rfl⟩
theorem q_gbw.tr {h h' h'' : am_H} (a : q_gbw h h') (b : q_gbw h' h'') : q_gbw h h'' := ⟨b.1.trans a.1, fun x k p1 p2 p3 => (b.2 x k p1 p2 p3).trans (a.2 x k p1 p2 p3)⟩
theorem q_gbw.wk {h h' : am_H} (f : q_gbw h h') (ok : am_okH h) : q_wk h h' := ⟨ok.of (congrArg Prod.snd f.1), by rw [f.1], fun a k w => ⟨f.2 a k (by unfold q_told at w; omega) (by unfold q_told at w; omega) (by unfold q_told at w; omega), by rw [f.1]⟩⟩
theorem q_gbw.lg {h h' : am_H} (f : q_gbw h h') (m : q_lgM h) : q_lgM h' := by
  obtain ⟨ok, ⟨e1, e2, e3, e4, e5, e6, e7⟩, w⟩ := m
  refine ⟨ok.of (congrArg Prod.snd f.1), ⟨?_, ?_, ?_, ?_, ?_, ?_, ?_⟩, fun c hc => ?_⟩
  · rw [f.2 _ _ (by decide) (by decide) (by decide)]; exact e1
  · rw [f.2 _ _ (by decide) (by decide) (by decide)]; exact e2
  · rw [f.2 _ _ (by decide) (by decide) (by decide)]; exact e3
  · rw [f.2 _ _ (by decide) (by decide) (by decide)]; exact e4
  · rw [f.2 _ _ (by decide) (by decide) (by decide)]; exact e5
  · rw [f.2 _ _ (by decide) (by decide) (by decide)]; exact e6
  · rw [f.2 _ _ (by decide) (by decide) (by decide)]; exact e7
  · rw [f.2 _ _ (by decide) (by decide) (by omega)]; exact w c hc
theorem q_nIe (v : Int32) : ∃ n : Nat, v = nI n := ⟨v.toBitVec.toNat, by
  apply Int32.toBitVec_inj.1
  show v.toBitVec = BitVec.ofNat 32 v.toBitVec.toNat
  rw [BitVec.ofNat_toNat]
  simp⟩
theorem F_lg_nm (code b d c : Nat) : q_nm (F_lg code b d) c = c := by
  show 8 * (c / 8) + c % 8 = c
  omega
def G_sat (g : q_G) (b t : Nat) : q_G := (G_dog g, G_pen g, G_lies g, G_back g, G_min g, q_up (G_at g) b t, G_went g)
theorem q_mg_at {h : am_H} {f : q_Fl} {g : q_G} (mg : q_mg h f g) (b t : Nat) : q_mg (am_sI h 225 b (nI (q_nm f t))) f (G_sat g b t) := by
  obtain ⟨⟨ok, a1, a2, a3, a4, a5, a6, a7⟩, ⟨e1, e2, e3, e4, e5⟩, ea, ew⟩ := mg
  refine ⟨⟨ok, a1, a2, a3, a4, a5, a6, a7⟩, ⟨e1, e2, e3, e4, e5⟩, fun b' hb' => ?_, ew⟩
  show _ = nI (q_nm f (q_up (G_at g) b t b'))
  unfold q_up
  rw [am_rd_sI]
  by_cases c : b' = b
  · rw [if_pos ⟨rfl, c⟩, if_pos c]
  · rw [if_neg (fun w => c w.2), if_neg c]
    exact ea b' hb'
theorem q_mg_52 {h : am_H} {f : q_Fl} {g : q_G} (mg : q_mg h f g) (v : Int32) : q_mg (am_sI h 211 52 v) f g := by
  obtain ⟨⟨ok, a1, a2, a3, a4, a5, a6, a7⟩, ⟨e1, e2, e3, e4, e5⟩, ea, ew⟩ := mg
  exact ⟨⟨ok, a1, a2, a3, a4, a5, a6, a7⟩, ⟨e1, e2, e3, e4, e5⟩, ea, ew⟩
theorem q_mg_53 {h : am_H} {f : q_Fl} {g : q_G} (mg : q_mg h f g) (v : Int32) : q_mg (am_sI h 211 53 v) f g := by
  obtain ⟨⟨ok, a1, a2, a3, a4, a5, a6, a7⟩, ⟨e1, e2, e3, e4, e5⟩, ea, ew⟩ := mg
  exact ⟨⟨ok, a1, a2, a3, a4, a5, a6, a7⟩, ⟨e1, e2, e3, e4, e5⟩, ea, ew⟩
theorem q_gbw_s (k : Nat) (v : Int32) (hk : k = 28 ∨ k = 29 ∨ k = 52 ∨ k = 53) (h : am_H) : q_gbw h (am_sI h 211 k v) := ⟨rfl, fun a j _ _ p3 => by rw [am_rd_sI, if_neg (fun w => by have := p3 w.1; omega)]⟩
theorem q_gbw_a (a0 k : Nat) (v : Int32) (ha : a0 = 224 ∨ a0 = 225) (h : am_H) : q_gbw h (am_sI h a0 k v) := ⟨rfl, fun a j p1 p2 _ => by rw [am_rd_sI, if_neg (fun w => by have := w.1; omega)]⟩
set_option maxHeartbeats 1000000 in
theorem den_goesBy (h : am_H) (m : q_lgM h) (code b d : Nat) (hc : code < 36) (hb : b < 64) (hd : d < 64) : ∃ h' : am_H, q_gbw h h' ∧ h'.1 211 52 = q_ov (F_s1 code b d) ∧ h'.1 211 53 = q_ov (F_s2 code b d) ∧ am_den 263 [.ref 211, .int (nI code), .int (nI b), .int (nI d)] h = some (some (.int (nI (F_end code b d))), h') := by
  have wf := F_lg_wf hc b d
  obtain ⟨d1, d2⟩ := q_d9 (c := code) (by omega)
  have n9 : ¬ (9 : Int32) = 0 := by decide
  have x : am_ix 0 6 = true := by decide
  have z : (0 : Int32).toNatClampNeg = 0 := rfl
  have F1 : 0 < F_n (F_lg code b d) := by show 0 < 1; decide
  obtain ⟨ok, ⟨e1, e2, e3, e4, e5, e6, e7⟩, ew⟩ := m
  obtain ⟨M, hM⟩ := q_nIe (h.1 211 38)
  obtain ⟨W, hW⟩ := q_nIe (h.1 226 0)
  let g0 : am_H := am_sI h 224 0 (nI (code / 9))
  let ga : am_H := am_sI (am_sI h 224 0 (nI (code / 9))) 211 29 (nI (code % 9 + 1))
  let gb : am_H := am_sI (am_sI (am_sI h 224 0 (nI (code / 9))) 211 29 (nI (code % 9 + 1))) 225 0 (nI b)
  let g1 : am_H := am_sI (am_sI (am_sI (am_sI h 224 0 (nI (code / 9))) 211 29 (nI (code % 9 + 1))) 225 0 (nI b)) 211 28 (nI d)
  have w1 : q_gbw h g1 := (q_gbw_a 224 0 _ (Or.inl rfl) h).tr ((q_gbw_s 29 _ (by decide) g0).tr ((q_gbw_a 225 0 _ (Or.inr rfl) ga).tr (q_gbw_s 28 _ (by decide) gb)))
  let u : q_G := (d, 0, false, false, M, fun _ => b, fun _ => W)
  have mg1 : q_mg g1 (F_lg code b d) u := by
    refine ⟨⟨ok, e1, e2, e3, rfl, e4, fun c hc' => ?_, fun k hk => ?_⟩, ⟨?_, e5, e6, e7, hM⟩, fun k hk => ?_, fun k hk => ?_⟩
    · rw [F_lg_nm, F_lg_wall]
      exact ew c hc'.1
    · obtain rfl : k = 0 := by have : k < 1 := hk; omega
      rfl
    · rw [F_lg_nm]
      rfl
    · obtain rfl : k = 0 := by have : k < 1 := hk; omega
      rw [F_lg_nm]
      rfl
    · obtain rfl : k = 0 := by have : k < 1 := hk; omega
      exact hW
  have co : G_co u (G_0 (F_lg code b d)) := ⟨rfl, rfl, rfl, rfl, rfl⟩
  have ui : G_in (F_lg code b d) u := co.sy.gin (F_lg_0 code b d hb hd)
  have pi : ∀ v : q_G, G_pen v = 0 → G_in (F_lg code b d) v → G_pi (F_lg code b d) v := fun v hv iv k hk => by
    obtain rfl : k = 0 := by have : k < 1 := hk; omega
    have := (iv.2.2 0 F1).1
    rw [F_np code b d v hv]
    symm
    exact decide_eq_false (by show ¬ G_at v 0 = 64; omega)
  have ok1 := mg1.1.1
  have dd := den_mdriven g1 _ u mg1 wf ui 0 F1
  have dw := den_mway g1 _ u mg1 wf ui (pi u rfl ui) 0 F1
  rw [co.drv, nI_0] at dd
  rw [co.way, nI_0] at dw
  have s1 : am_ev 263 0 [some (.ref 211), some (.int (nI code)), some (.int (nI b)), some (.int (nI d))] [] h = am_ev 263 32 [some (.ref 211), some (.int (nI code)), some (.int (nI b)), some (.int (nI d))] [] g1 := by
    simp only [e263_0, e263_1, e263_4, e263_5, e263_6, e263_8, e263_9, e263_10, e263_11, e263_12, e263_14, e263_15, e263_16, e263_17, e263_20, e263_21, e263_24, e263_25, e263_26, e263_27, e263_28, e263_29, e263_33, e263_34, e263_35, e263_38, e263_41, e263_42, e263_43, e263_46, e263_49, e263_50, e263_53, e263_54, e263_55, e263_58, e263_59, e263_62, e263_63, e263_66, e263_67, e263_70, e263_71, e263_72, e263_73, e263_76, e263_77, e263_78, e263_79, e263_82, e263_85, e263_86, e263_87, e263_88, e263_91, e263_92, e263_93, e263_94, e263_97, e263_98, e263_99, e263_102, e263_105, e263_106, e263_109, e263_110, e263_113, e263_114, e263_115, e263_118, e263_119, e263_122, e263_123, e263_126, e263_127, e263_128, e263_131, e263_132, e263_133, e263_136, e263_137, e263_138, e263_139, e263_142, e263_145, e263_146, e263_147, e263_150, e263_151, e263_152, am_bd_some, Option.toList_some, Option.toList_none, List.cons_append, List.nil_append, am_w8_0, am_w8_1, am_w8_2, am_w8_3, am_w8_4, eq_self, or_true, true_or, am_kd_sI, am_kd_sL, am_kd_sR, am_tc_sI, am_tc_sL, am_tc_sR, am_len_sI, am_len_sL, am_len_sR, am_rfs, if_true, if_false, am_rdL_sI, am_rR_sL, am_rt_cq, am_kd_cq, am_tc_cq, am_len_cq, am_rd_sL, am_rd_sR, am_rdL_sR, okK_211 ok, okR_211_35 ok, okR_211_36 ok, okT_224 ok, okL_224 ok, okT_225 ok, okL_225 ok, n9, d1, d2, nI_1, x, z]
    rfl
  have s2 : am_ev 263 32 [some (.ref 211), some (.int (nI code)), some (.int (nI b)), some (.int (nI d))] [] g1 = am_ev 263 53 [some (.ref 211), some (.int (nI code)), some (.int (nI b)), some (.int (nI d))] [] (am_sI g1 211 52 (q_ov (F_s1 code b d))) := by
    unfold F_s1
    cases hdr : G_drv (F_lg code b d) (G_0 (F_lg code b d)) 0 with
    | true =>
      rw [hdr] at dd
      have y : ¬ q_bi true = 0 := by decide
      simp only [e263_0, e263_1, e263_4, e263_5, e263_6, e263_8, e263_9, e263_10, e263_11, e263_12, e263_14, e263_15, e263_16, e263_17, e263_20, e263_21, e263_24, e263_25, e263_26, e263_27, e263_28, e263_29, e263_32, e263_33, e263_34, e263_35, e263_38, e263_41, e263_42, e263_43, e263_46, e263_49, e263_50, e263_54, e263_55, e263_58, e263_59, e263_62, e263_63, e263_66, e263_67, e263_70, e263_71, e263_72, e263_73, e263_76, e263_77, e263_78, e263_79, e263_82, e263_85, e263_86, e263_87, e263_88, e263_91, e263_92, e263_93, e263_94, e263_97, e263_98, e263_99, e263_102, e263_105, e263_106, e263_109, e263_110, e263_113, e263_114, e263_115, e263_118, e263_119, e263_122, e263_123, e263_126, e263_127, e263_128, e263_131, e263_132, e263_133, e263_136, e263_137, e263_138, e263_139, e263_142, e263_145, e263_146, e263_147, e263_150, e263_151, e263_152, am_bd_some, Option.toList_some, Option.toList_none, List.cons_append, List.nil_append, am_w8_0, am_w8_1, am_w8_2, am_w8_3, am_w8_4, eq_self, or_true, true_or, am_kd_sI, am_kd_sL, am_kd_sR, am_tc_sI, am_tc_sL, am_tc_sR, am_len_sI, am_len_sL, am_len_sR, am_rfs, if_true, if_false, am_rdL_sI, am_rR_sL, am_rt_cq, am_kd_cq, am_tc_cq, am_len_cq, am_rd_sL, am_rd_sR, am_rdL_sR, okK_211 ok1, dd, y, dw]
    | false =>
      rw [hdr] at dd
      have y : q_bi false = 0 := rfl
      simp only [e263_0, e263_1, e263_4, e263_5, e263_6, e263_8, e263_9, e263_10, e263_11, e263_12, e263_14, e263_15, e263_16, e263_17, e263_20, e263_21, e263_24, e263_25, e263_26, e263_27, e263_28, e263_29, e263_32, e263_33, e263_34, e263_35, e263_38, e263_41, e263_42, e263_43, e263_46, e263_49, e263_50, e263_54, e263_55, e263_58, e263_59, e263_62, e263_63, e263_66, e263_67, e263_70, e263_71, e263_72, e263_73, e263_76, e263_77, e263_78, e263_79, e263_82, e263_85, e263_86, e263_87, e263_88, e263_91, e263_92, e263_93, e263_94, e263_97, e263_98, e263_99, e263_102, e263_105, e263_106, e263_109, e263_110, e263_113, e263_114, e263_115, e263_118, e263_119, e263_122, e263_123, e263_126, e263_127, e263_128, e263_131, e263_132, e263_133, e263_136, e263_137, e263_138, e263_139, e263_142, e263_145, e263_146, e263_147, e263_150, e263_151, e263_152, am_bd_some, Option.toList_some, Option.toList_none, List.cons_append, List.nil_append, am_w8_0, am_w8_1, am_w8_2, am_w8_3, am_w8_4, eq_self, or_true, true_or, am_kd_sI, am_kd_sL, am_kd_sR, am_tc_sI, am_tc_sL, am_tc_sR, am_len_sI, am_len_sL, am_len_sR, am_rfs, if_true, if_false, am_rdL_sI, am_rR_sL, am_rt_cq, am_kd_cq, am_tc_cq, am_len_cq, am_rd_sL, am_rd_sR, am_rdL_sR, okK_211 ok1, dd, y, Bool.false_eq_true]
      rfl
  let g2 : am_H := am_sI (am_sI g1 211 52 (q_ov (F_s1 code b d))) 211 53 (-1)
  have mg2 : q_mg g2 (F_lg code b d) u := q_mg_53 (q_mg_52 mg1 _) _
  have w2 : q_gbw h g2 := w1.tr ((q_gbw_s 52 _ (by decide) g1).tr (q_gbw_s 53 _ (by decide) _))
  have ok2 := mg2.1.1
  have r52 : g2.1 211 52 = q_ov (F_s1 code b d) := rfl
  have r225 : g2.1 225 0 = nI b := rfl
  have s3 : am_ev 263 53 [some (.ref 211), some (.int (nI code)), some (.int (nI b)), some (.int (nI d))] [] (am_sI g1 211 52 (q_ov (F_s1 code b d))) = am_ev 263 58 [some (.ref 211), some (.int (nI code)), some (.int (nI b)), some (.int (nI d))] [] g2 := by
    simp only [e263_0, e263_1, e263_4, e263_5, e263_6, e263_8, e263_9, e263_10, e263_11, e263_12, e263_14, e263_15, e263_16, e263_17, e263_20, e263_21, e263_24, e263_25, e263_26, e263_27, e263_28, e263_29, e263_32, e263_33, e263_34, e263_35, e263_38, e263_41, e263_42, e263_43, e263_46, e263_49, e263_50, e263_53, e263_54, e263_55, e263_59, e263_62, e263_63, e263_66, e263_67, e263_70, e263_71, e263_72, e263_73, e263_76, e263_77, e263_78, e263_79, e263_82, e263_85, e263_86, e263_87, e263_88, e263_91, e263_92, e263_93, e263_94, e263_97, e263_98, e263_99, e263_102, e263_105, e263_106, e263_109, e263_110, e263_113, e263_114, e263_115, e263_118, e263_119, e263_122, e263_123, e263_126, e263_127, e263_128, e263_131, e263_132, e263_133, e263_136, e263_137, e263_138, e263_139, e263_142, e263_145, e263_146, e263_147, e263_150, e263_151, e263_152, am_bd_some, Option.toList_some, Option.toList_none, List.cons_append, List.nil_append, am_w8_0, am_w8_1, am_w8_2, am_w8_3, am_w8_4, eq_self, or_true, true_or, am_kd_sI, am_kd_sL, am_kd_sR, am_tc_sI, am_tc_sL, am_tc_sR, am_len_sI, am_len_sL, am_len_sR, am_rfs, if_true, if_false, am_rdL_sI, am_rR_sL, am_rt_cq, am_kd_cq, am_tc_cq, am_len_cq, am_rd_sL, am_rd_sR, am_rdL_sR, okK_211 ok1]
    rfl
  have sh : am_den 263 [.ref 211, .int (nI code), .int (nI b), .int (nI d)] h = am_ev 263 0 [some (.ref 211), some (.int (nI code)), some (.int (nI b)), some (.int (nI d))] [] h := rfl
  rw [sh, s1, s2, s3]
  rcases F_min hb hd hc with ⟨f1, f2, f3⟩ | ⟨e, t, f1, he, hn, gs, f3⟩
  · have y : q_ov none = -1 := rfl
    rw [f1, y] at r52
    refine ⟨g2, w2, by rw [r52, f1, y], by rw [f2]; rfl, ?_⟩
    rw [f3]
    simp only [e263_0, e263_1, e263_4, e263_5, e263_6, e263_8, e263_9, e263_10, e263_11, e263_12, e263_14, e263_15, e263_16, e263_17, e263_20, e263_21, e263_24, e263_25, e263_26, e263_27, e263_28, e263_29, e263_33, e263_34, e263_35, e263_38, e263_41, e263_42, e263_43, e263_46, e263_49, e263_50, e263_53, e263_54, e263_55, e263_58, e263_59, e263_62, e263_63, e263_66, e263_67, e263_70, e263_71, e263_72, e263_73, e263_76, e263_77, e263_78, e263_79, e263_82, e263_85, e263_86, e263_87, e263_88, e263_91, e263_92, e263_93, e263_94, e263_97, e263_98, e263_99, e263_102, e263_105, e263_106, e263_109, e263_110, e263_113, e263_114, e263_115, e263_118, e263_119, e263_122, e263_123, e263_126, e263_127, e263_128, e263_131, e263_132, e263_133, e263_136, e263_137, e263_138, e263_139, e263_142, e263_145, e263_146, e263_147, e263_150, e263_151, e263_152, am_bd_some, Option.toList_some, Option.toList_none, List.cons_append, List.nil_append, am_w8_0, am_w8_1, am_w8_2, am_w8_3, am_w8_4, eq_self, or_true, true_or, am_kd_sI, am_kd_sL, am_kd_sR, am_tc_sI, am_tc_sL, am_tc_sR, am_len_sI, am_len_sL, am_len_sR, am_rfs, if_true, if_false, am_rdL_sI, am_rR_sL, am_rt_cq, am_kd_cq, am_tc_cq, am_len_cq, am_rd_sL, am_rd_sR, am_rdL_sR, okK_211 ok2, okR_211_36 ok2, okT_225 ok2, okL_225 ok2, r52, x, z, r225]
  · have y : q_ov (some e) = nI e := rfl
    rw [f1, y] at r52
    have y1 : ¬ nI e = -1 := q_m1_n e (by omega)
    have tl := q_n8_lt hb hn
    have dn := den_mnext g2 _ mg2.1 wf b e (F_lg_in code b d b hb) he
    rw [F_lg_gx, hn, F_lg_nm] at dn
    have y2 : q_nv (F_lg code b d) (some t) = nI t := by
      show nI (q_nm (F_lg code b d) t) = _
      rw [F_lg_nm]
    rw [y2] at dn
    let g3 : am_H := am_sI g2 225 0 (nI t)
    have mg3 : q_mg g3 (F_lg code b d) (G_sat u 0 t) := by
      have := q_mg_at mg2 0 t
      rw [F_lg_nm] at this
      exact this
    have w3 : q_gbw h g3 := w2.tr (q_gbw_a 225 0 _ (Or.inr rfl) g2)
    have ok3 := mg3.1.1
    have co3 : G_co (G_sat u 0 t) (G_s1 (F_lg code b d) (G_0 (F_lg code b d)) 0) := by
      rw [gs]
      exact ⟨rfl, (F_lg_pen code b d t _ tl).symm, rfl, rfl, rfl⟩
    have ui3 : G_in (F_lg code b d) (G_sat u 0 t) := co3.sy.gin (G_s1_in wf (F_lg_0 code b d hb hd) F1)
    have dw3 := den_mway g3 _ _ mg3 wf ui3 (pi _ rfl ui3) 0 F1
    rw [co3.way, nI_0] at dw3
    have s4 : am_ev 263 58 [some (.ref 211), some (.int (nI code)), some (.int (nI b)), some (.int (nI d))] [] g2 = am_ev 263 86 [some (.ref 211), some (.int (nI code)), some (.int (nI b)), some (.int (nI d))] [] g3 := by
      simp only [e263_0, e263_1, e263_4, e263_5, e263_6, e263_8, e263_9, e263_10, e263_11, e263_12, e263_14, e263_15, e263_16, e263_17, e263_20, e263_21, e263_24, e263_25, e263_26, e263_27, e263_28, e263_29, e263_32, e263_33, e263_34, e263_35, e263_38, e263_41, e263_42, e263_43, e263_46, e263_49, e263_50, e263_53, e263_54, e263_55, e263_58, e263_59, e263_62, e263_63, e263_66, e263_67, e263_70, e263_71, e263_72, e263_73, e263_76, e263_77, e263_78, e263_79, e263_82, e263_85, e263_87, e263_88, e263_91, e263_92, e263_93, e263_94, e263_97, e263_98, e263_99, e263_102, e263_105, e263_106, e263_109, e263_110, e263_113, e263_114, e263_115, e263_118, e263_119, e263_122, e263_123, e263_126, e263_127, e263_128, e263_131, e263_132, e263_133, e263_136, e263_137, e263_138, e263_139, e263_142, e263_145, e263_146, e263_147, e263_150, e263_151, e263_152, am_bd_some, Option.toList_some, Option.toList_none, List.cons_append, List.nil_append, am_w8_0, am_w8_1, am_w8_2, am_w8_3, am_w8_4, eq_self, or_true, true_or, am_kd_sI, am_kd_sL, am_kd_sR, am_tc_sI, am_tc_sL, am_tc_sR, am_len_sI, am_len_sL, am_len_sR, am_rfs, if_true, if_false, am_rdL_sI, am_rR_sL, am_rt_cq, am_kd_cq, am_tc_cq, am_len_cq, am_rd_sL, am_rd_sR, am_rdL_sR, okK_211 ok2, okR_211_36 ok2, okT_225 ok2, okL_225 ok2, r52, y1, x, z, r225, dn]
      rfl
    have r224 : g3.1 224 0 = nI (code / 9) := rfl
    have k9 : nI (code / 9) = 2 ↔ code / 9 = 2 := nI_eq (b := 2) (by omega) (by decide)
    have s5 : am_ev 263 86 [some (.ref 211), some (.int (nI code)), some (.int (nI b)), some (.int (nI d))] [] g3 = am_ev 263 109 [some (.ref 211), some (.int (nI code)), some (.int (nI b)), some (.int (nI d))] [] (am_sI g3 211 53 (q_ov (F_s2 code b d))) := by
      unfold F_s2
      rw [f1]
      by_cases k2 : code / 9 = 2
      · have k2' := eq_true (k9.mpr k2)
        have k3 := eq_true k2
        simp only [e263_0, e263_1, e263_4, e263_5, e263_6, e263_8, e263_9, e263_10, e263_11, e263_12, e263_14, e263_15, e263_16, e263_17, e263_20, e263_21, e263_24, e263_25, e263_26, e263_27, e263_28, e263_29, e263_32, e263_33, e263_34, e263_35, e263_38, e263_41, e263_42, e263_43, e263_46, e263_49, e263_50, e263_53, e263_54, e263_55, e263_58, e263_59, e263_62, e263_63, e263_66, e263_67, e263_70, e263_71, e263_72, e263_73, e263_76, e263_77, e263_78, e263_79, e263_82, e263_85, e263_86, e263_87, e263_88, e263_91, e263_92, e263_93, e263_94, e263_97, e263_98, e263_99, e263_102, e263_105, e263_106, e263_110, e263_113, e263_114, e263_115, e263_118, e263_119, e263_122, e263_123, e263_126, e263_127, e263_128, e263_131, e263_132, e263_133, e263_136, e263_137, e263_138, e263_139, e263_142, e263_145, e263_146, e263_147, e263_150, e263_151, e263_152, am_bd_some, Option.toList_some, Option.toList_none, List.cons_append, List.nil_append, am_w8_0, am_w8_1, am_w8_2, am_w8_3, am_w8_4, eq_self, or_true, true_or, am_kd_sI, am_kd_sL, am_kd_sR, am_tc_sI, am_tc_sL, am_tc_sR, am_len_sI, am_len_sL, am_len_sR, am_rfs, if_true, if_false, am_rdL_sI, am_rR_sL, am_rt_cq, am_kd_cq, am_tc_cq, am_len_cq, am_rd_sL, am_rd_sR, am_rdL_sR, okK_211 ok3, okR_211_35 ok3, okT_224 ok3, okL_224 ok3, r224, k2', k3, x, z, not_true, dw3]
      · have k2' : ¬ nI (code / 9) = 2 := fun w => k2 (k9.mp w)
        simp only [e263_0, e263_1, e263_4, e263_5, e263_6, e263_8, e263_9, e263_10, e263_11, e263_12, e263_14, e263_15, e263_16, e263_17, e263_20, e263_21, e263_24, e263_25, e263_26, e263_27, e263_28, e263_29, e263_32, e263_33, e263_34, e263_35, e263_38, e263_41, e263_42, e263_43, e263_46, e263_49, e263_50, e263_53, e263_54, e263_55, e263_58, e263_59, e263_62, e263_63, e263_66, e263_67, e263_70, e263_71, e263_72, e263_73, e263_76, e263_77, e263_78, e263_79, e263_82, e263_85, e263_86, e263_87, e263_88, e263_91, e263_92, e263_93, e263_94, e263_97, e263_98, e263_99, e263_102, e263_105, e263_106, e263_110, e263_113, e263_114, e263_115, e263_118, e263_119, e263_122, e263_123, e263_126, e263_127, e263_128, e263_131, e263_132, e263_133, e263_136, e263_137, e263_138, e263_139, e263_142, e263_145, e263_146, e263_147, e263_150, e263_151, e263_152, am_bd_some, Option.toList_some, Option.toList_none, List.cons_append, List.nil_append, am_w8_0, am_w8_1, am_w8_2, am_w8_3, am_w8_4, eq_self, or_true, true_or, am_kd_sI, am_kd_sL, am_kd_sR, am_tc_sI, am_tc_sL, am_tc_sR, am_len_sI, am_len_sL, am_len_sR, am_rfs, if_true, if_false, am_rdL_sI, am_rR_sL, am_rt_cq, am_kd_cq, am_tc_cq, am_len_cq, am_rd_sL, am_rd_sR, am_rdL_sR, okK_211 ok3, okR_211_35 ok3, okT_224 ok3, okL_224 ok3, r224, k2', k2, x, z, not_false_eq_true]
        rfl
    let g4 : am_H := am_sI g3 211 53 (q_ov (F_s2 code b d))
    have mg4 : q_mg g4 (F_lg code b d) (G_sat u 0 t) := q_mg_53 mg3 _
    have w4 : q_gbw h g4 := w3.tr (q_gbw_s 53 _ (by decide) g3)
    have ok4 := mg4.1.1
    have r53 : g4.1 211 53 = q_ov (F_s2 code b d) := rfl
    have r4 : g4.1 225 0 = nI t := rfl
    have r452 : g4.1 211 52 = q_ov (F_s1 code b d) := rfl
    rw [s4, s5]
    rcases f3 with ⟨f2, f3⟩ | ⟨k2, i, v, f2, hi, hu, f3⟩
    · have yn : q_ov none = -1 := rfl
      have r53' := r53
      rw [f2, yn] at r53'
      refine ⟨am_sI g4 225 0 (nI t), w4.tr (q_gbw_a 225 0 _ (Or.inr rfl) g4), rfl, rfl, ?_⟩
      have s6 : am_ev 263 109 [some (.ref 211), some (.int (nI code)), some (.int (nI b)), some (.int (nI d))] [] g4 = am_ev 263 146 [some (.ref 211), some (.int (nI code)), some (.int (nI b)), some (.int (nI d))] [] (am_sI g4 225 0 (nI t)) := by
        simp only [e263_0, e263_1, e263_4, e263_5, e263_6, e263_8, e263_9, e263_10, e263_11, e263_12, e263_14, e263_15, e263_16, e263_17, e263_20, e263_21, e263_24, e263_25, e263_26, e263_27, e263_28, e263_29, e263_32, e263_33, e263_34, e263_35, e263_38, e263_41, e263_42, e263_43, e263_46, e263_49, e263_50, e263_53, e263_54, e263_55, e263_58, e263_59, e263_62, e263_63, e263_66, e263_67, e263_70, e263_71, e263_72, e263_73, e263_76, e263_77, e263_78, e263_79, e263_82, e263_85, e263_86, e263_87, e263_88, e263_91, e263_92, e263_93, e263_94, e263_97, e263_98, e263_99, e263_102, e263_105, e263_106, e263_109, e263_110, e263_113, e263_114, e263_115, e263_118, e263_119, e263_122, e263_123, e263_126, e263_127, e263_128, e263_131, e263_132, e263_133, e263_136, e263_137, e263_138, e263_139, e263_142, e263_145, e263_147, e263_150, e263_151, e263_152, am_bd_some, Option.toList_some, Option.toList_none, List.cons_append, List.nil_append, am_w8_0, am_w8_1, am_w8_2, am_w8_3, am_w8_4, eq_self, or_true, true_or, am_kd_sI, am_kd_sL, am_kd_sR, am_tc_sI, am_tc_sL, am_tc_sR, am_len_sI, am_len_sL, am_len_sR, am_rfs, if_true, if_false, am_rdL_sI, am_rR_sL, am_rt_cq, am_kd_cq, am_tc_cq, am_len_cq, am_rd_sL, am_rd_sR, am_rdL_sR, okK_211 ok4, okR_211_36 ok4, okT_225 ok4, okL_225 ok4, r53', not_true, x, z, r4]
      have ok5 : am_okH (am_sI g4 225 0 (nI t)) := ok4
      have r5 : (am_sI g4 225 0 (nI t)).1 225 0 = nI t := rfl
      refine s6.trans ?_
      rw [f3]
      simp only [e263_0, e263_1, e263_4, e263_5, e263_6, e263_8, e263_9, e263_10, e263_11, e263_12, e263_14, e263_15, e263_16, e263_17, e263_20, e263_21, e263_24, e263_25, e263_26, e263_27, e263_28, e263_29, e263_33, e263_34, e263_35, e263_38, e263_41, e263_42, e263_43, e263_46, e263_49, e263_50, e263_53, e263_54, e263_55, e263_58, e263_59, e263_62, e263_63, e263_66, e263_67, e263_70, e263_71, e263_72, e263_73, e263_76, e263_77, e263_78, e263_79, e263_82, e263_85, e263_86, e263_87, e263_88, e263_91, e263_92, e263_93, e263_94, e263_97, e263_98, e263_99, e263_102, e263_105, e263_106, e263_109, e263_110, e263_113, e263_114, e263_115, e263_118, e263_119, e263_122, e263_123, e263_126, e263_127, e263_128, e263_131, e263_132, e263_133, e263_136, e263_137, e263_138, e263_139, e263_142, e263_145, e263_146, e263_147, e263_150, e263_151, e263_152, am_bd_some, Option.toList_some, Option.toList_none, List.cons_append, List.nil_append, am_w8_0, am_w8_1, am_w8_2, am_w8_3, am_w8_4, eq_self, or_true, true_or, am_kd_sI, am_kd_sL, am_kd_sR, am_tc_sI, am_tc_sL, am_tc_sR, am_len_sI, am_len_sL, am_len_sR, am_rfs, if_true, if_false, am_rdL_sI, am_rR_sL, am_rt_cq, am_kd_cq, am_tc_cq, am_len_cq, am_rd_sL, am_rd_sR, am_rdL_sR, okK_211 ok4, okR_211_36 ok4, okT_225 ok4, okL_225 ok4, x, z, r5]
    · have yn : q_ov (some i) = nI i := rfl
      have r53' := r53
      rw [f2, yn] at r53'
      have y3 : ¬ nI i = -1 := q_m1_n i (by omega)
      have dn4 := den_mnext g4 _ mg4.1 wf t i (F_lg_in code b d t tl) hi
      rw [F_lg_gx, hu, F_lg_nm] at dn4
      have y4 : q_nv (F_lg code b d) (some v) = nI v := by
        show nI (q_nm (F_lg code b d) v) = _
        rw [F_lg_nm]
      rw [y4] at dn4
      refine ⟨am_sI g4 225 0 (nI v), w4.tr (q_gbw_a 225 0 _ (Or.inr rfl) g4), rfl, rfl, ?_⟩
      have s6 : am_ev 263 109 [some (.ref 211), some (.int (nI code)), some (.int (nI b)), some (.int (nI d))] [] g4 = am_ev 263 146 [some (.ref 211), some (.int (nI code)), some (.int (nI b)), some (.int (nI d))] [] (am_sI g4 225 0 (nI v)) := by
        simp only [e263_0, e263_1, e263_4, e263_5, e263_6, e263_8, e263_9, e263_10, e263_11, e263_12, e263_14, e263_15, e263_16, e263_17, e263_20, e263_21, e263_24, e263_25, e263_26, e263_27, e263_28, e263_29, e263_32, e263_33, e263_34, e263_35, e263_38, e263_41, e263_42, e263_43, e263_46, e263_49, e263_50, e263_53, e263_54, e263_55, e263_58, e263_59, e263_62, e263_63, e263_66, e263_67, e263_70, e263_71, e263_72, e263_73, e263_76, e263_77, e263_78, e263_79, e263_82, e263_85, e263_86, e263_87, e263_88, e263_91, e263_92, e263_93, e263_94, e263_97, e263_98, e263_99, e263_102, e263_105, e263_106, e263_109, e263_110, e263_113, e263_114, e263_115, e263_118, e263_119, e263_122, e263_123, e263_126, e263_127, e263_128, e263_131, e263_132, e263_133, e263_136, e263_137, e263_138, e263_139, e263_142, e263_145, e263_147, e263_150, e263_151, e263_152, am_bd_some, Option.toList_some, Option.toList_none, List.cons_append, List.nil_append, am_w8_0, am_w8_1, am_w8_2, am_w8_3, am_w8_4, eq_self, or_true, true_or, am_kd_sI, am_kd_sL, am_kd_sR, am_tc_sI, am_tc_sL, am_tc_sR, am_len_sI, am_len_sL, am_len_sR, am_rfs, if_true, if_false, am_rdL_sI, am_rR_sL, am_rt_cq, am_kd_cq, am_tc_cq, am_len_cq, am_rd_sL, am_rd_sR, am_rdL_sR, okK_211 ok4, okR_211_36 ok4, okT_225 ok4, okL_225 ok4, r53', y3, not_false_eq_true, x, z, r4, dn4]
      have ok5 : am_okH (am_sI g4 225 0 (nI v)) := ok4
      have r5 : (am_sI g4 225 0 (nI v)).1 225 0 = nI v := rfl
      refine s6.trans ?_
      rw [f3]
      simp only [e263_0, e263_1, e263_4, e263_5, e263_6, e263_8, e263_9, e263_10, e263_11, e263_12, e263_14, e263_15, e263_16, e263_17, e263_20, e263_21, e263_24, e263_25, e263_26, e263_27, e263_28, e263_29, e263_33, e263_34, e263_35, e263_38, e263_41, e263_42, e263_43, e263_46, e263_49, e263_50, e263_53, e263_54, e263_55, e263_58, e263_59, e263_62, e263_63, e263_66, e263_67, e263_70, e263_71, e263_72, e263_73, e263_76, e263_77, e263_78, e263_79, e263_82, e263_85, e263_86, e263_87, e263_88, e263_91, e263_92, e263_93, e263_94, e263_97, e263_98, e263_99, e263_102, e263_105, e263_106, e263_109, e263_110, e263_113, e263_114, e263_115, e263_118, e263_119, e263_122, e263_123, e263_126, e263_127, e263_128, e263_131, e263_132, e263_133, e263_136, e263_137, e263_138, e263_139, e263_142, e263_145, e263_146, e263_147, e263_150, e263_151, e263_152, am_bd_some, Option.toList_some, Option.toList_none, List.cons_append, List.nil_append, am_w8_0, am_w8_1, am_w8_2, am_w8_3, am_w8_4, eq_self, or_true, true_or, am_kd_sI, am_kd_sL, am_kd_sR, am_tc_sI, am_tc_sL, am_tc_sR, am_len_sI, am_len_sL, am_len_sR, am_rfs, if_true, if_false, am_rdL_sI, am_rR_sL, am_rt_cq, am_kd_cq, am_tc_cq, am_len_cq, am_rd_sL, am_rd_sR, am_rdL_sR, okK_211 ok4, okR_211_36 ok4, okT_225 ok4, okL_225 ok4, x, z, r5]
theorem q_gbw.mL {h h' : am_H} (f : q_gbw h h') {i : Nat} {l : q_Lg} (lk : L_ok l) (m : q_mL h i l) : q_mL h' i l := ⟨m.1, by rw [f.2 _ _ (by decide) (by decide) (by decide)]; exact m.2.1, m.2.2.cg lk.1 (fun k _ => f.2 _ _ (by decide) (by decide) (by omega))⟩
theorem q_is_l (i : Nat) (l : q_Lg) (lk : L_ok l) (code : Nat) (hc : code < 36) : ∀ (r k : Nat) (h : am_H) (z3 : Option Value), k + r = L_n l → q_lgM h → q_mL h i l → ∃ h' : am_H, q_gbw h h' ∧ am_ev 262 2 [some (.ref 211), some (.int (nI code)), some (.int (nI k)), z3] [] h = some (some (.int (q_bi (q_allB (L_so l code) r k))), h') := by
  have n8 := lk.1
  intro r
  induction r with
  | zero =>
    intro k h z3 hk lg mL
    have ok := lg.1
    have df := den_facts h ok i l mL
    have h1 : nI (L_n l) ≤ nI k := nI_le (by omega) (by omega)
    refine ⟨h, q_gbw.rf h, ?_⟩
    rw [e262_2]
    simp only [e262_0, e262_1, e262_3, e262_4, e262_7, e262_10, e262_11, e262_12, e262_14, e262_15, e262_16, e262_17, e262_20, e262_21, e262_22, e262_23, e262_24, e262_27, e262_28, e262_30, e262_31, e262_32, e262_33, e262_36, e262_37, e262_38, e262_39, e262_40, e262_43, e262_44, e262_47, e262_48, e262_49, e262_50, e262_51, e262_54, e262_55, e262_56, e262_59, e262_60, e262_61, e262_62, e262_65, e262_68, e262_69, e262_72, e262_73, e262_74, e262_77, e262_78, e262_79, e262_80, e262_83, e262_86, e262_87, e262_90, e262_91, e262_92, e262_95, e262_98, e262_99, am_bd_some, Option.toList_some, Option.toList_none, List.cons_append, List.nil_append, am_w8_0, am_w8_1, am_w8_2, am_w8_3, am_w8_4, eq_self, or_true, true_or, am_kd_sI, am_kd_sL, am_kd_sR, am_tc_sI, am_tc_sL, am_tc_sR, am_len_sI, am_len_sL, am_len_sR, am_rfs, if_true, if_false, am_rdL_sI, am_rR_sL, am_rt_cq, am_kd_cq, am_tc_cq, am_len_cq, am_rd_sL, am_rd_sR, am_rdL_sR, okK_211 ok, df, h1, q_allB]
    rfl
  | succ r ih =>
    intro k h z3 hk lg mL
    have ok := lg.1
    have df := den_facts h ok i l mL
    have h1 : ¬ nI (L_n l) ≤ nI k := nI_ge (by omega) (by omega)
    obtain ⟨w0, w1, w2, w3, w4⟩ := lk.2 k (by omega)
    have fa : ∀ (x : am_H), am_okH x → q_mL x i l → ∀ w : Nat, w < 6 → am_den 259 [.ref 211, .int (nI k), .int (nI w)] x = some (some (.int (x.1 220 (49 * i + (1 + w) + 6 * k))), x) := fun x hx mx w hw => den_factOf x hx i l lk mx k w (by omega) hw
    have vals : ∀ (x : am_H), q_mL x i l → x.1 220 (49 * i + (1 + 0) + 6 * k) = nI (L_did l k) ∧ x.1 220 (49 * i + (1 + 1) + 6 * k) = nI (L_beast l k % 8) ∧ x.1 220 (49 * i + (1 + 2) + 6 * k) = nI (L_beast l k / 8) ∧ x.1 220 (49 * i + (1 + 3) + 6 * k) = nI (L_dog l k % 8) ∧ x.1 220 (49 * i + (1 + 4) + 6 * k) = nI (L_dog l k / 8) ∧ x.1 220 (49 * i + (1 + 5) + 6 * k) = L_way l k := fun x mx => by
      obtain ⟨a, ⟨b, c⟩, ⟨d, e⟩, f⟩ := mx.2.2.2 k (by omega)
      exact ⟨a, b, c, d, e, f⟩
    obtain ⟨p0, p1, p2, p3, p4, p5⟩ := vals h mL
    have f1 := fa h ok mL 1 (by decide)
    have f2 := fa h ok mL 2 (by decide)
    have f3 := fa h ok mL 3 (by decide)
    have f4 := fa h ok mL 4 (by decide)
    rw [p1, show nI 1 = 1 from rfl] at f1
    rw [p2, show nI 2 = 2 from rfl] at f2
    rw [p3, show nI 3 = 3 from rfl] at f3
    rw [p4, show nI 4 = 4 from rfl] at f4
    have c1 := q_8c w1
    have c2 := q_8c w2
    obtain ⟨ha, wa, ea, eb, sa⟩ := den_goesBy h lg code (L_beast l k) (L_dog l k) hc w1 w2
    have lga := wa.lg lg
    have oka := lga.1
    have mLa := wa.mL lk mL
    obtain ⟨q0, q1, q2, q3, q4, q5⟩ := vals ha mLa
    have f0 := fa ha oka mLa 0 (by decide)
    have f5 := fa ha oka mLa 5 (by decide)
    rw [q0, nI_0] at f0
    rw [q5, show nI 5 = 5 from rfl] at f5
    have iff := L_so_iff lk hc (k := k) (by omega)
    have d1 : nI (L_did l k) = 1 ↔ L_did l k = 1 := nI_eq (b := 1) (by omega) (by decide)
    rw [e262_2, q_allB]
    cases hs : L_so l code k with
    | false =>
      refine ⟨ha, wa, ?_⟩
      by_cases o1 : q_ov (F_s1 code (L_beast l k) (L_dog l k)) = L_way l k
      · have o1' := eq_true o1
        by_cases c : L_did l k = 1
        · have c' := eq_true (d1.mpr c)
          have o2 : ¬ q_ov (F_s2 code (L_beast l k) (L_dog l k)) = L_way l k := fun w => by
            have := iff.mp ⟨o1, by rw [if_pos c]; exact w⟩
            rw [this] at hs
            cases hs
          simp only [e262_0, e262_1, e262_3, e262_4, e262_7, e262_10, e262_11, e262_12, e262_14, e262_15, e262_16, e262_17, e262_20, e262_21, e262_22, e262_23, e262_24, e262_27, e262_28, e262_30, e262_31, e262_32, e262_33, e262_36, e262_37, e262_38, e262_39, e262_40, e262_43, e262_44, e262_47, e262_48, e262_49, e262_50, e262_51, e262_54, e262_55, e262_56, e262_59, e262_60, e262_61, e262_62, e262_65, e262_68, e262_69, e262_72, e262_73, e262_74, e262_77, e262_78, e262_79, e262_80, e262_83, e262_86, e262_87, e262_90, e262_91, e262_92, e262_95, e262_98, e262_99, am_bd_some, Option.toList_some, Option.toList_none, List.cons_append, List.nil_append, am_w8_0, am_w8_1, am_w8_2, am_w8_3, am_w8_4, eq_self, or_true, true_or, am_kd_sI, am_kd_sL, am_kd_sR, am_tc_sI, am_tc_sL, am_tc_sR, am_len_sI, am_len_sL, am_len_sR, am_rfs, if_true, if_false, am_rdL_sI, am_rR_sL, am_rt_cq, am_kd_cq, am_tc_cq, am_len_cq, am_rd_sL, am_rd_sR, am_rdL_sR, okK_211 ok, df, h1, f1, f2, f3, f4, c1, c2, sa, okK_211 oka, f0, f5, ea, eb, o1', c', not_true, o2, Bool.false_and]
          rfl
        · have c' : ¬ nI (L_did l k) = 1 := fun w => c (d1.mp w)
          have o2 : ¬ q_ov (F_s2 code (L_beast l k) (L_dog l k)) = -1 := fun w => by
            have := iff.mp ⟨o1, by rw [if_neg c]; exact w⟩
            rw [this] at hs
            cases hs
          simp only [e262_0, e262_1, e262_3, e262_4, e262_7, e262_10, e262_11, e262_12, e262_14, e262_15, e262_16, e262_17, e262_20, e262_21, e262_22, e262_23, e262_24, e262_27, e262_28, e262_30, e262_31, e262_32, e262_33, e262_36, e262_37, e262_38, e262_39, e262_40, e262_43, e262_44, e262_47, e262_48, e262_49, e262_50, e262_51, e262_54, e262_55, e262_56, e262_59, e262_60, e262_61, e262_62, e262_65, e262_68, e262_69, e262_72, e262_73, e262_74, e262_77, e262_78, e262_79, e262_80, e262_83, e262_86, e262_87, e262_90, e262_91, e262_92, e262_95, e262_98, e262_99, am_bd_some, Option.toList_some, Option.toList_none, List.cons_append, List.nil_append, am_w8_0, am_w8_1, am_w8_2, am_w8_3, am_w8_4, eq_self, or_true, true_or, am_kd_sI, am_kd_sL, am_kd_sR, am_tc_sI, am_tc_sL, am_tc_sR, am_len_sI, am_len_sL, am_len_sR, am_rfs, if_true, if_false, am_rdL_sI, am_rR_sL, am_rt_cq, am_kd_cq, am_tc_cq, am_len_cq, am_rd_sL, am_rd_sR, am_rdL_sR, okK_211 ok, df, h1, f1, f2, f3, f4, c1, c2, sa, okK_211 oka, f0, f5, ea, eb, o1', c', not_true, not_false_eq_true, o2, Bool.false_and]
          rfl
      · simp only [e262_0, e262_1, e262_3, e262_4, e262_7, e262_10, e262_11, e262_12, e262_14, e262_15, e262_16, e262_17, e262_20, e262_21, e262_22, e262_23, e262_24, e262_27, e262_28, e262_30, e262_31, e262_32, e262_33, e262_36, e262_37, e262_38, e262_39, e262_40, e262_43, e262_44, e262_47, e262_48, e262_49, e262_50, e262_51, e262_54, e262_55, e262_56, e262_59, e262_60, e262_61, e262_62, e262_65, e262_68, e262_69, e262_72, e262_73, e262_74, e262_77, e262_78, e262_79, e262_80, e262_83, e262_86, e262_87, e262_90, e262_91, e262_92, e262_95, e262_98, e262_99, am_bd_some, Option.toList_some, Option.toList_none, List.cons_append, List.nil_append, am_w8_0, am_w8_1, am_w8_2, am_w8_3, am_w8_4, eq_self, or_true, true_or, am_kd_sI, am_kd_sL, am_kd_sR, am_tc_sI, am_tc_sL, am_tc_sR, am_len_sI, am_len_sL, am_len_sR, am_rfs, if_true, if_false, am_rdL_sI, am_rR_sL, am_rt_cq, am_kd_cq, am_tc_cq, am_len_cq, am_rd_sL, am_rd_sR, am_rdL_sR, okK_211 ok, df, h1, f1, f2, f3, f4, c1, c2, sa, okK_211 oka, f0, f5, ea, eb, o1, not_false_eq_true, Bool.false_and]
        rfl
    | true =>
      obtain ⟨o1, o2⟩ := iff.mpr hs
      have o1' := eq_true o1
      obtain ⟨h2, w2', s2⟩ := ih (k + 1) ha (some (.int (nI (L_did l k)))) (by omega) lga mLa
      refine ⟨h2, wa.tr w2', ?_⟩
      by_cases c : L_did l k = 1
      · have c' := eq_true (d1.mpr c)
        rw [if_pos c] at o2
        have o2' := eq_true o2
        simp only [e262_0, e262_1, e262_3, e262_4, e262_7, e262_10, e262_11, e262_12, e262_14, e262_15, e262_16, e262_17, e262_20, e262_21, e262_22, e262_23, e262_24, e262_27, e262_28, e262_30, e262_31, e262_32, e262_33, e262_36, e262_37, e262_38, e262_39, e262_40, e262_43, e262_44, e262_47, e262_48, e262_49, e262_50, e262_51, e262_54, e262_55, e262_56, e262_59, e262_60, e262_61, e262_62, e262_65, e262_68, e262_69, e262_72, e262_73, e262_74, e262_77, e262_78, e262_79, e262_80, e262_83, e262_86, e262_87, e262_90, e262_91, e262_92, e262_95, e262_98, e262_99, am_bd_some, Option.toList_some, Option.toList_none, List.cons_append, List.nil_append, am_w8_0, am_w8_1, am_w8_2, am_w8_3, am_w8_4, eq_self, or_true, true_or, am_kd_sI, am_kd_sL, am_kd_sR, am_tc_sI, am_tc_sL, am_tc_sR, am_len_sI, am_len_sL, am_len_sR, am_rfs, if_true, if_false, am_rdL_sI, am_rR_sL, am_rt_cq, am_kd_cq, am_tc_cq, am_len_cq, am_rd_sL, am_rd_sR, am_rdL_sR, okK_211 ok, df, h1, f1, f2, f3, f4, c1, c2, sa, okK_211 oka, f0, f5, ea, eb, o1', c', not_true, o2', Bool.true_and, nI_1]
        exact s2
      · have c' : ¬ nI (L_did l k) = 1 := fun w => c (d1.mp w)
        rw [if_neg c] at o2
        have o2' := eq_true o2
        simp only [e262_0, e262_1, e262_3, e262_4, e262_7, e262_10, e262_11, e262_12, e262_14, e262_15, e262_16, e262_17, e262_20, e262_21, e262_22, e262_23, e262_24, e262_27, e262_28, e262_30, e262_31, e262_32, e262_33, e262_36, e262_37, e262_38, e262_39, e262_40, e262_43, e262_44, e262_47, e262_48, e262_49, e262_50, e262_51, e262_54, e262_55, e262_56, e262_59, e262_60, e262_61, e262_62, e262_65, e262_68, e262_69, e262_72, e262_73, e262_74, e262_77, e262_78, e262_79, e262_80, e262_83, e262_86, e262_87, e262_90, e262_91, e262_92, e262_95, e262_98, e262_99, am_bd_some, Option.toList_some, Option.toList_none, List.cons_append, List.nil_append, am_w8_0, am_w8_1, am_w8_2, am_w8_3, am_w8_4, eq_self, or_true, true_or, am_kd_sI, am_kd_sL, am_kd_sR, am_tc_sI, am_tc_sL, am_tc_sR, am_len_sI, am_len_sL, am_len_sR, am_rfs, if_true, if_false, am_rdL_sI, am_rR_sL, am_rt_cq, am_kd_cq, am_tc_cq, am_len_cq, am_rd_sL, am_rd_sR, am_rdL_sR, okK_211 ok, df, h1, f1, f2, f3, f4, c1, c2, sa, okK_211 oka, f0, f5, ea, eb, o1', c', not_true, not_false_eq_true, o2', Bool.true_and, nI_1]
        exact s2
/-- those below n that fit, in a row -/
def q_ls (P : Nat → Bool) (n : Nat) : List Nat := (List.range n).filter P
theorem q_ls_s (P : Nat → Bool) (n : Nat) : q_ls P (n + 1) = q_ls P n ++ (if P n = true then [n] else []) := by
  unfold q_ls
  rw [List.range_succ, List.filter_append]
  congr 1
  cases hp : P n <;> simp [hp]
theorem q_ls_le (P : Nat → Bool) (n : Nat) : (q_ls P n).length ≤ n := by
  have := List.length_filter_le P (List.range n)
  rw [List.length_range] at this
  exact this
theorem q_ls_mem {P : Nat → Bool} {n c : Nat} (h : c ∈ q_ls P n) : c < n ∧ P c = true := by
  obtain ⟨h1, h2⟩ := List.mem_filter.mp h
  exact ⟨List.mem_range.mp h1, h2⟩
/-- what findFits changes -/
def q_ffw (h h' : am_H) : Prop := h'.2 = h.2 ∧ ∀ a k, a ≠ 224 → a ≠ 225 → a ≠ 233 → (a = 211 → k ≠ 28 ∧ k ≠ 29 ∧ k ≠ 51 ∧ k ≠ 52 ∧ k ≠ 53) → h'.1 a k = h.1 a k
theorem q_ffw.rf (h : am_H) : q_ffw h h := ⟨rfl, fun _ _ _ _ _ _ => rfl⟩
theorem q_ffw.tr {h h' h'' : am_H} (a : q_ffw h h') (b : q_ffw h' h'') : q_ffw h h'' := ⟨b.1.trans a.1, fun x k p1 p2 p3 p4 => (b.2 x k p1 p2 p3 p4).trans (a.2 x k p1 p2 p3 p4)⟩
theorem q_gbw.ff {h h' : am_H} (f : q_gbw h h') : q_ffw h h' := ⟨f.1, fun a k p1 p2 _ p4 => f.2 a k p1 p2 (fun w => by have := p4 w; omega)⟩
theorem q_ffw.wk {h h' : am_H} (f : q_ffw h h') (ok : am_okH h) : q_wk h h' := ⟨ok.of (congrArg Prod.snd f.1), by rw [f.1], fun a k w => ⟨f.2 a k (by unfold q_told at w; omega) (by unfold q_told at w; omega) (by unfold q_told at w; omega) (by unfold q_told at w; omega), by rw [f.1]⟩⟩
theorem q_ffw.lg {h h' : am_H} (f : q_ffw h h') (m : q_lgM h) : q_lgM h' := by
  obtain ⟨ok, ⟨e1, e2, e3, e4, e5, e6, e7⟩, w⟩ := m
  refine ⟨ok.of (congrArg Prod.snd f.1), ⟨?_, ?_, ?_, ?_, ?_, ?_, ?_⟩, fun c hc => ?_⟩
  · rw [f.2 _ _ (by decide) (by decide) (by decide) (by decide)]; exact e1
  · rw [f.2 _ _ (by decide) (by decide) (by decide) (by decide)]; exact e2
  · rw [f.2 _ _ (by decide) (by decide) (by decide) (by decide)]; exact e3
  · rw [f.2 _ _ (by decide) (by decide) (by decide) (by decide)]; exact e4
  · rw [f.2 _ _ (by decide) (by decide) (by decide) (by decide)]; exact e5
  · rw [f.2 _ _ (by decide) (by decide) (by decide) (by decide)]; exact e6
  · rw [f.2 _ _ (by decide) (by decide) (by decide) (by decide)]; exact e7
  · rw [f.2 _ _ (by decide) (by decide) (by decide) (by omega)]; exact w c hc
theorem q_ffw.mL {h h' : am_H} (f : q_ffw h h') {i : Nat} {l : q_Lg} (lk : L_ok l) (m : q_mL h i l) : q_mL h' i l := ⟨m.1, by rw [f.2 _ _ (by decide) (by decide) (by decide) (by decide)]; exact m.2.1, m.2.2.cg lk.1 (fun k _ => f.2 _ _ (by decide) (by decide) (by decide) (by omega))⟩
/-- what findFits has found -/
def q_fnd (h : am_H) (L : List Nat) : Prop := h.1 211 51 = nI L.length ∧ ∀ j, j < L.length → h.1 233 j = nI (L.getD j 0)
theorem q_gbw.fnd {h h' : am_H} (f : q_gbw h h') {L : List Nat} (m : q_fnd h L) : q_fnd h' L := ⟨by rw [f.2 _ _ (by decide) (by decide) (by decide)]; exact m.1, fun j hj => by rw [f.2 _ _ (by decide) (by decide) (by omega)]; exact m.2 j hj⟩
theorem q_find_l (i : Nat) (l : q_Lg) (lk : L_ok l) : ∀ (r c : Nat) (h : am_H), c + r = 36 → q_lgM h → q_mL h i l → q_fnd h (q_ls (L_fit l) c) → ∃ h' : am_H, q_ffw h h' ∧ q_fnd h' (q_ls (L_fit l) 36) ∧ am_ev 261 7 [some (.ref 211), some (.int (nI c))] [] h = some (none, h') := by
  intro r
  induction r with
  | zero =>
    intro c h hc lg mL fd
    obtain rfl : c = 36 := by omega
    have h1 : (36 : Int32) ≤ nI 36 := by decide
    refine ⟨h, q_ffw.rf h, fd, ?_⟩
    rw [e261_7]
    simp only [e261_0, e261_1, e261_2, e261_5, e261_6, e261_8, e261_10, e261_13, e261_14, e261_15, e261_18, e261_21, e261_22, e261_25, e261_26, e261_29, e261_30, e261_31, e261_32, e261_32i, e261_33, e261_36, e261_37, e261_38, e261_41, e261_44, e261_47, am_bd_some, Option.toList_some, Option.toList_none, List.cons_append, List.nil_append, am_w8_0, am_w8_1, am_w8_2, am_w8_3, am_w8_4, eq_self, or_true, true_or, am_kd_sI, am_kd_sL, am_kd_sR, am_tc_sI, am_tc_sL, am_tc_sR, am_len_sI, am_len_sL, am_len_sR, am_rfs, if_true, if_false, am_rdL_sI, am_rR_sL, am_rt_cq, am_kd_cq, am_tc_cq, am_len_cq, am_rd_sL, am_rd_sR, am_rdL_sR, h1]
  | succ r ih =>
    intro c h hc lg mL fd
    have ok := lg.1
    have h1 : ¬ (36 : Int32) ≤ nI c := fun w => nI_ge (b := 36) (a := c) (by omega) (by decide) w
    obtain ⟨ha, wa, sa⟩ := q_is_l i l lk c (by omega) (L_n l) 0 h none (by omega) lg mL
    have lga := wa.lg lg
    have oka := lga.1
    have mLa := wa.mL lk mL
    have fda := wa.fnd fd
    have se : am_den 262 [.ref 211, .int (nI c)] h = some (some (.int (q_bi (L_fit l c))), ha) := by
      show am_ev 262 0 [some (.ref 211), some (.int (nI c)), none, none] [] h = _
      rw [nI_0] at sa
      simp only [e262_0, e262_1, e262_3, e262_4, e262_7, e262_10, e262_11, e262_12, e262_14, e262_15, e262_16, e262_17, e262_20, e262_21, e262_22, e262_23, e262_24, e262_27, e262_28, e262_30, e262_31, e262_32, e262_33, e262_36, e262_37, e262_38, e262_39, e262_40, e262_43, e262_44, e262_47, e262_48, e262_49, e262_50, e262_51, e262_54, e262_55, e262_56, e262_59, e262_60, e262_61, e262_62, e262_65, e262_68, e262_69, e262_72, e262_73, e262_74, e262_77, e262_78, e262_79, e262_80, e262_83, e262_86, e262_87, e262_90, e262_91, e262_92, e262_95, e262_98, e262_99, am_bd_some, Option.toList_some, Option.toList_none, List.cons_append, List.nil_append, am_w8_0, am_w8_1, am_w8_2, am_w8_3, am_w8_4, eq_self, or_true, true_or, am_kd_sI, am_kd_sL, am_kd_sR, am_tc_sI, am_tc_sL, am_tc_sR, am_len_sI, am_len_sL, am_len_sR, am_rfs, if_true, if_false, am_rdL_sI, am_rR_sL, am_rt_cq, am_kd_cq, am_tc_cq, am_len_cq, am_rd_sL, am_rd_sR, am_rdL_sR]
      exact sa
    rw [e261_7]
    cases hf : L_fit l c with
    | false =>
      rw [hf] at se
      have y : q_bi false = 0 := rfl
      have e : q_ls (L_fit l) (c + 1) = q_ls (L_fit l) c := by rw [q_ls_s, hf]; simp
      obtain ⟨h2, f2, d2, s2⟩ := ih (c + 1) ha (by omega) lga mLa (by rw [e]; exact fda)
      refine ⟨h2, wa.ff.tr f2, d2, ?_⟩
      simp only [e261_0, e261_1, e261_2, e261_5, e261_6, e261_8, e261_10, e261_13, e261_14, e261_15, e261_18, e261_21, e261_22, e261_25, e261_26, e261_29, e261_30, e261_31, e261_32, e261_32i, e261_33, e261_36, e261_37, e261_38, e261_41, e261_44, e261_47, am_bd_some, Option.toList_some, Option.toList_none, List.cons_append, List.nil_append, am_w8_0, am_w8_1, am_w8_2, am_w8_3, am_w8_4, eq_self, or_true, true_or, am_kd_sI, am_kd_sL, am_kd_sR, am_tc_sI, am_tc_sL, am_tc_sR, am_len_sI, am_len_sL, am_len_sR, am_rfs, if_true, if_false, am_rdL_sI, am_rR_sL, am_rt_cq, am_kd_cq, am_tc_cq, am_len_cq, am_rd_sL, am_rd_sR, am_rdL_sR, h1, okK_211 ok, se, y, nI_1]
      exact s2
    | true =>
      rw [hf] at se
      have y : ¬ q_bi true = 0 := by decide
      have ll := q_ls_le (L_fit l) c
      have x : am_ix (nI (q_ls (L_fit l) c).length) 36 = true := am_ix_nI (by omega) (by decide)
      have z : (nI (q_ls (L_fit l) c).length).toNatClampNeg = (q_ls (L_fit l) c).length := nI_clamp (by omega)
      have e : q_ls (L_fit l) (c + 1) = q_ls (L_fit l) c ++ [c] := by rw [q_ls_s, hf]; simp
      let hb : am_H := am_sI (am_sI ha 233 (q_ls (L_fit l) c).length (nI c)) 211 51 (nI ((q_ls (L_fit l) c).length + 1))
      have wb : q_ffw ha hb := ⟨rfl, fun a k p1 p2 p3 p4 => by
        show (am_sI (am_sI ha 233 (q_ls (L_fit l) c).length (nI c)) 211 51 (nI ((q_ls (L_fit l) c).length + 1))).1 a k = _
        rw [am_rd_sI, if_neg (fun w => by have := p4 w.1; omega), am_rd_sI, if_neg (fun w => p3 w.1)]⟩
      have fdb : q_fnd hb (q_ls (L_fit l) (c + 1)) := by
        rw [e]
        refine ⟨?_, fun j hj => ?_⟩
        · rw [List.length_append]
          rfl
        · show (am_sI (am_sI ha 233 (q_ls (L_fit l) c).length (nI c)) 211 51 (nI ((q_ls (L_fit l) c).length + 1))).1 233 j = _
          rw [am_rd_sI, if_neg (by omega), am_rd_sI]
          rw [List.length_append] at hj
          by_cases cj : j = (q_ls (L_fit l) c).length
          · rw [if_pos ⟨rfl, cj⟩, cj, List.getD_eq_getElem?_getD, List.getElem?_append_right (Nat.le_refl _), Nat.sub_self]
            rfl
          · have hj2 : j < (q_ls (L_fit l) c).length := by
              have : j < (q_ls (L_fit l) c).length + 1 := hj
              omega
            rw [if_neg (fun w => cj w.2), fda.2 j hj2, List.getD_eq_getElem?_getD, List.getD_eq_getElem?_getD, List.getElem?_append_left hj2]
      obtain ⟨h2, f2, d2, s2⟩ := ih (c + 1) hb (by omega) (wb.lg lga) (wb.mL lk mLa) fdb
      have r51 : (am_sI ha 233 (q_ls (L_fit l) c).length (nI c)).1 211 51 = nI (q_ls (L_fit l) c).length := by
        rw [am_rd_sI, if_neg (by omega)]
        exact fda.1
      refine ⟨h2, wa.ff.tr (wb.tr f2), d2, ?_⟩
      simp only [e261_0, e261_1, e261_2, e261_5, e261_6, e261_8, e261_10, e261_13, e261_14, e261_15, e261_18, e261_21, e261_22, e261_25, e261_26, e261_29, e261_30, e261_31, e261_32, e261_32i, e261_33, e261_36, e261_37, e261_38, e261_41, e261_44, e261_47, am_bd_some, Option.toList_some, Option.toList_none, List.cons_append, List.nil_append, am_w8_0, am_w8_1, am_w8_2, am_w8_3, am_w8_4, eq_self, or_true, true_or, am_kd_sI, am_kd_sL, am_kd_sR, am_tc_sI, am_tc_sL, am_tc_sR, am_len_sI, am_len_sL, am_len_sR, am_rfs, if_true, if_false, am_rdL_sI, am_rR_sL, am_rt_cq, am_kd_cq, am_tc_cq, am_len_cq, am_rd_sL, am_rd_sR, am_rdL_sR, h1, okK_211 ok, se, y, okK_211 oka, okR_211_50 oka, okT_233 oka, okL_233 oka, fda.1, x, z, r51, nI_1]
      exact s2
theorem den_findFits (i : Nat) (l : q_Lg) (lk : L_ok l) (h : am_H) (lg : q_lgM h) (mL : q_mL h i l) : ∃ h' : am_H, q_ffw h h' ∧ q_fnd h' (q_ls (L_fit l) 36) ∧ am_den 261 [.ref 211] h = some (none, h') := by
  have ok := lg.1
  have w0 : q_ffw h (am_sI h 211 51 0) := ⟨rfl, fun a k p1 p2 p3 p4 => by rw [am_rd_sI, if_neg (fun w => by have := p4 w.1; omega)]⟩
  have fd : q_fnd (am_sI h 211 51 0) (q_ls (L_fit l) 0) := ⟨rfl, fun j hj => absurd hj (Nat.not_lt_zero _)⟩
  obtain ⟨h2, f2, d2, s2⟩ := q_find_l i l lk 36 0 (am_sI h 211 51 0) (by omega) (w0.lg lg) (w0.mL lk mL) fd
  refine ⟨h2, w0.tr f2, d2, ?_⟩
  rw [nI_0] at s2
  show am_ev 261 0 [some (.ref 211), none] [] h = _
  simp only [e261_0, e261_1, e261_2, e261_5, e261_6, e261_8, e261_10, e261_13, e261_14, e261_15, e261_18, e261_21, e261_22, e261_25, e261_26, e261_29, e261_30, e261_31, e261_32, e261_32i, e261_33, e261_36, e261_37, e261_38, e261_41, e261_44, e261_47, am_bd_some, Option.toList_some, Option.toList_none, List.cons_append, List.nil_append, am_w8_0, am_w8_1, am_w8_2, am_w8_3, am_w8_4, eq_self, or_true, true_or, am_kd_sI, am_kd_sL, am_kd_sR, am_tc_sI, am_tc_sL, am_tc_sR, am_len_sI, am_len_sL, am_len_sR, am_rfs, if_true, if_false, am_rdL_sI, am_rR_sL, am_rt_cq, am_kd_cq, am_tc_cq, am_len_cq, am_rd_sL, am_rd_sR, am_rdL_sR, okK_211 ok]
  exact s2
