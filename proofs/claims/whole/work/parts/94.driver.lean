/-! part 94: the reference: the row of dogs; notary, dear, idle -/
theorem B_cd_cg {k : q_Bk} {t t' : Nat → Nat} (h : ∀ d, d < B_d k → t d = t' d) (r b d : Nat) : B_cd k r b t d = B_cd k r b t' d := by
  unfold B_cd
  rw [B_mayB_cg h b d, B_V_cg k (r + 1) b t t' h]
  cases hm : B_mayB k t' b d with
  | false => rfl
  | true => rw [B_V_cg k r (b + 1) _ _ (B_dec_cg h (B_mayB_iff.mp hm).1)]
theorem B_who_cg {k : q_Bk} {t t' : Nat → Nat} (h : ∀ d, d < B_d k → t d = t' d) (r b : Nat) : B_who k r b t = B_who k r b t' := by
  unfold B_who
  rw [q_first_cg 5 0 (fun d _ _ => B_cd_cg h r b d)]
/-- what driverOf changes -/
def q_drw (h h' : am_H) : Prop := h'.2 = h.2 ∧ ∀ a j, (a = 211 → j ≠ 47) → h'.1 a j = h.1 a j
theorem q_drw.rf (h : am_H) : q_drw h h := ⟨rfl, fun _ _ _ => rfl⟩
theorem q_drw.tr {h h' h'' : am_H} (x : q_drw h h') (y : q_drw h' h'') : q_drw h h'' := ⟨y.1.trans x.1, fun a j p => (y.2 a j p).trans (x.2 a j p)⟩
theorem q_drw.wk {h h' : am_H} (f : q_drw h h') (ok : am_okH h) : q_wk h h' := ⟨ok.of (congrArg Prod.snd f.1), by rw [f.1], fun a k w => ⟨f.2 a k (by unfold q_told at w; omega), by rw [f.1]⟩⟩
theorem q_drw.mbk {h h' : am_H} (f : q_drw h h') {i : Nat} {k : q_Bk} (bk : B_ok k) (m : q_mQ h i k) : q_mQ h' i k := ⟨m.1.of (congrArg Prod.snd f.1), m.2.1, by rw [f.2 _ _ (by decide)]; exact m.2.2.1, m.2.2.2.cg bk (fun j _ => f.2 _ _ (by omega))⟩
theorem q_drw.tab {h h' : am_H} (f : q_drw h h') {k : q_Bk} {b : Nat} (t : q_tab h k b) : q_tab h' k b := fun b' l1 l2 c hc => by rw [f.2 _ _ (by omega)]; exact t b' l1 l2 c hc
theorem q_dv_i (i : Nat) (k : q_Bk) (bk : B_ok k) (h : am_H) (m : q_mQ h i k) (tab : q_tab h k 0) (bg : Int32) (b : Nat) (hb : b < B_b k) (c : Nat) (hc : c < 1024) : ∀ (r w : Nat) (z6 : Option Value), r ≤ 5 → w = (q_first (B_cd k (B_b k - (b + 1)) b (q_tq c)) (5 - r) r).getD 5 → ∃ z6' : Option Value, am_ev 251 26 [some (.ref 211), some (.int bg), some (.int (nI c)), some (.int (nI w)), some (.int (nI b)), some (.int (q_dn r)), z6] [] h = am_ev 251 116 [some (.ref 211), some (.int bg), some (.int (nI c)), some (.int (nI (B_who k (B_b k - (b + 1)) b (q_tq c)))), some (.int (nI b)), some (.int (-1)), z6'] [] h := by
  have ok := m.1
  have b8 := bk.2.1
  have fw := m.wo b hb (by omega)
  have lw := (bk.2.2.2.2.1 b hb).2
  have m0 : (1024 : Int32) * nI b = nI (1024 * b) := pk_mul 1024 _
  have m1 : (1024 : Int32) * nI (b + 1) = nI (1024 * (b + 1)) := pk_mul 1024 _
  have x0 : am_ix (nI (1024 * b + c)) 9216 = true := am_ix_nI (by omega) (by decide)
  have z0 : (nI (1024 * b + c)).toNatClampNeg = 1024 * b + c := nI_clamp (by omega)
  have r0 := tab b (Nat.zero_le _) (by omega) c hc
  have vl0 := B_V_le bk b (by omega) (q_tq c)
  have eb : B_b k - (b + 1) + 1 = B_b k - b := by omega
  intro r
  induction r with
  | zero =>
    intro w z6 hr hw
    have e : q_dn 0 = -1 := rfl
    have lt : (-1 : Int32) < 0 := by decide
    have ew : w = B_who k (B_b k - (b + 1)) b (q_tq c) := hw
    refine ⟨z6, ?_⟩
    rw [e, ew, e251_26]
    simp only [e251_0, e251_1, e251_4, e251_5, e251_6, e251_7, e251_8, e251_9, e251_12, e251_13, e251_15, e251_17, e251_18, e251_21, e251_22, e251_23, e251_24, e251_28, e251_31, e251_32, e251_33, e251_35, e251_37, e251_40, e251_43, e251_44, e251_46, e251_48, e251_49, e251_52, e251_53, e251_56, e251_59, e251_61, e251_62, e251_63, e251_64, e251_65, e251_66, e251_67, e251_68, e251_70, e251_71, e251_72, e251_73, e251_74, e251_75, e251_76, e251_79, e251_82, e251_84, e251_85, e251_86, e251_87, e251_88, e251_91, e251_92, e251_95, e251_96, e251_98, e251_100, e251_103, e251_105, e251_108, e251_109, e251_110, e251_113, e251_117, e251_117i, e251_118, e251_121, e251_122, e251_123, e251_126, e251_127, e251_128, e251_129, e251_132, e251_133, e251_134, e251_137, e251_138, e251_139, e251_140, e251_143, e251_144, e251_145, e251_146, e251_147, e251_148, e251_151, e251_152, e251_153, e251_154, e251_157, e251_160, e251_161, am_bd_some, Option.toList_some, Option.toList_none, List.cons_append, List.nil_append, am_w8_0, am_w8_1, am_w8_2, am_w8_3, am_w8_4, eq_self, or_true, true_or, am_kd_sI, am_kd_sL, am_kd_sR, am_tc_sI, am_tc_sL, am_tc_sR, am_len_sI, am_len_sL, am_len_sR, am_rfs, if_true, if_false, am_rdL_sI, am_rR_sL, am_rt_cq, am_kd_cq, am_tc_cq, am_len_cq, am_rd_sL, am_rd_sR, am_rdL_sR, lt]
  | succ r ih =>
    intro w z6 hr hw
    have e : q_dn (r + 1) = nI r := rfl
    have lt : ¬ nI r < 0 := nI_pos (by omega)
    have ed : nI r + -1 = q_dn r := by
      unfold q_dn
      by_cases c : r = 0
      · rw [c, if_pos rfl]; decide
      · rw [if_neg c]; exact q_m1n r c
    have dm := den_mayDrive h i k bk m c r b hc (by omega) hb
    have qf : q_first (B_cd k (B_b k - (b + 1)) b (q_tq c)) (5 - r) r = if B_cd k (B_b k - (b + 1)) b (q_tq c) r = true then some r else q_first (B_cd k (B_b k - (b + 1)) b (q_tq c)) (5 - (r + 1)) (r + 1) := by
      rw [show 5 - r = (5 - (r + 1)) + 1 by omega, q_first]
    rw [e, e251_26]
    cases hm : B_mayB k (q_tq c) b r with
    | false =>
      rw [hm] at dm
      have y : q_bi false = 0 := rfl
      have hcd : B_cd k (B_b k - (b + 1)) b (q_tq c) r = false := by unfold B_cd; rw [hm, Bool.false_and]
      obtain ⟨z', s2⟩ := ih w (some (.int 0)) (by omega) (by rw [qf, hcd, if_neg (by decide)]; exact hw)
      refine ⟨z', ?_⟩
      simp only [e251_0, e251_1, e251_4, e251_5, e251_6, e251_7, e251_8, e251_9, e251_12, e251_13, e251_15, e251_17, e251_18, e251_21, e251_22, e251_23, e251_24, e251_28, e251_31, e251_32, e251_33, e251_35, e251_37, e251_40, e251_43, e251_44, e251_46, e251_48, e251_49, e251_52, e251_53, e251_56, e251_59, e251_61, e251_62, e251_63, e251_64, e251_65, e251_66, e251_67, e251_68, e251_70, e251_71, e251_72, e251_73, e251_74, e251_75, e251_76, e251_79, e251_82, e251_84, e251_85, e251_86, e251_87, e251_88, e251_91, e251_92, e251_95, e251_96, e251_98, e251_100, e251_103, e251_105, e251_108, e251_109, e251_110, e251_113, e251_117, e251_117i, e251_118, e251_121, e251_122, e251_123, e251_126, e251_127, e251_128, e251_129, e251_132, e251_133, e251_134, e251_137, e251_138, e251_139, e251_140, e251_143, e251_144, e251_145, e251_146, e251_147, e251_148, e251_151, e251_152, e251_153, e251_154, e251_157, e251_160, e251_161, am_bd_some, Option.toList_some, Option.toList_none, List.cons_append, List.nil_append, am_w8_0, am_w8_1, am_w8_2, am_w8_3, am_w8_4, eq_self, or_true, true_or, am_kd_sI, am_kd_sL, am_kd_sR, am_tc_sI, am_tc_sL, am_tc_sR, am_len_sI, am_len_sL, am_len_sR, am_rfs, if_true, if_false, am_rdL_sI, am_rR_sL, am_rt_cq, am_kd_cq, am_tc_cq, am_len_cq, am_rd_sL, am_rd_sR, am_rdL_sR, lt, okK_211 ok, dm, y, ed]
      exact s2
    | true =>
      rw [hm] at dm
      have y : ¬ q_bi true = 0 := by decide
      obtain ⟨t1, t2⟩ := q_tq_dec hc (show r < 5 by omega) (B_mayB_iff.mp hm).2.1
      have p4 : 0 < 4 ^ r := Nat.pow_pos (by decide)
      have cl : c - 4 ^ r < 1024 := Nat.lt_of_le_of_lt (Nat.sub_le _ _) hc
      have sh := q_sh4 r (by omega)
      have sb : nI (1024 * (b + 1) + c) - nI (4 ^ r) = nI (1024 * (b + 1) + (c - 4 ^ r)) := by
        rw [pk_sub (by omega)]
        congr 1
        omega
      have x : am_ix (nI (1024 * (b + 1) + (c - 4 ^ r))) 9216 = true := am_ix_nI (by omega) (by decide)
      have z : (nI (1024 * (b + 1) + (c - 4 ^ r))).toNatClampNeg = 1024 * (b + 1) + (c - 4 ^ r) := nI_clamp (by omega)
      have rv := tab (b + 1) (Nat.zero_le _) (by omega) (c - 4 ^ r) cl
      have ev : B_V k (B_b k - (b + 1)) (b + 1) (q_tq (c - 4 ^ r)) = B_V k (B_b k - (b + 1)) (b + 1) (B_dec (q_tq c) r) := B_V_cg k _ _ _ _ (fun e he => t2 e (by have := bk.1; omega))
      rw [ev] at rv
      have vl := B_V_le bk (b + 1) (by omega) (B_dec (q_tq c) r)
      have ceq : nI (B_worth k b + B_V k (B_b k - (b + 1)) (b + 1) (B_dec (q_tq c) r)) = nI (B_V k (B_b k - b) b (q_tq c)) ↔ B_worth k b + B_V k (B_b k - (b + 1)) (b + 1) (B_dec (q_tq c) r) = B_V k (B_b k - b) b (q_tq c) := nI_eq (by omega) (by omega)
      by_cases ce : B_worth k b + B_V k (B_b k - (b + 1)) (b + 1) (B_dec (q_tq c) r) = B_V k (B_b k - b) b (q_tq c)
      · have ce' := eq_true (ceq.mpr ce)
        have hcd : B_cd k (B_b k - (b + 1)) b (q_tq c) r = true := by
          unfold B_cd
          rw [hm, Bool.true_and, eb]
          exact decide_eq_true ce
        obtain ⟨z', s2⟩ := ih r (some (.int 1)) (by omega) (by rw [qf, hcd, if_pos rfl]; rfl)
        have y1 : ¬ (1 : Int32) = 0 := by decide
        refine ⟨z', ?_⟩
        simp only [e251_0, e251_1, e251_4, e251_5, e251_6, e251_7, e251_8, e251_9, e251_12, e251_13, e251_15, e251_17, e251_18, e251_21, e251_22, e251_23, e251_24, e251_28, e251_31, e251_32, e251_33, e251_35, e251_37, e251_40, e251_43, e251_44, e251_46, e251_48, e251_49, e251_52, e251_53, e251_56, e251_59, e251_61, e251_62, e251_63, e251_64, e251_65, e251_66, e251_67, e251_68, e251_70, e251_71, e251_72, e251_73, e251_74, e251_75, e251_76, e251_79, e251_82, e251_84, e251_85, e251_86, e251_87, e251_88, e251_91, e251_92, e251_95, e251_96, e251_98, e251_100, e251_103, e251_105, e251_108, e251_109, e251_110, e251_113, e251_117, e251_117i, e251_118, e251_121, e251_122, e251_123, e251_126, e251_127, e251_128, e251_129, e251_132, e251_133, e251_134, e251_137, e251_138, e251_139, e251_140, e251_143, e251_144, e251_145, e251_146, e251_147, e251_148, e251_151, e251_152, e251_153, e251_154, e251_157, e251_160, e251_161, am_bd_some, Option.toList_some, Option.toList_none, List.cons_append, List.nil_append, am_w8_0, am_w8_1, am_w8_2, am_w8_3, am_w8_4, eq_self, or_true, true_or, am_kd_sI, am_kd_sL, am_kd_sR, am_tc_sI, am_tc_sL, am_tc_sR, am_len_sI, am_len_sL, am_len_sR, am_rfs, if_true, if_false, am_rdL_sI, am_rR_sL, am_rt_cq, am_kd_cq, am_tc_cq, am_len_cq, am_rd_sL, am_rd_sR, am_rdL_sR, lt, okK_211 ok, okR_211_46 ok, okT_231 ok, okL_231 ok, dm, y, fw, nI_1, m0, m1, nI_add, sh, sb, x, z, rv, x0, z0, r0, ce', not_true, y1, ed]
        exact s2
      · have ce' : ¬ nI (B_worth k b + B_V k (B_b k - (b + 1)) (b + 1) (B_dec (q_tq c) r)) = nI (B_V k (B_b k - b) b (q_tq c)) := fun w => ce (ceq.mp w)
        have hcd : B_cd k (B_b k - (b + 1)) b (q_tq c) r = false := by
          unfold B_cd
          rw [hm, Bool.true_and, eb]
          exact decide_eq_false ce
        obtain ⟨z', s2⟩ := ih w (some (.int 0)) (by omega) (by rw [qf, hcd, if_neg (by decide)]; exact hw)
        refine ⟨z', ?_⟩
        simp only [e251_0, e251_1, e251_4, e251_5, e251_6, e251_7, e251_8, e251_9, e251_12, e251_13, e251_15, e251_17, e251_18, e251_21, e251_22, e251_23, e251_24, e251_28, e251_31, e251_32, e251_33, e251_35, e251_37, e251_40, e251_43, e251_44, e251_46, e251_48, e251_49, e251_52, e251_53, e251_56, e251_59, e251_61, e251_62, e251_63, e251_64, e251_65, e251_66, e251_67, e251_68, e251_70, e251_71, e251_72, e251_73, e251_74, e251_75, e251_76, e251_79, e251_82, e251_84, e251_85, e251_86, e251_87, e251_88, e251_91, e251_92, e251_95, e251_96, e251_98, e251_100, e251_103, e251_105, e251_108, e251_109, e251_110, e251_113, e251_117, e251_117i, e251_118, e251_121, e251_122, e251_123, e251_126, e251_127, e251_128, e251_129, e251_132, e251_133, e251_134, e251_137, e251_138, e251_139, e251_140, e251_143, e251_144, e251_145, e251_146, e251_147, e251_148, e251_151, e251_152, e251_153, e251_154, e251_157, e251_160, e251_161, am_bd_some, Option.toList_some, Option.toList_none, List.cons_append, List.nil_append, am_w8_0, am_w8_1, am_w8_2, am_w8_3, am_w8_4, eq_self, or_true, true_or, am_kd_sI, am_kd_sL, am_kd_sR, am_tc_sI, am_tc_sL, am_tc_sR, am_len_sI, am_len_sL, am_len_sR, am_rfs, if_true, if_false, am_rdL_sI, am_rR_sL, am_rt_cq, am_kd_cq, am_tc_cq, am_len_cq, am_rd_sL, am_rd_sR, am_rdL_sR, lt, okK_211 ok, okR_211_46 ok, okT_231 ok, okL_231 ok, dm, y, fw, nI_1, m0, m1, nI_add, sh, sb, x, z, rv, x0, z0, r0, ce', not_false_eq_true, ed]
        exact s2
theorem q_por5 : ∀ m, m < 32 → ∀ b, b < 5 → (nI m ||| ((1 : Int32) <<< (nI b &&& 31)) = nI (m ||| 2 ^ b)) := by decide +kernel
def q_wv (k : q_Bk) (t0 : Nat → Nat) (b : Nat) : Int32 := if b = 0 then -1 else nI (B_W k t0 (b - 1))
theorem q_dv_o (i : Nat) (k : q_Bk) (bk : B_ok k) (t0 : Nat → Nat) (M : Nat) (hM : M ≤ B_b k) (bg : Int32) (hbg : ∀ b, b ≤ 8 → (bg < nI b ↔ M ≤ b)) : ∀ (r b c : Nat) (h : am_H) (z5 z6 : Option Value), b + r = M → c < 1024 → (∀ d, d < B_d k → q_tq c d = B_T k t0 b d) → q_mQ h i k → q_tab h k 0 → h.1 211 47 = nI (B_Dr k t0 b) → ∃ h' : am_H, q_drw h h' ∧ h'.1 211 47 = nI (B_Dr k t0 M) ∧ am_ev 251 15 [some (.ref 211), some (.int bg), some (.int (nI c)), some (.int (q_wv k t0 b)), some (.int (nI b)), z5, z6] [] h = some (some (.int (q_wv k t0 M)), h') := by
  have b8 := bk.2.1
  intro r
  induction r with
  | zero =>
    intro b c h z5 z6 hb hc ag m tab dr
    obtain rfl : b = M := by omega
    have h1 : bg < nI b := (hbg b (by omega)).mpr (Nat.le_refl _)
    refine ⟨h, q_drw.rf h, dr, ?_⟩
    rw [e251_15]
    simp only [e251_0, e251_1, e251_4, e251_5, e251_6, e251_7, e251_8, e251_9, e251_12, e251_13, e251_17, e251_18, e251_21, e251_22, e251_23, e251_24, e251_26, e251_28, e251_31, e251_32, e251_33, e251_35, e251_37, e251_40, e251_43, e251_44, e251_46, e251_48, e251_49, e251_52, e251_53, e251_56, e251_59, e251_61, e251_62, e251_63, e251_64, e251_65, e251_66, e251_67, e251_68, e251_70, e251_71, e251_72, e251_73, e251_74, e251_75, e251_76, e251_79, e251_82, e251_84, e251_85, e251_86, e251_87, e251_88, e251_91, e251_92, e251_95, e251_96, e251_98, e251_100, e251_103, e251_105, e251_108, e251_109, e251_110, e251_113, e251_116, e251_117, e251_117i, e251_118, e251_121, e251_122, e251_123, e251_126, e251_127, e251_128, e251_129, e251_132, e251_133, e251_134, e251_137, e251_138, e251_139, e251_140, e251_143, e251_144, e251_145, e251_146, e251_147, e251_148, e251_151, e251_152, e251_153, e251_154, e251_157, e251_160, e251_161, am_bd_some, Option.toList_some, Option.toList_none, List.cons_append, List.nil_append, am_w8_0, am_w8_1, am_w8_2, am_w8_3, am_w8_4, eq_self, or_true, true_or, am_kd_sI, am_kd_sL, am_kd_sR, am_tc_sI, am_tc_sL, am_tc_sR, am_len_sI, am_len_sL, am_len_sR, am_rfs, if_true, if_false, am_rdL_sI, am_rR_sL, am_rt_cq, am_kd_cq, am_tc_cq, am_len_cq, am_rd_sL, am_rd_sR, am_rdL_sR, h1]
  | succ r ih =>
    intro b c h z5 z6 hb hc ag m tab dr
    have ok := m.1
    have h1 : ¬ bg < nI b := fun w => by have := (hbg b (by omega)).mp w; omega
    obtain ⟨z6', s1⟩ := q_dv_i i k bk h m tab bg b (by omega) c hc 5 5 z6 (Nat.le_refl _) rfl
    have e4 : q_dn 5 = 4 := rfl
    have ew : B_who k (B_b k - (b + 1)) b (q_tq c) = B_W k t0 b := B_who_cg ag _ _
    rw [e4, ew, show nI 5 = 5 from rfl] at s1
    have wl : B_W k t0 b ≤ 5 := B_who_le k _ b _
    have dl := B_Dr_lt k t0 b
    have c5 : (5 : Int32) ≤ nI (B_W k t0 b) ↔ 5 ≤ B_W k t0 b := nI_leI (a := 5) (by decide) (by omega)
    let hd : am_H := am_sI h 211 47 (nI (B_Dr k t0 (b + 1)))
    have fd : q_drw h hd := ⟨rfl, fun a j p => by
      show (am_sI h 211 47 (nI (B_Dr k t0 (b + 1)))).1 a j = _
      rw [am_rd_sI, if_neg (fun w => p w.1 w.2)]⟩
    have wv : q_wv k t0 (b + 1) = nI (B_W k t0 b) := rfl
    rw [e251_15]
    simp only [e251_0, e251_1, e251_4, e251_5, e251_6, e251_7, e251_8, e251_9, e251_12, e251_13, e251_17, e251_18, e251_21, e251_22, e251_23, e251_24, e251_28, e251_31, e251_32, e251_33, e251_35, e251_37, e251_40, e251_43, e251_44, e251_46, e251_48, e251_49, e251_52, e251_53, e251_56, e251_59, e251_61, e251_62, e251_63, e251_64, e251_65, e251_66, e251_67, e251_68, e251_70, e251_71, e251_72, e251_73, e251_74, e251_75, e251_76, e251_79, e251_82, e251_84, e251_85, e251_86, e251_87, e251_88, e251_91, e251_92, e251_95, e251_96, e251_98, e251_100, e251_103, e251_105, e251_108, e251_109, e251_110, e251_113, e251_116, e251_117, e251_117i, e251_118, e251_121, e251_122, e251_123, e251_126, e251_127, e251_128, e251_129, e251_132, e251_133, e251_134, e251_137, e251_138, e251_139, e251_140, e251_143, e251_144, e251_145, e251_146, e251_147, e251_148, e251_151, e251_152, e251_153, e251_154, e251_157, e251_160, e251_161, am_bd_some, Option.toList_some, Option.toList_none, List.cons_append, List.nil_append, am_w8_0, am_w8_1, am_w8_2, am_w8_3, am_w8_4, eq_self, or_true, true_or, am_kd_sI, am_kd_sL, am_kd_sR, am_tc_sI, am_tc_sL, am_tc_sR, am_len_sI, am_len_sL, am_len_sR, am_rfs, if_true, if_false, am_rdL_sI, am_rR_sL, am_rt_cq, am_kd_cq, am_tc_cq, am_len_cq, am_rd_sL, am_rd_sR, am_rdL_sR, h1]
    rw [s1]
    by_cases cw : B_W k t0 b < 5
    · have cw' : ¬ (5 : Int32) ≤ nI (B_W k t0 b) := fun w => by have := c5.mp w; omega
      have cd : B_cd k (B_b k - (b + 1)) b (B_T k t0 b) (B_W k t0 b) = true := B_who_some cw
      unfold B_cd at cd
      rw [Bool.and_eq_true] at cd
      obtain ⟨q1, q2, q3⟩ := B_mayB_iff.mp cd.1
      rw [← ag _ q1] at q2
      obtain ⟨t1, t2⟩ := q_tq_dec hc cw q2
      have cl : c - 4 ^ B_W k t0 b < 1024 := Nat.lt_of_le_of_lt (Nat.sub_le _ _) hc
      have sh := q_sh4 (B_W k t0 b) cw
      have po := q_por5 _ dl _ cw
      have eD : B_Dr k t0 b ||| 2 ^ B_W k t0 b = B_Dr k t0 (b + 1) := by rw [B_Dr, if_pos cw]
      rw [eD] at po
      have sb : nI c - nI (4 ^ B_W k t0 b) = nI (c - 4 ^ B_W k t0 b) := pk_sub t1
      obtain ⟨h2, f2, d2, s2⟩ := ih (b + 1) (c - 4 ^ B_W k t0 b) hd (some (.int (-1))) z6' (by omega) cl (fun d hd' => by
        rw [t2 d (by have := bk.1; omega)]
        have eT : B_T k t0 (b + 1) = B_dec (B_T k t0 b) (B_W k t0 b) := by
          show B_nt k (B_b k - (b + 1)) b (B_T k t0 b) = _
          unfold B_nt
          exact if_pos cw
        rw [eT]
        exact B_dec_cg ag q1 d hd') (fd.mbk bk m) (fd.tab tab) rfl
      rw [wv] at s2
      refine ⟨h2, fd.tr f2, d2, ?_⟩
      simp only [e251_0, e251_1, e251_4, e251_5, e251_6, e251_7, e251_8, e251_9, e251_12, e251_13, e251_17, e251_18, e251_21, e251_22, e251_23, e251_24, e251_28, e251_31, e251_32, e251_33, e251_35, e251_37, e251_40, e251_43, e251_44, e251_46, e251_48, e251_49, e251_52, e251_53, e251_56, e251_59, e251_61, e251_62, e251_63, e251_64, e251_65, e251_66, e251_67, e251_68, e251_70, e251_71, e251_72, e251_73, e251_74, e251_75, e251_76, e251_79, e251_82, e251_84, e251_85, e251_86, e251_87, e251_88, e251_91, e251_92, e251_95, e251_96, e251_98, e251_100, e251_103, e251_105, e251_108, e251_109, e251_110, e251_113, e251_116, e251_117, e251_117i, e251_118, e251_121, e251_122, e251_123, e251_126, e251_127, e251_128, e251_129, e251_132, e251_133, e251_134, e251_137, e251_138, e251_139, e251_140, e251_143, e251_144, e251_145, e251_146, e251_147, e251_148, e251_151, e251_152, e251_153, e251_154, e251_157, e251_160, e251_161, am_bd_some, Option.toList_some, Option.toList_none, List.cons_append, List.nil_append, am_w8_0, am_w8_1, am_w8_2, am_w8_3, am_w8_4, eq_self, or_true, true_or, am_kd_sI, am_kd_sL, am_kd_sR, am_tc_sI, am_tc_sL, am_tc_sR, am_len_sI, am_len_sL, am_len_sR, am_rfs, if_true, if_false, am_rdL_sI, am_rR_sL, am_rt_cq, am_kd_cq, am_tc_cq, am_len_cq, am_rd_sL, am_rd_sR, am_rdL_sR, okK_211 ok, dr, cw', po, sh, sb, nI_1]
      exact s2
    · have w5 : B_W k t0 b = 5 := by omega
      have cw' : (5 : Int32) ≤ nI (B_W k t0 b) := c5.mpr (by omega)
      have eD : B_Dr k t0 (b + 1) = B_Dr k t0 b := by rw [B_Dr, if_neg cw, Nat.or_zero]
      obtain ⟨h2, f2, d2, s2⟩ := ih (b + 1) c hd (some (.int (-1))) z6' (by omega) hc (fun d hd' => by
        have eT : B_T k t0 (b + 1) = B_T k t0 b := by
          show B_nt k (B_b k - (b + 1)) b (B_T k t0 b) = _
          unfold B_nt
          exact if_neg cw
        rw [eT]
        exact ag d hd') (fd.mbk bk m) (fd.tab tab) rfl
      rw [wv] at s2
      have s2' := s2
      refine ⟨h2, fd.tr f2, d2, ?_⟩
      have ehd : hd = am_sI h 211 47 (nI (B_Dr k t0 b)) := by
        show am_sI h 211 47 (nI (B_Dr k t0 (b + 1))) = _
        rw [eD]
      rw [ehd] at s2'
      have sz : nI c - 0 = nI c := Int32.sub_zero _
      simp only [e251_0, e251_1, e251_4, e251_5, e251_6, e251_7, e251_8, e251_9, e251_12, e251_13, e251_17, e251_18, e251_21, e251_22, e251_23, e251_24, e251_28, e251_31, e251_32, e251_33, e251_35, e251_37, e251_40, e251_43, e251_44, e251_46, e251_48, e251_49, e251_52, e251_53, e251_56, e251_59, e251_61, e251_62, e251_63, e251_64, e251_65, e251_66, e251_67, e251_68, e251_70, e251_71, e251_72, e251_73, e251_74, e251_75, e251_76, e251_79, e251_82, e251_84, e251_85, e251_86, e251_87, e251_88, e251_91, e251_92, e251_95, e251_96, e251_98, e251_100, e251_103, e251_105, e251_108, e251_109, e251_110, e251_113, e251_116, e251_117, e251_117i, e251_118, e251_121, e251_122, e251_123, e251_126, e251_127, e251_128, e251_129, e251_132, e251_133, e251_134, e251_137, e251_138, e251_139, e251_140, e251_143, e251_144, e251_145, e251_146, e251_147, e251_148, e251_151, e251_152, e251_153, e251_154, e251_157, e251_160, e251_161, am_bd_some, Option.toList_some, Option.toList_none, List.cons_append, List.nil_append, am_w8_0, am_w8_1, am_w8_2, am_w8_3, am_w8_4, eq_self, or_true, true_or, am_kd_sI, am_kd_sL, am_kd_sR, am_tc_sI, am_tc_sL, am_tc_sR, am_len_sI, am_len_sL, am_len_sR, am_rfs, if_true, if_false, am_rdL_sI, am_rR_sL, am_rt_cq, am_kd_cq, am_tc_cq, am_len_cq, am_rd_sL, am_rd_sR, am_rdL_sR, okK_211 ok, dr, cw', q_or0, sz, nI_1]
      exact s2'
theorem den_driverOf (i : Nat) (k : q_Bk) (bk : B_ok k) (h : am_H) (m : q_mQ h i k) (tab : q_tab h k 0) (M : Nat) (hM : M ≤ B_b k) (bg : Int32) (hbg : ∀ b, b ≤ 8 → (bg < nI b ↔ M ≤ b)) : ∃ h' : am_H, q_drw h h' ∧ h'.1 211 47 = nI (B_Dr k (B_turns k) M) ∧ am_den 251 [.ref 211, .int bg] h = some (some (.int (q_wv k (B_turns k) M)), h') := by
  have ok := m.1
  have da := den_allTurns h i k bk m
  obtain ⟨c1, c2⟩ := q_cod_1024 bk
  have f0 : q_drw h (am_sI h 211 47 0) := ⟨rfl, fun a j p => by rw [am_rd_sI, if_neg (fun w => p w.1 w.2)]⟩
  obtain ⟨h1, f1, d1, s1⟩ := q_dv_o i k bk (B_turns k) M hM bg hbg M 0 _ (am_sI h 211 47 0) none none (by omega) c1 c2 (f0.mbk bk m) (f0.tab tab) rfl
  have e0 : q_wv k (B_turns k) 0 = -1 := rfl
  rw [e0, nI_0] at s1
  refine ⟨h1, f0.tr f1, d1, ?_⟩
  show am_ev 251 0 [some (.ref 211), some (.int bg), none, none, none, none, none] [] h = _
  simp only [e251_0, e251_1, e251_4, e251_5, e251_6, e251_7, e251_8, e251_9, e251_12, e251_13, e251_17, e251_18, e251_21, e251_22, e251_23, e251_24, e251_26, e251_28, e251_31, e251_32, e251_33, e251_35, e251_37, e251_40, e251_43, e251_44, e251_46, e251_48, e251_49, e251_52, e251_53, e251_56, e251_59, e251_61, e251_62, e251_63, e251_64, e251_65, e251_66, e251_67, e251_68, e251_70, e251_71, e251_72, e251_73, e251_74, e251_75, e251_76, e251_79, e251_82, e251_84, e251_85, e251_86, e251_87, e251_88, e251_91, e251_92, e251_95, e251_96, e251_98, e251_100, e251_103, e251_105, e251_108, e251_109, e251_110, e251_113, e251_116, e251_117, e251_117i, e251_118, e251_121, e251_122, e251_123, e251_126, e251_127, e251_128, e251_129, e251_132, e251_133, e251_134, e251_137, e251_138, e251_139, e251_140, e251_143, e251_144, e251_145, e251_146, e251_147, e251_148, e251_151, e251_152, e251_153, e251_154, e251_157, e251_160, e251_161, am_bd_some, Option.toList_some, Option.toList_none, List.cons_append, List.nil_append, am_w8_0, am_w8_1, am_w8_2, am_w8_3, am_w8_4, eq_self, or_true, true_or, am_kd_sI, am_kd_sL, am_kd_sR, am_tc_sI, am_tc_sL, am_tc_sR, am_len_sI, am_len_sL, am_len_sR, am_rfs, if_true, if_false, am_rdL_sI, am_rR_sL, am_rt_cq, am_kd_cq, am_tc_cq, am_len_cq, am_rd_sL, am_rd_sR, am_rdL_sR, okK_211 ok, da]
  exact s1
theorem q_mQ_of {A : q_All} {h : am_H} (H : q_Rel A h) (i : Nat) (hi : i < A.2.1 2) : B_ok (A.2.2.2.2.1 i) ∧ q_mQ (am_sI h 211 45 (nI i)) i (A.2.2.2.2.1 i) ∧ am_den 244 [.ref 211, .int (nI i)] h = some (some (.int 1), am_sI h 211 45 (nI i)) := by
  obtain ⟨c1, c2, c3⟩ := H.cnt 2 (by decide)
  obtain ⟨b1, -, b3⟩ := H.bk i hi
  have dh := den_hasBook h H.1 (A.2.1 2) c1 c3 (nI i)
  rw [if_pos ⟨nI_pos' (by omega), nI_lt hi (by omega)⟩] at dh
  exact ⟨b1, ⟨H.1, by omega, rfl, b3⟩, dh⟩
theorem den_mnotary {A : q_All} {h : am_H} (H : q_Rel A h) (a j : Int32) : ∃ h' : am_H, q_wk h h' ∧ am_den 246 [.ref 211, .int a, .int j] h = some (some (.int (q_nyA A a j)), h') := by
  have ok := H.1
  have h0 := H.2.1
  obtain ⟨c1, c2, c3⟩ := H.cnt 2 (by decide)
  have y : (1 : Int32) = 0 ↔ False := by decide
  show ∃ h' : am_H, q_wk h h' ∧ am_ev 246 0 [some (.ref 211), some (.int a), some (.int j)] [] h = _
  unfold q_nyA
  by_cases ca : 0 ≤ a ∧ a < nI (A.2.1 2)
  · rw [if_pos ca]
    obtain ⟨i, hi, rfl⟩ := q_in2 c1 ca
    obtain ⟨bk, m, s0⟩ := q_mQ_of H i hi
    have b8 := bk.2.1
    have okd := m.1
    have wd : q_wk h (am_sI h 211 45 (nI i)) := q_wk1 ok 45 (by decide) (nI i)
    have z : (nI i).toNatClampNeg = i := nI_clamp (by omega)
    have fb := m.b
    rw [z]
    unfold B_nA
    have em : nI (B_b (A.2.2.2.2.1 i)) - 1 = q_dn (B_b (A.2.2.2.2.1 i)) := by
      unfold q_dn
      by_cases c : B_b (A.2.2.2.2.1 i) = 0
      · rw [c, if_pos rfl]; decide
      · rw [if_neg c]; exact pk_sub (b := 1) (by omega)
    by_cases j1 : j = -1
    · have cr : (-1 : Int32) ≤ j ∧ j ≤ nI (B_b (A.2.2.2.2.1 i)) - 1 := by
        rw [j1, em]
        refine ⟨Int32.le_refl _, ?_⟩
        unfold q_dn
        split
        · exact Int32.le_refl _
        · refine Int32.le_iff_toInt_le.mpr ?_
          rw [nI_toInt (by omega)]
          have : (-1 : Int32).toInt = -1 := by decide
          omega
      have crt := eq_true cr
      rw [if_pos j1]
      obtain ⟨h1, f1, t1, s1⟩ := den_findWorths i _ bk _ m
      have m1 := f1.mbk bk m
      have ok1 := m1.1
      have da := den_allTurns h1 i _ bk m1
      obtain ⟨q1, q2⟩ := q_cod_1024 bk
      have x : am_ix (nI (q_cod (B_turns (A.2.2.2.2.1 i)) (B_d (A.2.2.2.2.1 i)))) 9216 = true := am_ix_nI (by omega) (by decide)
      have zc : (nI (q_cod (B_turns (A.2.2.2.2.1 i)) (B_d (A.2.2.2.2.1 i)))).toNatClampNeg = q_cod (B_turns (A.2.2.2.2.1 i)) (B_d (A.2.2.2.2.1 i)) := nI_clamp (by omega)
      have rv := t1 0 (Nat.le_refl _) (Nat.zero_le _) _ q1
      rw [Nat.mul_zero, Nat.zero_add, Nat.sub_zero, B_V_cg _ _ _ _ _ q2] at rv
      have j1' := eq_true j1
      refine ⟨h1, wd.tr (f1.wk okd), ?_⟩
      simp only [e246_0, e246_1, e246_2, e246_5, e246_6, e246_7, e246_10, e246_13, e246_14, e246_15, e246_16, e246_17, e246_20, e246_21, e246_22, e246_25, e246_28, e246_29, e246_30, e246_31, e246_34, e246_35, e246_36, e246_39, e246_40, e246_43, e246_44, e246_47, e246_48, e246_51, e246_52, e246_53, e246_56, am_bd_some, Option.toList_some, Option.toList_none, List.cons_append, List.nil_append, am_w8_0, am_w8_1, am_w8_2, am_w8_3, am_w8_4, eq_self, or_true, true_or, am_kd_sI, am_kd_sL, am_kd_sR, am_tc_sI, am_tc_sL, am_tc_sR, am_len_sI, am_len_sL, am_len_sR, am_rfs, if_true, if_false, am_rdL_sI, am_rR_sL, am_rt_cq, am_kd_cq, am_tc_cq, am_len_cq, am_rd_sL, am_rd_sR, am_rdL_sR, okK_211 ok, am_sI_id h0, s0, y, okK_211 okd, fb, den_in, crt, not_false_eq_true, s1, j1', not_true, okK_211 ok1, okR_211_46 ok1, okT_231 ok1, okL_231 ok1, da, x, zc, rv]
    · rw [if_neg j1]
      by_cases j2 : 0 ≤ j ∧ j < nI (B_b (A.2.2.2.2.1 i))
      · rw [if_pos j2]
        have j2m := (q_m1 (c := B_b (A.2.2.2.2.1 i)) (by omega) j).mpr j2
        have cr : (-1 : Int32) ≤ j ∧ j ≤ nI (B_b (A.2.2.2.2.1 i)) - 1 := ⟨Int32.le_trans (by decide) j2.1, j2m.2⟩
        have crt := eq_true cr
        obtain ⟨p, hp, rfl⟩ := nI_of (Int32.not_lt.mpr j2.1)
        have hp2 := (nI_ltI hp (by omega)).mp j2.2
        have zp : (nI p).toNatClampNeg = p := nI_clamp hp
        obtain ⟨h1, f1, t1, s1⟩ := den_findWorths i _ bk _ m
        have m1 := f1.mbk bk m
        have ok1 := m1.1
        obtain ⟨h2, f2, -, s2⟩ := den_driverOf i _ bk h1 m1 t1 (p + 1) (by omega) (nI p) (fun b hb => by rw [nI_ltI (by omega) (by omega)]; omega)
        have e2 : q_wv (A.2.2.2.2.1 i) (B_turns (A.2.2.2.2.1 i)) (p + 1) = nI (B_W (A.2.2.2.2.1 i) (B_turns (A.2.2.2.2.1 i)) p) := rfl
        rw [e2] at s2
        rw [zp]
        refine ⟨h2, (wd.tr (f1.wk okd)).tr (f2.wk ok1), ?_⟩
        simp only [e246_0, e246_1, e246_2, e246_5, e246_6, e246_7, e246_10, e246_13, e246_14, e246_15, e246_16, e246_17, e246_20, e246_21, e246_22, e246_25, e246_28, e246_29, e246_30, e246_31, e246_34, e246_35, e246_36, e246_39, e246_40, e246_43, e246_44, e246_47, e246_48, e246_51, e246_52, e246_53, e246_56, am_bd_some, Option.toList_some, Option.toList_none, List.cons_append, List.nil_append, am_w8_0, am_w8_1, am_w8_2, am_w8_3, am_w8_4, eq_self, or_true, true_or, am_kd_sI, am_kd_sL, am_kd_sR, am_tc_sI, am_tc_sL, am_tc_sR, am_len_sI, am_len_sL, am_len_sR, am_rfs, if_true, if_false, am_rdL_sI, am_rR_sL, am_rt_cq, am_kd_cq, am_tc_cq, am_len_cq, am_rd_sL, am_rd_sR, am_rdL_sR, okK_211 ok, am_sI_id h0, s0, y, okK_211 okd, fb, den_in, crt, not_false_eq_true, s1, j1, okK_211 ok1, s2]
      · rw [if_neg j2]
        have cr : ¬ ((-1 : Int32) ≤ j ∧ j ≤ nI (B_b (A.2.2.2.2.1 i)) - 1) := fun w => by
          have a1 := Int32.le_iff_toInt_le.mp w.1
          have b1 : (-1 : Int32).toInt = -1 := by decide
          have b0 : (0 : Int32).toInt = 0 := by decide
          have n1 : j.toInt ≠ -1 := fun q => j1 (Int32.toInt_inj.mp (by rw [q, b1]))
          have p0 : 0 ≤ j := Int32.le_iff_toInt_le.mpr (by rw [b0]; omega)
          exact j2 ((q_m1 (c := B_b (A.2.2.2.2.1 i)) (by omega) j).mp ⟨p0, w.2⟩)
        refine ⟨am_sI h 211 45 (nI i), wd, ?_⟩
        simp only [e246_0, e246_1, e246_2, e246_5, e246_6, e246_7, e246_10, e246_13, e246_14, e246_15, e246_16, e246_17, e246_20, e246_21, e246_22, e246_25, e246_28, e246_29, e246_30, e246_31, e246_34, e246_35, e246_36, e246_39, e246_40, e246_43, e246_44, e246_47, e246_48, e246_51, e246_52, e246_53, e246_56, am_bd_some, Option.toList_some, Option.toList_none, List.cons_append, List.nil_append, am_w8_0, am_w8_1, am_w8_2, am_w8_3, am_w8_4, eq_self, or_true, true_or, am_kd_sI, am_kd_sL, am_kd_sR, am_tc_sI, am_tc_sL, am_tc_sR, am_len_sI, am_len_sL, am_len_sR, am_rfs, if_true, if_false, am_rdL_sI, am_rR_sL, am_rt_cq, am_kd_cq, am_tc_cq, am_len_cq, am_rd_sL, am_rd_sR, am_rdL_sR, okK_211 ok, am_sI_id h0, s0, y, okK_211 okd, fb, den_in, cr, not_true]
  · rw [if_neg ca]
    have dh := den_hasBook h ok (A.2.1 2) c1 c3 a
    rw [if_neg ca] at dh
    refine ⟨am_sI h 211 45 a, q_wk1 ok 45 (by decide) a, ?_⟩
    simp only [e246_0, e246_1, e246_2, e246_5, e246_6, e246_7, e246_10, e246_13, e246_14, e246_15, e246_16, e246_17, e246_20, e246_21, e246_22, e246_25, e246_28, e246_29, e246_30, e246_31, e246_34, e246_35, e246_36, e246_39, e246_40, e246_43, e246_44, e246_47, e246_48, e246_51, e246_52, e246_53, e246_56, am_bd_some, Option.toList_some, Option.toList_none, List.cons_append, List.nil_append, am_w8_0, am_w8_1, am_w8_2, am_w8_3, am_w8_4, eq_self, or_true, true_or, am_kd_sI, am_kd_sL, am_kd_sR, am_tc_sI, am_tc_sL, am_tc_sR, am_len_sI, am_len_sL, am_len_sR, am_rfs, if_true, if_false, am_rdL_sI, am_rR_sL, am_rt_cq, am_kd_cq, am_tc_cq, am_len_cq, am_rd_sL, am_rd_sR, am_rdL_sR, okK_211 ok, am_sI_id h0, dh]
theorem ly_14 : ly_p14 := fun a j => pr_wk (fun A => q_nyA A a j) (fun A h H => den_cnotary H a j) (fun A h H => den_mnotary H a j)
def q_k6 (c d e : Nat) : Bool := decide (q_tq (c - q_tq c d * 4 ^ d) e = q_up (q_tq c) d 0 e)
theorem q_k6_a : ∀ c, c < 1024 → ∀ d, d < 5 → ∀ e, e < 5 → q_k6 c d e = true := by decide +kernel
theorem q_clr : ∀ c, c < 1024 → ∀ d, d < 5 → (nI c &&& (((3 : Int32) <<< ((2 * nI d) &&& 31)) ^^^ -1) = nI (c - q_tq c d * 4 ^ d)) := by decide +kernel
theorem den_mdear {A : q_All} {h : am_H} (H : q_Rel A h) (a d : Int32) : ∃ h' : am_H, q_wk h h' ∧ am_den 288 [.ref 211, .int a, .int d] h = some (some (.int (q_deA A a d)), h') := by
  have ok := H.1
  have h0 := H.2.1
  obtain ⟨c1, c2, c3⟩ := H.cnt 2 (by decide)
  have y : (1 : Int32) = 0 ↔ False := by decide
  show ∃ h' : am_H, q_wk h h' ∧ am_ev 288 0 [some (.ref 211), some (.int a), some (.int d)] [] h = _
  unfold q_deA
  by_cases ca : 0 ≤ a ∧ a < nI (A.2.1 2)
  · obtain ⟨i, hi, rfl⟩ := q_in2 c1 ca
    obtain ⟨bk, m, s0⟩ := q_mQ_of H i hi
    have d5 := bk.1
    have okd := m.1
    have wd : q_wk h (am_sI h 211 45 (nI i)) := q_wk1 ok 45 (by decide) (nI i)
    have z : (nI i).toNatClampNeg = i := nI_clamp (by omega)
    have fd := m.d
    have rg := q_m1 (c := B_d (A.2.2.2.2.1 i)) (by omega) d
    by_cases cd : 0 ≤ d ∧ d < nI (B_d (A.2.2.2.2.1 i))
    · have P : q_deP A (nI i) d := ⟨ca, by rw [z]; exact cd⟩
      rw [if_pos P, z]
      have crt := eq_true (rg.mpr cd)
      obtain ⟨p, hp, rfl⟩ := nI_of (Int32.not_lt.mpr cd.1)
      have hp2 := (nI_ltI hp (by omega)).mp cd.2
      have zp : (nI p).toNatClampNeg = p := nI_clamp hp
      obtain ⟨h1, f1, t1, s1⟩ := den_findWorths i _ bk _ m
      have m1 := f1.mbk bk m
      have ok1 := m1.1
      have da := den_allTurns h1 i _ bk m1
      obtain ⟨q1, q2⟩ := q_cod_1024 bk
      have x : am_ix (nI (q_cod (B_turns (A.2.2.2.2.1 i)) (B_d (A.2.2.2.2.1 i)))) 9216 = true := am_ix_nI (by omega) (by decide)
      have zc : (nI (q_cod (B_turns (A.2.2.2.2.1 i)) (B_d (A.2.2.2.2.1 i)))).toNatClampNeg = q_cod (B_turns (A.2.2.2.2.1 i)) (B_d (A.2.2.2.2.1 i)) := nI_clamp (by omega)
      have rv := t1 0 (Nat.le_refl _) (Nat.zero_le _) _ q1
      have cl := q_clr _ q1 p (by omega)
      have k6 := fun e (he : e < 5) => of_decide_eq_true (q_k6_a _ q1 p (by omega) e he)
      have l2 : q_cod (B_turns (A.2.2.2.2.1 i)) (B_d (A.2.2.2.2.1 i)) - q_tq (q_cod (B_turns (A.2.2.2.2.1 i)) (B_d (A.2.2.2.2.1 i))) p * 4 ^ p < 1024 := Nat.lt_of_le_of_lt (Nat.sub_le _ _) q1
      have rv2 := t1 0 (Nat.le_refl _) (Nat.zero_le _) _ l2
      have x2 : am_ix (nI (q_cod (B_turns (A.2.2.2.2.1 i)) (B_d (A.2.2.2.2.1 i)) - q_tq (q_cod (B_turns (A.2.2.2.2.1 i)) (B_d (A.2.2.2.2.1 i))) p * 4 ^ p)) 9216 = true := am_ix_nI (Nat.lt_of_lt_of_le l2 (by decide)) (by decide)
      have zc2 : (nI (q_cod (B_turns (A.2.2.2.2.1 i)) (B_d (A.2.2.2.2.1 i)) - q_tq (q_cod (B_turns (A.2.2.2.2.1 i)) (B_d (A.2.2.2.2.1 i))) p * 4 ^ p)).toNatClampNeg = q_cod (B_turns (A.2.2.2.2.1 i)) (B_d (A.2.2.2.2.1 i)) - q_tq (q_cod (B_turns (A.2.2.2.2.1 i)) (B_d (A.2.2.2.2.1 i))) p * 4 ^ p := nI_clamp (Nat.lt_of_lt_of_le l2 (by decide))
      rw [Nat.mul_zero, Nat.zero_add, Nat.sub_zero, B_V_cg _ _ _ _ _ q2] at rv
      rw [Nat.mul_zero, Nat.zero_add, Nat.sub_zero, B_V_cg _ _ _ _ (q_up (B_turns (A.2.2.2.2.1 i)) p 0) (fun e he => by
        rw [k6 e (by omega)]
        unfold q_up
        rw [q2 e he])] at rv2
      rw [zp]
      refine ⟨h1, wd.tr (f1.wk okd), ?_⟩
      simp only [e288_0, e288_1, e288_2, e288_5, e288_6, e288_7, e288_10, e288_13, e288_14, e288_15, e288_16, e288_17, e288_20, e288_21, e288_22, e288_25, e288_28, e288_29, e288_30, e288_31, e288_34, e288_35, e288_38, e288_39, e288_42, e288_43, e288_44, e288_47, e288_48, e288_51, e288_52, e288_53, e288_54, e288_55, e288_56, e288_57, e288_58, e288_59, e288_60, e288_61, am_bd_some, Option.toList_some, Option.toList_none, List.cons_append, List.nil_append, am_w8_0, am_w8_1, am_w8_2, am_w8_3, am_w8_4, eq_self, or_true, true_or, am_kd_sI, am_kd_sL, am_kd_sR, am_tc_sI, am_tc_sL, am_tc_sR, am_len_sI, am_len_sL, am_len_sR, am_rfs, if_true, if_false, am_rdL_sI, am_rR_sL, am_rt_cq, am_kd_cq, am_tc_cq, am_len_cq, am_rd_sL, am_rd_sR, am_rdL_sR, okK_211 ok, am_sI_id h0, s0, y, okK_211 okd, fd, den_in, crt, not_false_eq_true, s1, okK_211 ok1, okR_211_46 ok1, okT_231 ok1, okL_231 ok1, da, x, zc, rv, cl, x2, zc2, rv2]
      rfl
    · have P : ¬ q_deP A (nI i) d := fun w => cd (by have := w.2; rw [z] at this; exact this)
      rw [if_neg P]
      have cr : ¬ (0 ≤ d ∧ d ≤ nI (B_d (A.2.2.2.2.1 i)) - 1) := fun w => cd (rg.mp w)
      refine ⟨am_sI h 211 45 (nI i), wd, ?_⟩
      simp only [e288_0, e288_1, e288_2, e288_5, e288_6, e288_7, e288_10, e288_13, e288_14, e288_15, e288_16, e288_17, e288_20, e288_21, e288_22, e288_25, e288_28, e288_29, e288_30, e288_31, e288_34, e288_35, e288_38, e288_39, e288_42, e288_43, e288_44, e288_47, e288_48, e288_51, e288_52, e288_53, e288_54, e288_55, e288_56, e288_57, e288_58, e288_59, e288_60, e288_61, am_bd_some, Option.toList_some, Option.toList_none, List.cons_append, List.nil_append, am_w8_0, am_w8_1, am_w8_2, am_w8_3, am_w8_4, eq_self, or_true, true_or, am_kd_sI, am_kd_sL, am_kd_sR, am_tc_sI, am_tc_sL, am_tc_sR, am_len_sI, am_len_sL, am_len_sR, am_rfs, if_true, if_false, am_rdL_sI, am_rR_sL, am_rt_cq, am_kd_cq, am_tc_cq, am_len_cq, am_rd_sL, am_rd_sR, am_rdL_sR, okK_211 ok, am_sI_id h0, s0, y, okK_211 okd, fd, den_in, cr, not_true]
  · rw [if_neg (fun w => ca w.1)]
    have dh := den_hasBook h ok (A.2.1 2) c1 c3 a
    rw [if_neg ca] at dh
    refine ⟨am_sI h 211 45 a, q_wk1 ok 45 (by decide) a, ?_⟩
    simp only [e288_0, e288_1, e288_2, e288_5, e288_6, e288_7, e288_10, e288_13, e288_14, e288_15, e288_16, e288_17, e288_20, e288_21, e288_22, e288_25, e288_28, e288_29, e288_30, e288_31, e288_34, e288_35, e288_38, e288_39, e288_42, e288_43, e288_44, e288_47, e288_48, e288_51, e288_52, e288_53, e288_54, e288_55, e288_56, e288_57, e288_58, e288_59, e288_60, e288_61, am_bd_some, Option.toList_some, Option.toList_none, List.cons_append, List.nil_append, am_w8_0, am_w8_1, am_w8_2, am_w8_3, am_w8_4, eq_self, or_true, true_or, am_kd_sI, am_kd_sL, am_kd_sR, am_tc_sI, am_tc_sL, am_tc_sR, am_len_sI, am_len_sL, am_len_sR, am_rfs, if_true, if_false, am_rdL_sI, am_rR_sL, am_rt_cq, am_kd_cq, am_tc_cq, am_len_cq, am_rd_sL, am_rd_sR, am_rdL_sR, okK_211 ok, am_sI_id h0, dh]
theorem ly_31 : ly_p31 := fun a d => pr_wk (fun A => q_deA A a d) (fun A h H => den_cdear H a d) (fun A h H => den_mdear H a d)
theorem den_midle {A : q_All} {h : am_H} (H : q_Rel A h) (a : Int32) : ∃ h' : am_H, q_wk h h' ∧ am_den 289 [.ref 211, .int a] h = some (some (.int (q_idA A a)), h') := by
  have ok := H.1
  have h0 := H.2.1
  obtain ⟨c1, c2, c3⟩ := H.cnt 2 (by decide)
  have y : ¬ (1 : Int32) = 0 := by decide
  show ∃ h' : am_H, q_wk h h' ∧ am_ev 289 0 [some (.ref 211), some (.int a)] [] h = _
  unfold q_idA
  by_cases ca : 0 ≤ a ∧ a < nI (A.2.1 2)
  · rw [if_pos ca]
    obtain ⟨i, hi, rfl⟩ := q_in2 c1 ca
    obtain ⟨bk, m, s0⟩ := q_mQ_of H i hi
    have d5 := bk.1
    have b8 := bk.2.1
    have okd := m.1
    have wd : q_wk h (am_sI h 211 45 (nI i)) := q_wk1 ok 45 (by decide) (nI i)
    have z : (nI i).toNatClampNeg = i := nI_clamp (by omega)
    obtain ⟨h1, f1, t1, s1⟩ := den_findWorths i _ bk _ m
    have m1 := f1.mbk bk m
    have ok1 := m1.1
    obtain ⟨h2, f2, d2, s2⟩ := den_driverOf i _ bk h1 m1 t1 (B_b (A.2.2.2.2.1 i)) (Nat.le_refl _) (nI (B_b (A.2.2.2.2.1 i)) - 1) (fun b hb => by
      by_cases c : B_b (A.2.2.2.2.1 i) = 0
      · rw [c]
        refine ⟨fun _ => Nat.zero_le _, fun _ => Int32.lt_iff_toInt_lt.mpr ?_⟩
        rw [nI_toInt (by omega)]
        have : (nI 0 - 1).toInt = -1 := by decide
        omega
      · rw [show nI (B_b (A.2.2.2.2.1 i)) - 1 = nI (B_b (A.2.2.2.2.1 i) - 1) from pk_sub (b := 1) (by omega), nI_ltI (by omega) (by omega)]
        omega)
    have m2 := f2.mbk bk m1
    have ok2 := m2.1
    obtain ⟨sh, -⟩ := q_shl1 (B_d (A.2.2.2.2.1 i)) (by omega)
    obtain ⟨sl, -⟩ := q_2d (B_d (A.2.2.2.2.1 i)) (by omega)
    have dl := B_Dr_lt (A.2.2.2.2.1 i) (B_turns (A.2.2.2.2.1 i)) (B_b (A.2.2.2.2.1 i))
    have an := q_an (2 ^ B_d (A.2.2.2.2.1 i) - 1) (by omega) _ (show B_Dr (A.2.2.2.2.1 i) (B_turns (A.2.2.2.2.1 i)) (B_b (A.2.2.2.2.1 i)) < 64 by omega)
    refine ⟨h2, (wd.tr (f1.wk okd)).tr (f2.wk ok1), ?_⟩
    rw [z]
    simp only [e289_0, e289_1, e289_2, e289_5, e289_6, e289_7, e289_10, e289_13, e289_14, e289_15, e289_16, e289_19, e289_20, e289_21, e289_22, e289_25, e289_26, e289_27, e289_30, e289_31, e289_32, e289_33, e289_34, e289_37, e289_38, e289_39, e289_40, e289_41, e289_44, e289_45, e289_46, e289_47, am_bd_some, Option.toList_some, Option.toList_none, List.cons_append, List.nil_append, am_w8_0, am_w8_1, am_w8_2, am_w8_3, am_w8_4, eq_self, or_true, true_or, am_kd_sI, am_kd_sL, am_kd_sR, am_tc_sI, am_tc_sL, am_tc_sR, am_len_sI, am_len_sL, am_len_sR, am_rfs, if_true, if_false, am_rdL_sI, am_rR_sL, am_rt_cq, am_kd_cq, am_tc_cq, am_len_cq, am_rd_sL, am_rd_sR, am_rdL_sR, okK_211 ok, am_sI_id h0, s0, y, not_false_eq_true, okK_211 okd, s1, okK_211 ok1, m1.b, s2, okK_211 ok2, m2.d, sh, d2, an]
    rfl
  · rw [if_neg ca]
    have dh := den_hasBook h ok (A.2.1 2) c1 c3 a
    rw [if_neg ca] at dh
    refine ⟨am_sI h 211 45 a, q_wk1 ok 45 (by decide) a, ?_⟩
    simp only [e289_0, e289_1, e289_2, e289_5, e289_6, e289_7, e289_10, e289_13, e289_14, e289_15, e289_16, e289_19, e289_20, e289_21, e289_22, e289_25, e289_26, e289_27, e289_30, e289_31, e289_32, e289_33, e289_34, e289_37, e289_38, e289_39, e289_40, e289_41, e289_44, e289_45, e289_46, e289_47, am_bd_some, Option.toList_some, Option.toList_none, List.cons_append, List.nil_append, am_w8_0, am_w8_1, am_w8_2, am_w8_3, am_w8_4, eq_self, or_true, true_or, am_kd_sI, am_kd_sL, am_kd_sR, am_tc_sI, am_tc_sL, am_tc_sR, am_len_sI, am_len_sL, am_len_sR, am_rfs, if_true, if_false, am_rdL_sI, am_rR_sL, am_rt_cq, am_kd_cq, am_tc_cq, am_len_cq, am_rd_sL, am_rd_sR, am_rdL_sR, okK_211 ok, am_sI_id h0, dh, not_true]
theorem ly_32 : ly_p32 := fun a => pr_wk (fun A => q_idA A a) (fun A h H => den_cidle H a) (fun A h H => den_midle H a)
