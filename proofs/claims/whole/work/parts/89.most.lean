/-! part 89: the class: the most worth -/
theorem q_andI (a b : Nat) : nI a &&& nI b = nI (a &&& b) := by
  apply Int32.toBitVec_inj.1
  show BitVec.ofNat 32 a &&& BitVec.ofNat 32 b = BitVec.ofNat 32 (a &&& b)
  apply BitVec.eq_of_getLsbD_eq
  intro i hi
  simp [hi]
def q_icU (x : Int32) (c : Int32) : Int32 := (x.toUInt32 >>> (c.toUInt32 &&& Int32.toUInt32 31)).toInt32
def q_ic1 (x : Int32) : Int32 := x - ((x.toUInt32 >>> ((1 : Int32).toUInt32 &&& Int32.toUInt32 31)).toInt32 &&& 1431655765)
def q_ic2 (x : Int32) : Int32 := (x &&& 858993459) + ((x.toUInt32 >>> ((2 : Int32).toUInt32 &&& Int32.toUInt32 31)).toInt32 &&& 858993459)
def q_ic3 (x : Int32) : Int32 := (x + (x.toUInt32 >>> ((4 : Int32).toUInt32 &&& Int32.toUInt32 31)).toInt32) &&& 252645135
def q_ic4 (x : Int32) : Int32 := x + (x.toUInt32 >>> ((8 : Int32).toUInt32 &&& Int32.toUInt32 31)).toInt32
def q_ic5 (x : Int32) : Int32 := (x + (x.toUInt32 >>> ((16 : Int32).toUInt32 &&& Int32.toUInt32 31)).toInt32) &&& 63
theorem q_ic_8 : ∀ m, m < 256 → q_ic5 (q_ic4 (q_ic3 (q_ic2 (q_ic1 (nI m))))) = nI (q_b8 m) := by decide +kernel
theorem den_ibc (m : Nat) (hm : m < 256) (h : am_H) : am_den 134 [.int (nI m)] h = some (some (.int (nI (q_b8 m))), h) := by
  rw [← q_ic_8 m hm]
  show am_ev 134 0 [some (.int (nI m))] [] h = _
  simp only [e134_0, e134_1, e134_2, e134_3, e134_4, e134_7, e134_8, e134_9, e134_10, e134_11, e134_14, e134_15, e134_16, e134_17, e134_18, e134_21, e134_22, e134_23, e134_24, e134_25, e134_26, e134_27, e134_28, e134_29, e134_32, e134_33, e134_34, e134_35, e134_36, e134_38, e134_39, e134_40, e134_41, e134_42, e134_43, e134_45, e134_46, e134_47, e134_48, e134_49, e134_51, e134_52, am_bd_some, Option.toList_some, Option.toList_none, List.cons_append, List.nil_append, am_w8_0, am_w8_1, am_w8_2, am_w8_3, am_w8_4, eq_self, or_true, true_or, am_kd_sI, am_kd_sL, am_kd_sR, am_tc_sI, am_tc_sL, am_tc_sR, am_len_sI, am_len_sL, am_len_sR, am_rfs, if_true, if_false, am_rdL_sI, am_rR_sL, am_rt_cq, am_kd_cq, am_tc_cq, am_len_cq, am_rd_sL, am_rd_sR, am_rdL_sR]
  rfl
/-- what the search for the most worth changes -/
def q_rrw (h h' : am_H) : Prop := h'.2 = h.2 ∧ ∀ a k, a ≠ 208 → a ≠ 209 → h'.1 a k = h.1 a k
theorem q_rrw.rf (h : am_H) : q_rrw h h := ⟨rfl, fun _ _ _ _ => rfl⟩
theorem q_rrw.tr {h h' h'' : am_H} (a : q_rrw h h') (b : q_rrw h' h'') : q_rrw h h'' := ⟨b.1.trans a.1, fun x k p1 p2 => (b.2 x k p1 p2).trans (a.2 x k p1 p2)⟩
theorem q_rrw.ok {h h' : am_H} (f : q_rrw h h') (ok : am_okH h) : am_okH h' := ok.of (congrArg Prod.snd f.1)
theorem q_rrw.wk {h h' : am_H} (f : q_rrw h h') (ok : am_okH h) : q_wk h h' := ⟨f.ok ok, by rw [f.1], fun a k w => ⟨f.2 a k (by unfold q_told at w; omega) (by unfold q_told at w; omega), by rw [f.1]⟩⟩
/-- a book in the class's cells, and the turns that are left -/
def q_cb (h : am_H) (o : Nat) (k : q_Bk) (t : Nat → Nat) : Prop := am_okH h ∧ q_bo h o ∧ B_cls h.1 o k ∧ (∀ d, d < B_d k → h.1 207 d = nI (t d) ∧ t d ≤ 3) ∧ o + 5 < 178
theorem q_cb.cg {h h' : am_H} {o : Nat} {k : q_Bk} {t : Nat → Nat} (c : q_cb h o k t) (e : h'.2 = h.2) (f : ∀ a k, a < 178 ∨ a = 207 → h'.1 a k = h.1 a k) : q_cb h' o k t := by
  obtain ⟨ok, bo, ⟨c0, c1, c2, c3, c4, c5⟩, ct, ho⟩ := c
  refine ⟨ok.of (congrArg Prod.snd e), bo.of (by rw [e]), ⟨?_, ?_, ?_, fun j hj => ?_, fun j hj => ?_, fun j hj => ?_⟩, fun d hd => ?_, ho⟩
  · rw [f _ _ (by omega)]; exact c0
  · rw [f _ _ (by omega)]; exact c1
  · rw [f _ _ (by omega)]; exact c2
  · rw [f _ _ (by omega), f _ _ (by omega)]; exact c3 j hj
  · rw [f _ _ (by omega), f _ _ (by omega)]; exact c4 j hj
  · rw [f _ _ (by omega)]; exact c5 j hj
  · rw [f _ _ (by omega)]; exact ct d hd
theorem q_rrw.cb {h h' : am_H} (f : q_rrw h h') {o : Nat} {k : q_Bk} {t : Nat → Nat} (c : q_cb h o k t) : q_cb h' o k t := c.cg f.1 (fun a j w => f.2 a j (by omega) (by omega))
theorem q_wr_d (o : Nat) (k : q_Bk) (bk : B_ok k) (t : Nat → Nat) (fr : Int32) (b : Nat) (hb : b < B_b k) : ∀ (r d acc : Nat) (h : am_H), d + r = B_d k → q_cb h o k t → h.1 208 b = nI acc → acc ≤ 3 * d → ∃ h' : am_H, (h'.2 = h.2 ∧ ∀ a j, ¬ (a = 208 ∧ j = b) → h'.1 a j = h.1 a j) ∧ h'.1 208 b = nI (acc + q_su (fun d => if B_need k b ≤ B_eye k d then t d else 0) r d) ∧ am_ev 131 27 [some (.ref 205), some (.ref o), some (.int fr), some (.int (nI b)), some (.int (nI d))] [] h = am_ev 131 78 [some (.ref 205), some (.ref o), some (.int fr), some (.int (nI b)), some (.int (nI (B_d k)))] [] h' := by
  obtain ⟨d5, b8, -, bd, bb, -⟩ := bk
  have xb : am_ix (nI b) 8 = true := am_ix_nI (by omega) (by decide)
  have zb : (nI b).toNatClampNeg = b := nI_clamp (by omega)
  intro r
  induction r with
  | zero =>
    intro d acc h hd cb ra hacc
    obtain rfl : d = B_d k := by omega
    obtain ⟨ok, bo, ⟨c0, c1, c2, c3, c4, c5⟩, ct, ho⟩ := cb
    have h1 : nI (B_d k) ≤ nI (B_d k) := Int32.le_refl _
    refine ⟨h, ⟨rfl, fun _ _ _ => rfl⟩, ra, ?_⟩
    rw [e131_27]
    simp only [e131_0, e131_1, e131_2, e131_3, e131_4, e131_7, e131_10, e131_11, e131_14, e131_15, e131_16, e131_17, e131_18, e131_21, e131_22, e131_23, e131_24, e131_25, e131_29, e131_30, e131_33, e131_36, e131_37, e131_40, e131_41, e131_42, e131_43, e131_44, e131_47, e131_49, e131_50, e131_51, e131_54, e131_55, e131_56, e131_59, e131_60, e131_63, e131_65, e131_66, e131_69, e131_70, e131_71, e131_72, e131_75, e131_79, e131_81, e131_83, e131_84, e131_87, e131_90, e131_91, e131_94, e131_95, e131_96, e131_97, e131_98, e131_101, e131_103, e131_104, e131_105, e131_108, e131_109, e131_110, e131_113, e131_114, e131_116, e131_117, e131_120, e131_121, e131_122, e131_123, e131_126, e131_129, e131_132, e131_135, am_bd_some, Option.toList_some, Option.toList_none, List.cons_append, List.nil_append, am_w8_0, am_w8_1, am_w8_2, am_w8_3, am_w8_4, eq_self, or_true, true_or, am_kd_sI, am_kd_sL, am_kd_sR, am_tc_sI, am_tc_sL, am_tc_sR, am_len_sI, am_len_sL, am_len_sR, am_rfs, if_true, if_false, am_rdL_sI, am_rR_sL, am_rt_cq, am_kd_cq, am_tc_cq, am_len_cq, am_rd_sL, am_rd_sR, am_rdL_sR, bo.1, c0, h1]
  | succ r ih =>
    intro d acc h hd cb ra hacc
    have cb0 := cb
    obtain ⟨ok, bo, ⟨c0, c1, c2, c3, c4, c5⟩, ct, ho⟩ := cb
    obtain ⟨p1, p2, p3, p4, p5, p6, p7, p8, p9, p10, -⟩ := bo
    have h1 : ¬ nI (B_d k) ≤ nI d := nI_ge (by omega) (by omega)
    have xd : am_ix (nI d) 5 = true := am_ix_nI (by omega) (by decide)
    have zd : (nI d).toNatClampNeg = d := nI_clamp (by omega)
    have ve := (c3 d (by omega)).1
    have vn := (c4 b hb).1
    obtain ⟨vt, vl⟩ := ct d (by omega)
    have eb := (bd d (by omega)).1
    have nb := (bb b hb).1
    have cm : nI (B_eye k d) < nI (B_need k b) ↔ B_eye k d < B_need k b := nI_ltI (by omega) (by omega)
    have step : ∀ v, v ≤ 3 → (if B_need k b ≤ B_eye k d then t d else 0) = v → ∃ h' : am_H, (h'.2 = h.2 ∧ ∀ a j, ¬ (a = 208 ∧ j = b) → h'.1 a j = h.1 a j) ∧ h'.1 208 b = nI (acc + q_su (fun d => if B_need k b ≤ B_eye k d then t d else 0) (r + 1) d) ∧ am_ev 131 27 [some (.ref 205), some (.ref o), some (.int fr), some (.int (nI b)), some (.int (nI (d + 1)))] [] (am_sI h 208 b (nI (acc + v))) = am_ev 131 78 [some (.ref 205), some (.ref o), some (.int fr), some (.int (nI b)), some (.int (nI (B_d k)))] [] h' := fun v hv he => by
      have cb' : q_cb (am_sI h 208 b (nI (acc + v))) o k t := cb0.cg rfl (fun a j w => by rw [am_rd_sI, if_neg (by omega)])
      obtain ⟨h2, ⟨f1, f2⟩, r2, s2⟩ := ih (d + 1) (acc + v) (am_sI h 208 b (nI (acc + v))) (by omega) cb' (by rw [am_rd_sI, if_pos ⟨rfl, rfl⟩]) (by omega)
      refine ⟨h2, ⟨f1, fun a j w => by rw [f2 a j w, am_rd_sI, if_neg w]⟩, ?_, s2⟩
      rw [r2, q_su]
      congr 1
      rw [he]
      omega
    rw [e131_27]
    by_cases c : B_need k b ≤ B_eye k d
    · have c' : ¬ nI (B_eye k d) < nI (B_need k b) := fun w => by have := cm.mp w; omega
      obtain ⟨h2, f2, r2, s2⟩ := step (t d) vl (if_pos c)
      refine ⟨h2, f2, r2, ?_⟩
      simp only [e131_0, e131_1, e131_2, e131_3, e131_4, e131_7, e131_10, e131_11, e131_14, e131_15, e131_16, e131_17, e131_18, e131_21, e131_22, e131_23, e131_24, e131_25, e131_29, e131_30, e131_33, e131_36, e131_37, e131_40, e131_41, e131_42, e131_43, e131_44, e131_47, e131_49, e131_50, e131_51, e131_54, e131_55, e131_56, e131_59, e131_60, e131_63, e131_65, e131_66, e131_69, e131_70, e131_71, e131_72, e131_75, e131_79, e131_81, e131_83, e131_84, e131_87, e131_90, e131_91, e131_94, e131_95, e131_96, e131_97, e131_98, e131_101, e131_103, e131_104, e131_105, e131_108, e131_109, e131_110, e131_113, e131_114, e131_116, e131_117, e131_120, e131_121, e131_122, e131_123, e131_126, e131_129, e131_132, e131_135, am_bd_some, Option.toList_some, Option.toList_none, List.cons_append, List.nil_append, am_w8_0, am_w8_1, am_w8_2, am_w8_3, am_w8_4, eq_self, or_true, true_or, am_kd_sI, am_kd_sL, am_kd_sR, am_tc_sI, am_tc_sL, am_tc_sR, am_len_sI, am_len_sL, am_len_sR, am_rfs, if_true, if_false, am_rdL_sI, am_rR_sL, am_rt_cq, am_kd_cq, am_tc_cq, am_len_cq, am_rd_sL, am_rd_sR, am_rdL_sR, p1, p2, p4, q_tc p7, q_ln p7, q_tc p9, q_ln p9, c0, h1, okK_205 ok, okR_205_1 ok, okR_205_2 ok, okT_207 ok, okL_207 ok, okT_208 ok, okL_208 ok, xb, zb, xd, zd, ra, ve, vn, vt, c', nI_add, nI_1]
      exact s2
    · have c' : nI (B_eye k d) < nI (B_need k b) := cm.mpr (by omega)
      obtain ⟨h2, f2, r2, s2⟩ := step 0 (by decide) (if_neg c)
      rw [Nat.add_zero] at s2
      refine ⟨h2, f2, r2, ?_⟩
      simp only [e131_0, e131_1, e131_2, e131_3, e131_4, e131_7, e131_10, e131_11, e131_14, e131_15, e131_16, e131_17, e131_18, e131_21, e131_22, e131_23, e131_24, e131_25, e131_29, e131_30, e131_33, e131_36, e131_37, e131_40, e131_41, e131_42, e131_43, e131_44, e131_47, e131_49, e131_50, e131_51, e131_54, e131_55, e131_56, e131_59, e131_60, e131_63, e131_65, e131_66, e131_69, e131_70, e131_71, e131_72, e131_75, e131_79, e131_81, e131_83, e131_84, e131_87, e131_90, e131_91, e131_94, e131_95, e131_96, e131_97, e131_98, e131_101, e131_103, e131_104, e131_105, e131_108, e131_109, e131_110, e131_113, e131_114, e131_116, e131_117, e131_120, e131_121, e131_122, e131_123, e131_126, e131_129, e131_132, e131_135, am_bd_some, Option.toList_some, Option.toList_none, List.cons_append, List.nil_append, am_w8_0, am_w8_1, am_w8_2, am_w8_3, am_w8_4, eq_self, or_true, true_or, am_kd_sI, am_kd_sL, am_kd_sR, am_tc_sI, am_tc_sL, am_tc_sR, am_len_sI, am_len_sL, am_len_sR, am_rfs, if_true, if_false, am_rdL_sI, am_rR_sL, am_rt_cq, am_kd_cq, am_tc_cq, am_len_cq, am_rd_sL, am_rd_sR, am_rdL_sR, p1, p2, p4, q_tc p7, q_ln p7, q_tc p9, q_ln p9, c0, h1, okK_205 ok, okR_205_1 ok, okR_205_2 ok, okT_207 ok, okL_207 ok, okT_208 ok, okL_208 ok, xb, zb, xd, zd, ra, ve, vn, c', Int32.add_zero, nI_1]
      exact s2
def q_msr (P : Nat → Bool) : Nat → Nat → Nat → Nat
  | 0, _, a => a
  | r + 1, i, a => q_msr P r (i + 1) (if P i = true then a ||| 2 ^ i else a)
theorem q_msr_tb (P : Nat → Bool) : ∀ r i a x, (q_msr P r i a).testBit x = (a.testBit x || (decide (i ≤ x ∧ x < i + r) && P x)) := by
  intro r
  induction r with
  | zero =>
    intro i a x
    rw [q_msr, decide_eq_false (by omega), Bool.false_and, Bool.or_false]
  | succ r ih =>
    intro i a x
    rw [q_msr, ih]
    by_cases c : x = i
    · subst c
      rw [decide_eq_false (by omega), decide_eq_true (by omega), Bool.false_and, Bool.or_false, Bool.true_and]
      cases hp : P x with
      | true => rw [if_pos rfl, Nat.testBit_or, Nat.testBit_two_pow_self]
      | false => rw [if_neg (by decide), Bool.or_false]
    · have e : decide (i + 1 ≤ x ∧ x < i + 1 + r) = decide (i ≤ x ∧ x < i + (r + 1)) := decide_eq_decide.mpr ⟨fun w => by omega, fun w => by omega⟩
      rw [e]
      cases hp : P i with
      | true =>
        rw [if_pos rfl, Nat.testBit_or, Nat.testBit_two_pow, decide_eq_false (fun w => c w.symm), Bool.or_false]
      | false => rw [if_neg (by decide)]
theorem q_msr_lt (P : Nat → Bool) : ∀ r i a, i + r ≤ 8 → a < 256 → q_msr P r i a < 256 := by
  intro r
  induction r with
  | zero => intro i a _ h; exact h
  | succ r ih =>
    intro i a hi ha
    rw [q_msr]
    refine ih (i + 1) _ (by omega) ?_
    have h2 : (2 : Nat) ^ i < 2 ^ 8 := Nat.pow_lt_pow_right (by decide) (by omega)
    split
    · exact Nat.or_lt_two_pow (n := 8) ha h2
    · exact ha
theorem q_por8 : ∀ m, m < 256 → ∀ b, b < 8 → (nI m ||| ((1 : Int32) <<< (nI b &&& 31)) = nI (m ||| 2 ^ b)) := by decide +kernel
theorem q_or0 (v : Int32) : v ||| 0 = v := by
  apply Int32.toBitVec_inj.1
  show v.toBitVec ||| 0#32 = v.toBitVec
  simp
theorem q_wr_r (o : Nat) (k : q_Bk) (bk : B_ok k) (t : Nat → Nat) (fr : Int32) (b : Nat) (hb : b < B_b k) : ∀ (r x acc : Nat) (h : am_H), x + r = B_b k → q_cb h o k t → h.1 209 b = nI acc → acc < 256 → ∃ h' : am_H, (h'.2 = h.2 ∧ ∀ a j, ¬ (a = 209 ∧ j = b) → h'.1 a j = h.1 a j) ∧ h'.1 209 b = nI (q_msr (fun y => decide (B_need k b ≤ B_need k y)) r x acc) ∧ am_ev 131 81 [some (.ref 205), some (.ref o), some (.int fr), some (.int (nI b)), some (.int (nI x))] [] h = am_ev 131 129 [some (.ref 205), some (.ref o), some (.int fr), some (.int (nI b)), some (.int (nI (B_b k)))] [] h' := by
  obtain ⟨d5, b8, -, bd, bb, -⟩ := bk
  have xb : am_ix (nI b) 8 = true := am_ix_nI (by omega) (by decide)
  have zb : (nI b).toNatClampNeg = b := nI_clamp (by omega)
  intro r
  induction r with
  | zero =>
    intro x acc h hx cb ra hacc
    obtain rfl : x = B_b k := by omega
    obtain ⟨ok, bo, ⟨c0, c1, c2, c3, c4, c5⟩, ct, ho⟩ := cb
    have h1 : nI (B_b k) ≤ nI (B_b k) := Int32.le_refl _
    refine ⟨h, ⟨rfl, fun _ _ _ => rfl⟩, ra, ?_⟩
    rw [e131_81]
    simp only [e131_0, e131_1, e131_2, e131_3, e131_4, e131_7, e131_10, e131_11, e131_14, e131_15, e131_16, e131_17, e131_18, e131_21, e131_22, e131_23, e131_24, e131_25, e131_27, e131_29, e131_30, e131_33, e131_36, e131_37, e131_40, e131_41, e131_42, e131_43, e131_44, e131_47, e131_49, e131_50, e131_51, e131_54, e131_55, e131_56, e131_59, e131_60, e131_63, e131_65, e131_66, e131_69, e131_70, e131_71, e131_72, e131_75, e131_78, e131_79, e131_83, e131_84, e131_87, e131_90, e131_91, e131_94, e131_95, e131_96, e131_97, e131_98, e131_101, e131_103, e131_104, e131_105, e131_108, e131_109, e131_110, e131_113, e131_114, e131_116, e131_117, e131_120, e131_121, e131_122, e131_123, e131_126, e131_132, e131_135, am_bd_some, Option.toList_some, Option.toList_none, List.cons_append, List.nil_append, am_w8_0, am_w8_1, am_w8_2, am_w8_3, am_w8_4, eq_self, or_true, true_or, am_kd_sI, am_kd_sL, am_kd_sR, am_tc_sI, am_tc_sL, am_tc_sR, am_len_sI, am_len_sL, am_len_sR, am_rfs, if_true, if_false, am_rdL_sI, am_rR_sL, am_rt_cq, am_kd_cq, am_tc_cq, am_len_cq, am_rd_sL, am_rd_sR, am_rdL_sR, bo.1, c1, h1]
  | succ r ih =>
    intro x acc h hx cb ra hacc
    have cb0 := cb
    obtain ⟨ok, bo, ⟨c0, c1, c2, c3, c4, c5⟩, ct, ho⟩ := cb
    obtain ⟨p1, p2, p3, p4, p5, p6, p7, p8, p9, p10, -⟩ := bo
    have h1 : ¬ nI (B_b k) ≤ nI x := nI_ge (by omega) (by omega)
    have xx : am_ix (nI x) 8 = true := am_ix_nI (by omega) (by decide)
    have zx : (nI x).toNatClampNeg = x := nI_clamp (by omega)
    have vn := (c4 b hb).1
    have vx := (c4 x (by omega)).1
    have nb := (bb b hb).1
    have nx := (bb x (by omega)).1
    have cm : nI (B_need k x) < nI (B_need k b) ↔ B_need k x < B_need k b := nI_ltI (by omega) (by omega)
    have po := q_por8 acc hacc x (by omega)
    have h2 : (2 : Nat) ^ x < 2 ^ 8 := Nat.pow_lt_pow_right (by decide) (by omega)
    have step : ∀ v, v < 256 → (if decide (B_need k b ≤ B_need k x) = true then acc ||| 2 ^ x else acc) = v → ∃ h' : am_H, (h'.2 = h.2 ∧ ∀ a j, ¬ (a = 209 ∧ j = b) → h'.1 a j = h.1 a j) ∧ h'.1 209 b = nI (q_msr (fun y => decide (B_need k b ≤ B_need k y)) (r + 1) x acc) ∧ am_ev 131 81 [some (.ref 205), some (.ref o), some (.int fr), some (.int (nI b)), some (.int (nI (x + 1)))] [] (am_sI h 209 b (nI v)) = am_ev 131 129 [some (.ref 205), some (.ref o), some (.int fr), some (.int (nI b)), some (.int (nI (B_b k)))] [] h' := fun v hv he => by
      have cb' : q_cb (am_sI h 209 b (nI v)) o k t := cb0.cg rfl (fun a j w => by rw [am_rd_sI, if_neg (by omega)])
      obtain ⟨h2, ⟨f1, f2⟩, r2, s2⟩ := ih (x + 1) v (am_sI h 209 b (nI v)) (by omega) cb' (by rw [am_rd_sI, if_pos ⟨rfl, rfl⟩]) hv
      refine ⟨h2, ⟨f1, fun a j w => by rw [f2 a j w, am_rd_sI, if_neg w]⟩, ?_, s2⟩
      rw [r2, q_msr, he]
    rw [e131_81]
    by_cases c : B_need k b ≤ B_need k x
    · have c' : ¬ nI (B_need k x) < nI (B_need k b) := fun w => by have := cm.mp w; omega
      obtain ⟨h3, f3, r3, s3⟩ := step (acc ||| 2 ^ x) (Nat.or_lt_two_pow (n := 8) hacc h2) (by rw [decide_eq_true c, if_pos rfl])
      refine ⟨h3, f3, r3, ?_⟩
      simp only [e131_0, e131_1, e131_2, e131_3, e131_4, e131_7, e131_10, e131_11, e131_14, e131_15, e131_16, e131_17, e131_18, e131_21, e131_22, e131_23, e131_24, e131_25, e131_27, e131_29, e131_30, e131_33, e131_36, e131_37, e131_40, e131_41, e131_42, e131_43, e131_44, e131_47, e131_49, e131_50, e131_51, e131_54, e131_55, e131_56, e131_59, e131_60, e131_63, e131_65, e131_66, e131_69, e131_70, e131_71, e131_72, e131_75, e131_78, e131_79, e131_83, e131_84, e131_87, e131_90, e131_91, e131_94, e131_95, e131_96, e131_97, e131_98, e131_101, e131_103, e131_104, e131_105, e131_108, e131_109, e131_110, e131_113, e131_114, e131_116, e131_117, e131_120, e131_121, e131_122, e131_123, e131_126, e131_132, e131_135, am_bd_some, Option.toList_some, Option.toList_none, List.cons_append, List.nil_append, am_w8_0, am_w8_1, am_w8_2, am_w8_3, am_w8_4, eq_self, or_true, true_or, am_kd_sI, am_kd_sL, am_kd_sR, am_tc_sI, am_tc_sL, am_tc_sR, am_len_sI, am_len_sL, am_len_sR, am_rfs, if_true, if_false, am_rdL_sI, am_rR_sL, am_rt_cq, am_kd_cq, am_tc_cq, am_len_cq, am_rd_sL, am_rd_sR, am_rdL_sR, p1, p4, q_tc p9, q_ln p9, c1, h1, okK_205 ok, okR_205_3 ok, okT_209 ok, okL_209 ok, xb, zb, xx, zx, ra, vn, vx, c', po, nI_1]
      exact s3
    · have c' : nI (B_need k x) < nI (B_need k b) := cm.mpr (by omega)
      obtain ⟨h3, f3, r3, s3⟩ := step acc hacc (by rw [decide_eq_false c, if_neg (by decide)])
      refine ⟨h3, f3, r3, ?_⟩
      simp only [e131_0, e131_1, e131_2, e131_3, e131_4, e131_7, e131_10, e131_11, e131_14, e131_15, e131_16, e131_17, e131_18, e131_21, e131_22, e131_23, e131_24, e131_25, e131_27, e131_29, e131_30, e131_33, e131_36, e131_37, e131_40, e131_41, e131_42, e131_43, e131_44, e131_47, e131_49, e131_50, e131_51, e131_54, e131_55, e131_56, e131_59, e131_60, e131_63, e131_65, e131_66, e131_69, e131_70, e131_71, e131_72, e131_75, e131_78, e131_79, e131_83, e131_84, e131_87, e131_90, e131_91, e131_94, e131_95, e131_96, e131_97, e131_98, e131_101, e131_103, e131_104, e131_105, e131_108, e131_109, e131_110, e131_113, e131_114, e131_116, e131_117, e131_120, e131_121, e131_122, e131_123, e131_126, e131_132, e131_135, am_bd_some, Option.toList_some, Option.toList_none, List.cons_append, List.nil_append, am_w8_0, am_w8_1, am_w8_2, am_w8_3, am_w8_4, eq_self, or_true, true_or, am_kd_sI, am_kd_sL, am_kd_sR, am_tc_sI, am_tc_sL, am_tc_sR, am_len_sI, am_len_sL, am_len_sR, am_rfs, if_true, if_false, am_rdL_sI, am_rR_sL, am_rt_cq, am_kd_cq, am_tc_cq, am_len_cq, am_rd_sL, am_rd_sR, am_rdL_sR, p1, p4, q_tc p9, q_ln p9, c1, h1, okK_205 ok, okR_205_3 ok, okT_209 ok, okL_209 ok, xb, zb, xx, zx, ra, vn, vx, c', q_or0, nI_1]
      exact s3
/-- the rooms and the rivals are weighed -/
def q_wgd (h : am_H) (k : q_Bk) (t : Nat → Nat) (fr b : Nat) : Prop := ∀ x, fr ≤ x → x < b → h.1 208 x = nI (B_R k t (B_need k x)) ∧ h.1 209 x = nI (q_msr (fun y => decide (B_need k x ≤ B_need k y)) (B_b k - fr) fr 0)
theorem q_wr_o (o : Nat) (k : q_Bk) (bk : B_ok k) (t : Nat → Nat) (fr : Nat) (hfr : fr ≤ B_b k) : ∀ (r b : Nat) (h : am_H) (z4 : Option Value), b + r = B_b k → fr ≤ b → q_cb h o k t → q_wgd h k t fr b → ∃ h' : am_H, q_rrw h h' ∧ q_wgd h' k t fr (B_b k) ∧ am_ev 131 2 [some (.ref 205), some (.ref o), some (.int (nI fr)), some (.int (nI b)), z4] [] h = some (none, h') := by
  have b8 := bk.2.1
  intro r
  induction r with
  | zero =>
    intro b h z4 hb hf cb wg
    obtain rfl : b = B_b k := by omega
    obtain ⟨ok, bo, ⟨c0, c1, c2, c3, c4, c5⟩, ct, ho⟩ := cb
    have h1 : nI (B_b k) ≤ nI (B_b k) := Int32.le_refl _
    refine ⟨h, q_rrw.rf h, wg, ?_⟩
    rw [e131_2]
    simp only [e131_0, e131_1, e131_3, e131_4, e131_7, e131_10, e131_11, e131_14, e131_15, e131_16, e131_17, e131_18, e131_21, e131_22, e131_23, e131_24, e131_25, e131_27, e131_29, e131_30, e131_33, e131_36, e131_37, e131_40, e131_41, e131_42, e131_43, e131_44, e131_47, e131_49, e131_50, e131_51, e131_54, e131_55, e131_56, e131_59, e131_60, e131_63, e131_65, e131_66, e131_69, e131_70, e131_71, e131_72, e131_75, e131_78, e131_79, e131_81, e131_83, e131_84, e131_87, e131_90, e131_91, e131_94, e131_95, e131_96, e131_97, e131_98, e131_101, e131_103, e131_104, e131_105, e131_108, e131_109, e131_110, e131_113, e131_114, e131_116, e131_117, e131_120, e131_121, e131_122, e131_123, e131_126, e131_129, e131_132, e131_135, am_bd_some, Option.toList_some, Option.toList_none, List.cons_append, List.nil_append, am_w8_0, am_w8_1, am_w8_2, am_w8_3, am_w8_4, eq_self, or_true, true_or, am_kd_sI, am_kd_sL, am_kd_sR, am_tc_sI, am_tc_sL, am_tc_sR, am_len_sI, am_len_sL, am_len_sR, am_rfs, if_true, if_false, am_rdL_sI, am_rR_sL, am_rt_cq, am_kd_cq, am_tc_cq, am_len_cq, am_rd_sL, am_rd_sR, am_rdL_sR, bo.1, c1, h1]
  | succ r ih =>
    intro b h z4 hb hf cb wg
    have ok := cb.1
    have p1 := cb.2.1.1
    have c1 := cb.2.2.1.2.1
    have h1 : ¬ nI (B_b k) ≤ nI b := nI_ge (by omega) (by omega)
    have xb : am_ix (nI b) 8 = true := am_ix_nI (by omega) (by decide)
    have zb : (nI b).toNatClampNeg = b := nI_clamp (by omega)
    let ha : am_H := am_sI (am_sI h 208 b 0) 209 b 0
    have ra : ∀ a j, ha.1 a j = if a = 209 ∧ j = b then 0 else if a = 208 ∧ j = b then 0 else h.1 a j := fun a j => rfl
    have cba : q_cb ha o k t := cb.cg rfl (fun a j w => by rw [ra, if_neg (by omega), if_neg (by omega)])
    obtain ⟨hb', ⟨f1, f2⟩, r2, s2⟩ := q_wr_d o k bk t (nI fr) b (by omega) (B_d k) 0 0 ha (by omega) cba (by rw [ra, if_neg (by omega), if_pos ⟨rfl, rfl⟩]; rfl) (Nat.le_refl _)
    have cbb : q_cb hb' o k t := cba.cg f1 (fun a j w => f2 a j (by omega))
    have e209 : hb'.1 209 b = nI 0 := by
      rw [f2 209 b (by omega), ra, if_pos ⟨rfl, rfl⟩]
      rfl
    obtain ⟨hc, ⟨g1, g2⟩, r3, s3⟩ := q_wr_r o k bk t (nI fr) b (by omega) (B_b k - fr) fr 0 hb' (by omega) cbb e209 (by decide)
    have cbc : q_cb hc o k t := cbb.cg g1 (fun a j w => g2 a j (by omega))
    have far : ∀ a j, ¬ (a = 208 ∧ j = b) → ¬ (a = 209 ∧ j = b) → hc.1 a j = h.1 a j := fun a j w1 w2 => by
      rw [g2 a j w2, f2 a j w1, ra, if_neg w2, if_neg w1]
    have rw1 : q_rrw h hc := ⟨by rw [g1, f1]; rfl, fun a j w1 w2 => far a j (fun w => w1 w.1) (fun w => w2 w.1)⟩
    have wgc : q_wgd hc k t fr (b + 1) := fun x hx1 hx2 => by
      by_cases c : x = b
      · subst c
        refine ⟨?_, r3⟩
        rw [g2 208 x (by omega), r2, Nat.zero_add]
        rfl
      · rw [far _ _ (fun w => c w.2) (fun w => by omega), far _ _ (fun w => by omega) (fun w => c w.2)]
        exact wg x hx1 (by omega)
    obtain ⟨h4, f4, wg4, s4⟩ := ih (b + 1) hc (some (.int (nI (B_b k)))) (by omega) (by omega) cbc wgc
    rw [nI_0] at s2
    refine ⟨h4, rw1.tr f4, wg4, ?_⟩
    have t1 : am_ev 131 2 [some (.ref 205), some (.ref o), some (.int (nI fr)), some (.int (nI b)), z4] [] h = am_ev 131 27 [some (.ref 205), some (.ref o), some (.int (nI fr)), some (.int (nI b)), some (.int 0)] [] ha := by
      rw [e131_2]
      simp only [e131_0, e131_1, e131_3, e131_4, e131_7, e131_10, e131_11, e131_14, e131_15, e131_16, e131_17, e131_18, e131_21, e131_22, e131_23, e131_24, e131_25, e131_29, e131_30, e131_33, e131_36, e131_37, e131_40, e131_41, e131_42, e131_43, e131_44, e131_47, e131_49, e131_50, e131_51, e131_54, e131_55, e131_56, e131_59, e131_60, e131_63, e131_65, e131_66, e131_69, e131_70, e131_71, e131_72, e131_75, e131_78, e131_79, e131_81, e131_83, e131_84, e131_87, e131_90, e131_91, e131_94, e131_95, e131_96, e131_97, e131_98, e131_101, e131_103, e131_104, e131_105, e131_108, e131_109, e131_110, e131_113, e131_114, e131_116, e131_117, e131_120, e131_121, e131_122, e131_123, e131_126, e131_129, e131_132, e131_135, am_bd_some, Option.toList_some, Option.toList_none, List.cons_append, List.nil_append, am_w8_0, am_w8_1, am_w8_2, am_w8_3, am_w8_4, eq_self, or_true, true_or, am_kd_sI, am_kd_sL, am_kd_sR, am_tc_sI, am_tc_sL, am_tc_sR, am_len_sI, am_len_sL, am_len_sR, am_rfs, if_true, if_false, am_rdL_sI, am_rR_sL, am_rt_cq, am_kd_cq, am_tc_cq, am_len_cq, am_rd_sL, am_rd_sR, am_rdL_sR, p1, c1, h1, okK_205 ok, okR_205_2 ok, okR_205_3 ok, okT_208 ok, okL_208 ok, okT_209 ok, okL_209 ok, xb, zb]
      rfl
    have t2 : am_ev 131 78 [some (.ref 205), some (.ref o), some (.int (nI fr)), some (.int (nI b)), some (.int (nI (B_d k)))] [] hb' = am_ev 131 81 [some (.ref 205), some (.ref o), some (.int (nI fr)), some (.int (nI b)), some (.int (nI fr))] [] hb' := by
      simp only [e131_0, e131_1, e131_2, e131_3, e131_4, e131_7, e131_10, e131_11, e131_14, e131_15, e131_16, e131_17, e131_18, e131_21, e131_22, e131_23, e131_24, e131_25, e131_27, e131_29, e131_30, e131_33, e131_36, e131_37, e131_40, e131_41, e131_42, e131_43, e131_44, e131_47, e131_49, e131_50, e131_51, e131_54, e131_55, e131_56, e131_59, e131_60, e131_63, e131_65, e131_66, e131_69, e131_70, e131_71, e131_72, e131_75, e131_78, e131_79, e131_83, e131_84, e131_87, e131_90, e131_91, e131_94, e131_95, e131_96, e131_97, e131_98, e131_101, e131_103, e131_104, e131_105, e131_108, e131_109, e131_110, e131_113, e131_114, e131_116, e131_117, e131_120, e131_121, e131_122, e131_123, e131_126, e131_129, e131_132, e131_135, am_bd_some, Option.toList_some, Option.toList_none, List.cons_append, List.nil_append, am_w8_0, am_w8_1, am_w8_2, am_w8_3, am_w8_4, eq_self, or_true, true_or, am_kd_sI, am_kd_sL, am_kd_sR, am_tc_sI, am_tc_sL, am_tc_sR, am_len_sI, am_len_sL, am_len_sR, am_rfs, if_true, if_false, am_rdL_sI, am_rR_sL, am_rt_cq, am_kd_cq, am_tc_cq, am_len_cq, am_rd_sL, am_rd_sR, am_rdL_sR]
    have t3 : am_ev 131 129 [some (.ref 205), some (.ref o), some (.int (nI fr)), some (.int (nI b)), some (.int (nI (B_b k)))] [] hc = am_ev 131 2 [some (.ref 205), some (.ref o), some (.int (nI fr)), some (.int (nI (b + 1))), some (.int (nI (B_b k)))] [] hc := by
      simp only [e131_0, e131_1, e131_3, e131_4, e131_7, e131_10, e131_11, e131_14, e131_15, e131_16, e131_17, e131_18, e131_21, e131_22, e131_23, e131_24, e131_25, e131_27, e131_29, e131_30, e131_33, e131_36, e131_37, e131_40, e131_41, e131_42, e131_43, e131_44, e131_47, e131_49, e131_50, e131_51, e131_54, e131_55, e131_56, e131_59, e131_60, e131_63, e131_65, e131_66, e131_69, e131_70, e131_71, e131_72, e131_75, e131_78, e131_79, e131_81, e131_83, e131_84, e131_87, e131_90, e131_91, e131_94, e131_95, e131_96, e131_97, e131_98, e131_101, e131_103, e131_104, e131_105, e131_108, e131_109, e131_110, e131_113, e131_114, e131_116, e131_117, e131_120, e131_121, e131_122, e131_123, e131_126, e131_129, e131_132, e131_135, am_bd_some, Option.toList_some, Option.toList_none, List.cons_append, List.nil_append, am_w8_0, am_w8_1, am_w8_2, am_w8_3, am_w8_4, eq_self, or_true, true_or, am_kd_sI, am_kd_sL, am_kd_sR, am_tc_sI, am_tc_sL, am_tc_sR, am_len_sI, am_len_sL, am_len_sR, am_rfs, if_true, if_false, am_rdL_sI, am_rR_sL, am_rt_cq, am_kd_cq, am_tc_cq, am_len_cq, am_rd_sL, am_rd_sR, am_rdL_sR, nI_1]
    rw [t1, s2, t2, s3, t3]
    exact s4
theorem den_weigh (o : Nat) (k : q_Bk) (bk : B_ok k) (t : Nat → Nat) (fr : Nat) (hfr : fr ≤ B_b k) (h : am_H) (cb : q_cb h o k t) : ∃ h' : am_H, q_rrw h h' ∧ q_wgd h' k t fr (B_b k) ∧ am_den 131 [.ref 205, .ref o, .int (nI fr)] h = some (none, h') := by
  obtain ⟨h1, f1, w1, s1⟩ := q_wr_o o k bk t fr hfr (B_b k - fr) fr h none (by omega) (Nat.le_refl _) cb (fun x h1 h2 => by omega)
  refine ⟨h1, f1, w1, ?_⟩
  show am_ev 131 0 [some (.ref 205), some (.ref o), some (.int (nI fr)), none, none] [] h = _
  simp only [e131_0, e131_1, e131_3, e131_4, e131_7, e131_10, e131_11, e131_14, e131_15, e131_16, e131_17, e131_18, e131_21, e131_22, e131_23, e131_24, e131_25, e131_27, e131_29, e131_30, e131_33, e131_36, e131_37, e131_40, e131_41, e131_42, e131_43, e131_44, e131_47, e131_49, e131_50, e131_51, e131_54, e131_55, e131_56, e131_59, e131_60, e131_63, e131_65, e131_66, e131_69, e131_70, e131_71, e131_72, e131_75, e131_78, e131_79, e131_81, e131_83, e131_84, e131_87, e131_90, e131_91, e131_94, e131_95, e131_96, e131_97, e131_98, e131_101, e131_103, e131_104, e131_105, e131_108, e131_109, e131_110, e131_113, e131_114, e131_116, e131_117, e131_120, e131_121, e131_122, e131_123, e131_126, e131_129, e131_132, e131_135, am_bd_some, Option.toList_some, Option.toList_none, List.cons_append, List.nil_append, am_w8_0, am_w8_1, am_w8_2, am_w8_3, am_w8_4, eq_self, or_true, true_or, am_kd_sI, am_kd_sL, am_kd_sR, am_tc_sI, am_tc_sL, am_tc_sR, am_len_sI, am_len_sL, am_len_sR, am_rfs, if_true, if_false, am_rdL_sI, am_rR_sL, am_rt_cq, am_kd_cq, am_tc_cq, am_len_cq, am_rd_sL, am_rd_sR, am_rdL_sR]
  exact s1
