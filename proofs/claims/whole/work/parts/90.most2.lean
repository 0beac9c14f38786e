/-! part 90: the class: the most worth of the bargains from one on -/
theorem q_pbit8 : ∀ m, m < 256 → ∀ b, b < 8 → ((nI m >>> (nI b &&& 31)) &&& 1 = if m.testBit b = true then 1 else 0) := by decide +kernel
theorem q_wo_l (o : Nat) (k : q_Bk) (bk : B_ok k) (t : Nat → Nat) (m : Nat) (hm : m < 256) (h : am_H) (cb : q_cb h o k t) : ∀ (r b acc : Nat), b + r = B_b k → am_ev 132 4 [some (.ref o), some (.int (nI m)), some (.int (nI acc)), some (.int (nI b))] [] h = some (some (.int (nI (acc + B_wo k m.testBit r b))), h) := by
  obtain ⟨d5, b8, -, bd, bb, -⟩ := bk
  obtain ⟨ok, bo, ⟨c0, c1, c2, c3, c4, c5⟩, ct, ho⟩ := cb
  obtain ⟨p1, p2, p3, p4, p5, p6, p7, p8, p9, p10, -⟩ := bo
  intro r
  induction r with
  | zero =>
    intro b acc hb
    obtain rfl : b = B_b k := by omega
    have h1 : nI (B_b k) ≤ nI (B_b k) := Int32.le_refl _
    rw [e132_4]
    simp only [e132_0, e132_1, e132_2, e132_3, e132_5, e132_6, e132_9, e132_12, e132_13, e132_14, e132_15, e132_16, e132_17, e132_18, e132_21, e132_22, e132_25, e132_26, e132_27, e132_30, e132_31, e132_32, e132_33, e132_36, e132_39, e132_40, am_bd_some, Option.toList_some, Option.toList_none, List.cons_append, List.nil_append, am_w8_0, am_w8_1, am_w8_2, am_w8_3, am_w8_4, eq_self, or_true, true_or, am_kd_sI, am_kd_sL, am_kd_sR, am_tc_sI, am_tc_sL, am_tc_sR, am_len_sI, am_len_sL, am_len_sR, am_rfs, if_true, if_false, am_rdL_sI, am_rR_sL, am_rt_cq, am_kd_cq, am_tc_cq, am_len_cq, am_rd_sL, am_rd_sR, am_rdL_sR, p1, c1, h1, B_wo, q_su, Nat.add_zero]
  | succ r ih =>
    intro b acc hb
    have h1 : ¬ nI (B_b k) ≤ nI b := nI_ge (by omega) (by omega)
    have x : am_ix (nI b) 8 = true := am_ix_nI (by omega) (by decide)
    have z : (nI b).toNatClampNeg = b := nI_clamp (by omega)
    have pb := q_pbit8 m hm b (by omega)
    have v := (c4 b (by omega)).2
    have es : B_wo k m.testBit (r + 1) b = (if m.testBit b = true then B_worth k b else 0) + B_wo k m.testBit r (b + 1) := rfl
    rw [es, e132_4]
    cases ht : m.testBit b with
    | true =>
      rw [ht, if_pos rfl] at pb
      have y : ¬ (1 : Int32) = 0 := by decide
      rw [if_pos rfl, ← Nat.add_assoc]
      simp only [e132_0, e132_1, e132_2, e132_3, e132_5, e132_6, e132_9, e132_12, e132_13, e132_14, e132_15, e132_16, e132_17, e132_18, e132_21, e132_22, e132_25, e132_26, e132_27, e132_30, e132_31, e132_32, e132_33, e132_36, e132_39, e132_40, am_bd_some, Option.toList_some, Option.toList_none, List.cons_append, List.nil_append, am_w8_0, am_w8_1, am_w8_2, am_w8_3, am_w8_4, eq_self, or_true, true_or, am_kd_sI, am_kd_sL, am_kd_sR, am_tc_sI, am_tc_sL, am_tc_sR, am_len_sI, am_len_sL, am_len_sR, am_rfs, if_true, if_false, am_rdL_sI, am_rR_sL, am_rt_cq, am_kd_cq, am_tc_cq, am_len_cq, am_rd_sL, am_rd_sR, am_rdL_sR, p1, p5, q_tc p10, q_ln p10, c1, h1, pb, y, x, z, v, nI_add, nI_1]
      exact ih (b + 1) (acc + B_worth k b) (by omega)
    | false =>
      rw [ht, if_neg (by decide)] at pb
      rw [if_neg (by decide), Nat.zero_add]
      simp only [e132_0, e132_1, e132_2, e132_3, e132_5, e132_6, e132_9, e132_12, e132_13, e132_14, e132_15, e132_16, e132_17, e132_18, e132_21, e132_22, e132_25, e132_26, e132_27, e132_30, e132_31, e132_32, e132_33, e132_36, e132_39, e132_40, am_bd_some, Option.toList_some, Option.toList_none, List.cons_append, List.nil_append, am_w8_0, am_w8_1, am_w8_2, am_w8_3, am_w8_4, eq_self, or_true, true_or, am_kd_sI, am_kd_sL, am_kd_sR, am_tc_sI, am_tc_sL, am_tc_sR, am_len_sI, am_len_sL, am_len_sR, am_rfs, if_true, if_false, am_rdL_sI, am_rR_sL, am_rt_cq, am_kd_cq, am_tc_cq, am_len_cq, am_rd_sL, am_rd_sR, am_rdL_sR, p1, c1, h1, pb, Int32.add_zero, nI_1]
      exact ih (b + 1) acc (by omega)
theorem q_su_z {g : Nat → Nat} : ∀ r i, (∀ d, i ≤ d → d < i + r → g d = 0) → q_su g r i = 0 := by
  intro r
  induction r with
  | zero => intro i _; rfl
  | succ r ih =>
    intro i h
    rw [q_su, h i (Nat.le_refl _) (by omega), ih (i + 1) (fun d h1 h2 => h d (by omega) (by omega))]
theorem den_worthOf (o : Nat) (k : q_Bk) (bk : B_ok k) (t : Nat → Nat) (m : Nat) (hm : m < 256) (h : am_H) (cb : q_cb h o k t) (fr : Nat) (hfr : fr ≤ B_b k) (hz : ∀ x, x < fr → m.testBit x = false) : am_den 132 [.ref o, .int (nI m)] h = some (some (.int (nI (B_wo k m.testBit (B_b k - fr) fr))), h) := by
  have lp := q_wo_l o k bk t m hm h cb (B_b k) 0 0 (by omega)
  rw [Nat.zero_add, nI_0] at lp
  have e : B_wo k m.testBit (B_b k) 0 = B_wo k m.testBit (B_b k - fr) fr := by
    have := q_su_add (fun x => if m.testBit x = true then B_worth k x else 0) fr (B_b k - fr) 0
    rw [show fr + (B_b k - fr) = B_b k by omega, Nat.zero_add] at this
    unfold B_wo
    rw [this, q_su_z fr 0 (fun d _ h2 => by rw [hz d (by omega)]; rfl), Nat.zero_add]
  rw [e] at lp
  show am_ev 132 0 [some (.ref o), some (.int (nI m)), none, none] [] h = _
  simp only [e132_0, e132_1, e132_2, e132_3, e132_5, e132_6, e132_9, e132_12, e132_13, e132_14, e132_15, e132_16, e132_17, e132_18, e132_21, e132_22, e132_25, e132_26, e132_27, e132_30, e132_31, e132_32, e132_33, e132_36, e132_39, e132_40, am_bd_some, Option.toList_some, Option.toList_none, List.cons_append, List.nil_append, am_w8_0, am_w8_1, am_w8_2, am_w8_3, am_w8_4, eq_self, or_true, true_or, am_kd_sI, am_kd_sL, am_kd_sR, am_tc_sI, am_tc_sL, am_tc_sR, am_len_sI, am_len_sL, am_len_sR, am_rfs, if_true, if_false, am_rdL_sI, am_rR_sL, am_rt_cq, am_kd_cq, am_tc_cq, am_len_cq, am_rd_sL, am_rd_sR, am_rdL_sR]
  exact lp
/-- how many of a set are rivals of one -/
theorem q_b8_cn (k : q_Bk) (m fr q : Nat) (hn : B_b k ≤ 8) (hfr : fr ≤ B_b k) (hz : ∀ x, x < fr → m.testBit x = false) (hz2 : ∀ x, B_b k ≤ x → m.testBit x = false) : q_b8 (m &&& q_msr (fun y => decide (q ≤ B_need k y)) (B_b k - fr) fr 0) = B_cn k m.testBit q (B_b k - fr) fr := by
  have tb : ∀ x, (m &&& q_msr (fun y => decide (q ≤ B_need k y)) (B_b k - fr) fr 0).testBit x = (m.testBit x && decide (q ≤ B_need k x)) := fun x => by
    rw [Nat.testBit_and, q_msr_tb, Nat.zero_testBit, Bool.false_or]
    by_cases c : fr ≤ x ∧ x < fr + (B_b k - fr)
    · rw [decide_eq_true c, Bool.true_and]
    · have : m.testBit x = false := by
        by_cases c1 : x < fr
        · exact hz x c1
        · exact hz2 x (by omega)
      rw [this, Bool.false_and, Bool.false_and]
  have e8 : B_cn k m.testBit q 8 0 = B_cn k m.testBit q (B_b k - fr) fr := by
    unfold B_cn
    have h1 := q_su_add (fun x => if (m.testBit x && decide (q ≤ B_need k x)) = true then 1 else 0) fr (8 - fr) 0
    rw [show fr + (8 - fr) = 8 by omega, Nat.zero_add] at h1
    have h2 := q_su_add (fun x => if (m.testBit x && decide (q ≤ B_need k x)) = true then 1 else 0) (B_b k - fr) (8 - B_b k) fr
    rw [show B_b k - fr + (8 - B_b k) = 8 - fr by omega] at h2
    rw [h1, h2, q_su_z fr 0 (fun d _ hd => by rw [hz d (by omega)]; rfl), q_su_z (8 - B_b k) _ (fun d hd _ => by rw [hz2 d (by omega)]; rfl), Nat.zero_add, Nat.add_zero]
  rw [← e8]
  have bn : ∀ b : Bool, b.toNat = if b = true then 1 else 0 := fun b => by cases b <;> rfl
  unfold q_b8
  simp only [tb, bn]
  show _ = q_su (fun x => if (m.testBit x && decide (q ≤ B_need k x)) = true then 1 else 0) 8 0
  simp only [q_su, Nat.zero_add, Nat.reduceAdd]
  omega
def q_hlB (k : q_Bk) (t : Nat → Nat) (m fr : Nat) : Nat → Nat → Bool
  | 0, _ => true
  | r + 1, x => decide (B_cn k m.testBit (B_need k x) (B_b k - fr) fr ≤ B_R k t (B_need k x)) && q_hlB k t m fr r (x + 1)
theorem q_hlB_iff (k : q_Bk) (t : Nat → Nat) (m fr : Nat) : ∀ r x, q_hlB k t m fr r x = true ↔ ∀ y, x ≤ y → y < x + r → B_cn k m.testBit (B_need k y) (B_b k - fr) fr ≤ B_R k t (B_need k y) := by
  intro r
  induction r with
  | zero => intro x; exact ⟨fun _ y h1 h2 => by omega, fun _ => rfl⟩
  | succ r ih =>
    intro x
    rw [q_hlB, Bool.and_eq_true, decide_eq_true_eq, ih]
    constructor
    · intro ⟨h1, h2⟩ y y1 y2
      by_cases c : y = x
      · rw [c]; exact h1
      · exact h2 y (by omega) (by omega)
    · intro w
      exact ⟨w x (Nat.le_refl _) (by omega), fun y y1 y2 => w y (by omega) (by omega)⟩
theorem B_R_le {k : q_Bk} (bk : B_ok k) {t : Nat → Nat} (ht : ∀ d, d < B_d k → t d ≤ 3) (q : Nat) : B_R k t q ≤ 15 := by
  have := q_su_le (g := fun d => if q ≤ B_eye k d then t d else 0) 3 (B_d k) 0 (fun d _ hd => by
    show (if q ≤ B_eye k d then t d else 0) ≤ 3
    split
    · exact ht d (by omega)
    · omega)
  have := bk.1
  unfold B_R
  omega
theorem q_cd_l (o : Nat) (k : q_Bk) (bk : B_ok k) (t : Nat → Nat) (m : Nat) (hm : m < 256) (fr : Nat) (hfr : fr ≤ B_b k) (hz : ∀ x, x < fr → m.testBit x = false) (hz2 : ∀ x, B_b k ≤ x → m.testBit x = false) (h : am_H) (cb : q_cb h o k t) (wg : q_wgd h k t fr (B_b k)) : ∀ (r b : Nat), b + r = B_b k → fr ≤ b → am_ev 133 3 [some (.ref 205), some (.ref o), some (.int (nI fr)), some (.int (nI m)), some (.int (nI b))] [] h = some (some (.int (q_bi (q_hlB k t m fr r b))), h) := by
  have b8 := bk.2.1
  have ht : ∀ d, d < B_d k → t d ≤ 3 := fun d hd => (cb.2.2.2.1 d hd).2
  have ok := cb.1
  have p1 := cb.2.1.1
  have c1 := cb.2.2.1.2.1
  intro r
  induction r with
  | zero =>
    intro b hb hf
    obtain rfl : b = B_b k := by omega
    have h1 : nI (B_b k) ≤ nI (B_b k) := Int32.le_refl _
    rw [e133_3]
    simp only [e133_0, e133_1, e133_5, e133_6, e133_9, e133_12, e133_13, e133_14, e133_17, e133_19, e133_20, e133_21, e133_24, e133_25, e133_28, e133_30, e133_31, e133_34, e133_35, e133_36, e133_39, e133_42, e133_43, am_bd_some, Option.toList_some, Option.toList_none, List.cons_append, List.nil_append, am_w8_0, am_w8_1, am_w8_2, am_w8_3, am_w8_4, eq_self, or_true, true_or, am_kd_sI, am_kd_sL, am_kd_sR, am_tc_sI, am_tc_sL, am_tc_sR, am_len_sI, am_len_sL, am_len_sR, am_rfs, if_true, if_false, am_rdL_sI, am_rR_sL, am_rt_cq, am_kd_cq, am_tc_cq, am_len_cq, am_rd_sL, am_rd_sR, am_rdL_sR, p1, c1, h1, q_hlB]
    rfl
  | succ r ih =>
    intro b hb hf
    have h1 : ¬ nI (B_b k) ≤ nI b := nI_ge (by omega) (by omega)
    have x : am_ix (nI b) 8 = true := am_ix_nI (by omega) (by decide)
    have z : (nI b).toNatClampNeg = b := nI_clamp (by omega)
    obtain ⟨v1, v2⟩ := wg b hf (by omega)
    have ml : m &&& q_msr (fun y => decide (B_need k b ≤ B_need k y)) (B_b k - fr) fr 0 < 256 := Nat.lt_of_le_of_lt Nat.and_le_left hm
    have bc := den_ibc _ ml h
    rw [q_b8_cn k m fr (B_need k b) b8 hfr hz hz2] at bc
    have cl : B_cn k m.testBit (B_need k b) (B_b k - fr) fr ≤ 1 * (B_b k - fr) := q_su_le 1 _ _ (fun d _ _ => by
      show (if (m.testBit d && decide (B_need k b ≤ B_need k d)) = true then 1 else 0) ≤ 1
      split <;> omega)
    have rl := B_R_le bk ht (B_need k b)
    have cm : nI (B_cn k m.testBit (B_need k b) (B_b k - fr) fr) ≤ nI (B_R k t (B_need k b)) ↔ B_cn k m.testBit (B_need k b) (B_b k - fr) fr ≤ B_R k t (B_need k b) := nI_leI (by omega) (by omega)
    rw [e133_3, q_hlB]
    by_cases c : B_cn k m.testBit (B_need k b) (B_b k - fr) fr ≤ B_R k t (B_need k b)
    · have c' := cm.mpr c
      rw [decide_eq_true c, Bool.true_and]
      simp only [e133_0, e133_1, e133_5, e133_6, e133_9, e133_12, e133_13, e133_14, e133_17, e133_19, e133_20, e133_21, e133_24, e133_25, e133_28, e133_30, e133_31, e133_34, e133_35, e133_36, e133_39, e133_42, e133_43, am_bd_some, Option.toList_some, Option.toList_none, List.cons_append, List.nil_append, am_w8_0, am_w8_1, am_w8_2, am_w8_3, am_w8_4, eq_self, or_true, true_or, am_kd_sI, am_kd_sL, am_kd_sR, am_tc_sI, am_tc_sL, am_tc_sR, am_len_sI, am_len_sL, am_len_sR, am_rfs, if_true, if_false, am_rdL_sI, am_rR_sL, am_rt_cq, am_kd_cq, am_tc_cq, am_len_cq, am_rd_sL, am_rd_sR, am_rdL_sR, p1, c1, h1, okK_205 ok, okR_205_2 ok, okR_205_3 ok, okT_208 ok, okL_208 ok, okT_209 ok, okL_209 ok, x, z, v1, v2, q_andI, bc, c', nI_1]
      exact ih (b + 1) (by omega) (by omega)
    · have c' : ¬ nI (B_cn k m.testBit (B_need k b) (B_b k - fr) fr) ≤ nI (B_R k t (B_need k b)) := fun w => c (cm.mp w)
      rw [decide_eq_false c, Bool.false_and]
      simp only [e133_0, e133_1, e133_5, e133_6, e133_9, e133_12, e133_13, e133_14, e133_17, e133_19, e133_20, e133_21, e133_24, e133_25, e133_28, e133_30, e133_31, e133_34, e133_35, e133_36, e133_39, e133_42, e133_43, am_bd_some, Option.toList_some, Option.toList_none, List.cons_append, List.nil_append, am_w8_0, am_w8_1, am_w8_2, am_w8_3, am_w8_4, eq_self, or_true, true_or, am_kd_sI, am_kd_sL, am_kd_sR, am_tc_sI, am_tc_sL, am_tc_sR, am_len_sI, am_len_sL, am_len_sR, am_rfs, if_true, if_false, am_rdL_sI, am_rR_sL, am_rt_cq, am_kd_cq, am_tc_cq, am_len_cq, am_rd_sL, am_rd_sR, am_rdL_sR, p1, c1, h1, okK_205 ok, okR_205_2 ok, okR_205_3 ok, okT_208 ok, okL_208 ok, okT_209 ok, okL_209 ok, x, z, v1, v2, q_andI, bc, c']
      rfl
theorem den_cbd (o : Nat) (k : q_Bk) (bk : B_ok k) (t : Nat → Nat) (m : Nat) (hm : m < 256) (fr : Nat) (hfr : fr ≤ B_b k) (hz : ∀ x, x < fr → m.testBit x = false) (hz2 : ∀ x, B_b k ≤ x → m.testBit x = false) (h : am_H) (cb : q_cb h o k t) (wg : q_wgd h k t fr (B_b k)) : am_den 133 [.ref 205, .ref o, .int (nI fr), .int (nI m)] h = some (some (.int (q_bi (q_hlB k t m fr (B_b k - fr) fr))), h) := by
  have lp := q_cd_l o k bk t m hm fr hfr hz hz2 h cb wg (B_b k - fr) fr (by omega) (Nat.le_refl _)
  show am_ev 133 0 [some (.ref 205), some (.ref o), some (.int (nI fr)), some (.int (nI m)), none] [] h = _
  simp only [e133_0, e133_1, e133_5, e133_6, e133_9, e133_12, e133_13, e133_14, e133_17, e133_19, e133_20, e133_21, e133_24, e133_25, e133_28, e133_30, e133_31, e133_34, e133_35, e133_36, e133_39, e133_42, e133_43, am_bd_some, Option.toList_some, Option.toList_none, List.cons_append, List.nil_append, am_w8_0, am_w8_1, am_w8_2, am_w8_3, am_w8_4, eq_self, or_true, true_or, am_kd_sI, am_kd_sL, am_kd_sR, am_tc_sI, am_tc_sL, am_tc_sR, am_len_sI, am_len_sL, am_len_sR, am_rfs, if_true, if_false, am_rdL_sI, am_rR_sL, am_rt_cq, am_kd_cq, am_tc_cq, am_len_cq, am_rd_sL, am_rd_sR, am_rdL_sR]
  exact lp
theorem B_wo_le {k : q_Bk} (bk : B_ok k) (S : Nat → Bool) (fr : Nat) (hfr : fr ≤ B_b k) : B_wo k S (B_b k - fr) fr ≤ 99 * (B_b k - fr) := q_su_le 99 _ _ (fun d h1 h2 => by
  show (if S d = true then B_worth k d else 0) ≤ 99
  split
  · exact (bk.2.2.2.2.1 d (by omega)).2
  · omega)
theorem q_amt32 : ∀ x, x < 32 → ((nI x &&& 31).toBitVec.smod 32).toNat = x := by decide +kernel
theorem q_shfr (s fr n : Nat) (hs : s < 2 ^ n) (hn : n + fr ≤ 8) : nI s <<< (nI fr &&& 31) = nI (s * 2 ^ fr) ∧ s * 2 ^ fr < 256 ∧ (∀ x, x < fr → (s * 2 ^ fr).testBit x = false) ∧ (∀ x, fr + n ≤ x → (s * 2 ^ fr).testBit x = false) ∧ ∀ x, fr ≤ x → (s * 2 ^ fr).testBit x = s.testBit (x - fr) := by
  have tb : ∀ x, (s * 2 ^ fr).testBit x = (decide (fr ≤ x) && s.testBit (x - fr)) := fun x => by
    rw [Nat.testBit_mul_two_pow]
  have l1 : s * 2 ^ fr < 2 ^ n * 2 ^ fr := Nat.mul_lt_mul_of_pos_right hs (Nat.two_pow_pos fr)
  rw [← Nat.pow_add] at l1
  have l2 : (2 : Nat) ^ (n + fr) ≤ 2 ^ 8 := Nat.pow_le_pow_right (by decide) hn
  refine ⟨pk_shlN _ fr (q_amt32 fr (by omega)) (by omega), by omega, fun x hx => ?_, fun x hx => ?_, fun x hx => ?_⟩
  · rw [tb, decide_eq_false (by omega), Bool.false_and]
  · rw [tb, Nat.testBit_lt_two_pow (Nat.lt_of_lt_of_le hs (Nat.pow_le_pow_right (by decide) (show n ≤ x - fr by omega))), Bool.and_false]
  · rw [tb, decide_eq_true hx, Bool.true_and]
theorem q_sets : ∀ n, n < 9 → ∀ f, f < 9 → f ≤ n → ((1 : Int32) <<< ((nI n - nI f) &&& 31) = nI (2 ^ (n - f))) := by decide +kernel
theorem q_mf_l (o : Nat) (k : q_Bk) (bk : B_ok k) (t : Nat → Nat) (fr : Nat) (hfr : fr ≤ B_b k) (h : am_H) (cb : q_cb h o k t) (wg : q_wgd h k t fr (B_b k)) : ∀ (r s most : Nat) (z6 z7 : Option Value), s + r = 2 ^ (B_b k - fr) → most ≤ B_V k (B_b k - fr) fr t → (∀ s', s' < s → B_hl k (s' * 2 ^ fr).testBit (B_b k - fr) fr t → B_wo k (s' * 2 ^ fr).testBit (B_b k - fr) fr ≤ most) → am_ev 130 21 [some (.ref 205), some (.ref o), some (.int (nI fr)), some (.int (nI most)), some (.int (nI (2 ^ (B_b k - fr)))), some (.int (nI s)), z6, z7] [] h = some (some (.int (nI (B_V k (B_b k - fr) fr t))), h) := by
  have b8 := bk.2.1
  have ok := cb.1
  have pw : (2 : Nat) ^ (B_b k - fr) ≤ 2 ^ 8 := Nat.pow_le_pow_right (by decide) (by omega)
  have Vl : B_V k (B_b k - fr) fr t ≤ 99 * (B_b k - fr) := by
    obtain ⟨S, _, s2, _⟩ := B_L2 k (B_b k - fr) fr t
    rw [← s2]
    exact B_wo_le bk S fr hfr
  intro r
  induction r with
  | zero =>
    intro s most z6 z7 hs hm all
    obtain rfl : s = 2 ^ (B_b k - fr) := by omega
    have h1 : nI (2 ^ (B_b k - fr)) ≤ nI (2 ^ (B_b k - fr)) := Int32.le_refl _
    have e : most = B_V k (B_b k - fr) fr t := by
      obtain ⟨S, s1, s2, s3⟩ := B_L2 k (B_b k - fr) fr t
      have lt := q_msk_lt (fun y => S (y + fr)) (B_b k - fr)
      obtain ⟨-, -, -, -, tb⟩ := q_shfr (q_msk (fun y => S (y + fr)) (B_b k - fr)) fr (B_b k - fr) lt (by omega)
      have es : ∀ x, fr ≤ x → x < fr + (B_b k - fr) → (q_msk (fun y => S (y + fr)) (B_b k - fr) * 2 ^ fr).testBit x = S x := fun x x1 x2 => by
        rw [tb x x1, q_msk_tb, decide_eq_true (by omega), Bool.true_and, show x - fr + fr = x by omega]
      have hl : B_hl k (q_msk (fun y => S (y + fr)) (B_b k - fr) * 2 ^ fr).testBit (B_b k - fr) fr t := fun q => by
        have : B_cn k (q_msk (fun y => S (y + fr)) (B_b k - fr) * 2 ^ fr).testBit q (B_b k - fr) fr = B_cn k S q (B_b k - fr) fr := q_su_cg _ _ (fun x x1 x2 => by rw [es x x1 x2])
        rw [this]
        exact s1 q
      have hw : B_wo k (q_msk (fun y => S (y + fr)) (B_b k - fr) * 2 ^ fr).testBit (B_b k - fr) fr = B_wo k S (B_b k - fr) fr := q_su_cg _ _ (fun x x1 x2 => by rw [es x x1 x2])
      have := all _ lt hl
      rw [hw, s2] at this
      omega
    rw [e, e130_21]
    simp only [e130_0, e130_1, e130_2, e130_3, e130_6, e130_7, e130_8, e130_9, e130_10, e130_13, e130_14, e130_15, e130_16, e130_18, e130_19, e130_23, e130_25, e130_28, e130_30, e130_31, e130_32, e130_34, e130_35, e130_37, e130_40, e130_42, e130_44, e130_45, e130_48, e130_49, e130_50, e130_51, e130_53, e130_56, e130_59, e130_61, e130_62, e130_65, e130_68, e130_69, am_bd_some, Option.toList_some, Option.toList_none, List.cons_append, List.nil_append, am_w8_0, am_w8_1, am_w8_2, am_w8_3, am_w8_4, eq_self, or_true, true_or, am_kd_sI, am_kd_sL, am_kd_sR, am_tc_sI, am_tc_sL, am_tc_sR, am_len_sI, am_len_sL, am_len_sR, am_rfs, if_true, if_false, am_rdL_sI, am_rR_sL, am_rt_cq, am_kd_cq, am_tc_cq, am_len_cq, am_rd_sL, am_rd_sR, am_rdL_sR, h1]
  | succ r ih =>
    intro s most z6 z7 hs hm all
    have h1 : ¬ nI (2 ^ (B_b k - fr)) ≤ nI s := nI_ge (by omega) (by omega)
    obtain ⟨sh, sl, z1, z2, -⟩ := q_shfr s fr (B_b k - fr) (by omega) (by omega)
    have z2' : ∀ x, B_b k ≤ x → (s * 2 ^ fr).testBit x = false := fun x hx => z2 x (by omega)
    have dw := den_worthOf o k bk t (s * 2 ^ fr) sl h cb fr hfr z1
    have dc := den_cbd o k bk t (s * 2 ^ fr) sl fr hfr z1 z2' h cb wg
    have wl := B_wo_le bk (s * 2 ^ fr).testBit fr hfr
    have cm : nI (B_wo k (s * 2 ^ fr).testBit (B_b k - fr) fr) ≤ nI most ↔ B_wo k (s * 2 ^ fr).testBit (B_b k - fr) fr ≤ most := nI_leI (by omega) (by omega)
    have hiff := q_hlB_iff k t (s * 2 ^ fr) fr (B_b k - fr) fr
    rw [e130_21]
    by_cases c : B_wo k (s * 2 ^ fr).testBit (B_b k - fr) fr ≤ most
    · have c' := cm.mpr c
      simp only [e130_0, e130_1, e130_2, e130_3, e130_6, e130_7, e130_8, e130_9, e130_10, e130_13, e130_14, e130_15, e130_16, e130_18, e130_19, e130_23, e130_25, e130_28, e130_30, e130_31, e130_32, e130_34, e130_35, e130_37, e130_40, e130_42, e130_44, e130_45, e130_48, e130_49, e130_50, e130_51, e130_53, e130_56, e130_59, e130_61, e130_62, e130_65, e130_68, e130_69, am_bd_some, Option.toList_some, Option.toList_none, List.cons_append, List.nil_append, am_w8_0, am_w8_1, am_w8_2, am_w8_3, am_w8_4, eq_self, or_true, true_or, am_kd_sI, am_kd_sL, am_kd_sR, am_tc_sI, am_tc_sL, am_tc_sR, am_len_sI, am_len_sL, am_len_sR, am_rfs, if_true, if_false, am_rdL_sI, am_rR_sL, am_rt_cq, am_kd_cq, am_tc_cq, am_len_cq, am_rd_sL, am_rd_sR, am_rdL_sR, h1, sh, dw, c', nI_1]
      exact ih (s + 1) most _ _ (by omega) hm (fun s' hs' hl => by
        by_cases e : s' = s
        · rw [e]; exact c
        · exact all s' (by omega) hl)
    · have c' : ¬ nI (B_wo k (s * 2 ^ fr).testBit (B_b k - fr) fr) ≤ nI most := fun w => c (cm.mp w)
      cases hb : q_hlB k t (s * 2 ^ fr) fr (B_b k - fr) fr with
      | true =>
        rw [hb] at dc
        have y : ¬ q_bi true = 0 := by decide
        have hl := B_hl_of (hiff.mp hb)
        have l1 := B_L1 bk.1 _ _ t _ hl
        simp only [e130_0, e130_1, e130_2, e130_3, e130_6, e130_7, e130_8, e130_9, e130_10, e130_13, e130_14, e130_15, e130_16, e130_18, e130_19, e130_23, e130_25, e130_28, e130_30, e130_31, e130_32, e130_34, e130_35, e130_37, e130_40, e130_42, e130_44, e130_45, e130_48, e130_49, e130_50, e130_51, e130_53, e130_56, e130_59, e130_61, e130_62, e130_65, e130_68, e130_69, am_bd_some, Option.toList_some, Option.toList_none, List.cons_append, List.nil_append, am_w8_0, am_w8_1, am_w8_2, am_w8_3, am_w8_4, eq_self, or_true, true_or, am_kd_sI, am_kd_sL, am_kd_sR, am_tc_sI, am_tc_sL, am_tc_sR, am_len_sI, am_len_sL, am_len_sR, am_rfs, if_true, if_false, am_rdL_sI, am_rR_sL, am_rt_cq, am_kd_cq, am_tc_cq, am_len_cq, am_rd_sL, am_rd_sR, am_rdL_sR, h1, sh, dw, c', okK_205 ok, dc, y, nI_1]
        exact ih (s + 1) _ _ _ (by omega) l1 (fun s' hs' hl' => by
          by_cases e : s' = s
          · rw [e]; exact Nat.le_refl _
          · have := all s' (by omega) hl'; omega)
      | false =>
        rw [hb] at dc
        have y : q_bi false = 0 := rfl
        simp only [e130_0, e130_1, e130_2, e130_3, e130_6, e130_7, e130_8, e130_9, e130_10, e130_13, e130_14, e130_15, e130_16, e130_18, e130_19, e130_23, e130_25, e130_28, e130_30, e130_31, e130_32, e130_34, e130_35, e130_37, e130_40, e130_42, e130_44, e130_45, e130_48, e130_49, e130_50, e130_51, e130_53, e130_56, e130_59, e130_61, e130_62, e130_65, e130_68, e130_69, am_bd_some, Option.toList_some, Option.toList_none, List.cons_append, List.nil_append, am_w8_0, am_w8_1, am_w8_2, am_w8_3, am_w8_4, eq_self, or_true, true_or, am_kd_sI, am_kd_sL, am_kd_sR, am_tc_sI, am_tc_sL, am_tc_sR, am_len_sI, am_len_sL, am_len_sR, am_rfs, if_true, if_false, am_rdL_sI, am_rR_sL, am_rt_cq, am_kd_cq, am_tc_cq, am_len_cq, am_rd_sL, am_rd_sR, am_rdL_sR, h1, sh, dw, c', okK_205 ok, dc, y, nI_1]
        exact ih (s + 1) most _ _ (by omega) hm (fun s' hs' hl => by
          by_cases e : s' = s
          · exfalso
            rw [e] at hl
            have := hiff.mpr (fun y _ _ => hl (B_need k y))
            rw [hb] at this
            cases this
          · exact all s' (by omega) hl)
theorem den_mostFrom (o : Nat) (k : q_Bk) (bk : B_ok k) (t : Nat → Nat) (fr : Nat) (hfr : fr ≤ B_b k) (h : am_H) (cb : q_cb h o k t) : ∃ h' : am_H, q_rrw h h' ∧ am_den 130 [.ref 205, .ref o, .int (nI fr)] h = some (some (.int (nI (B_V k (B_b k - fr) fr t))), h') := by
  have b8 := bk.2.1
  have ok := cb.1
  obtain ⟨h1, f1, w1, s1⟩ := den_weigh o k bk t fr hfr h cb
  have cb1 := f1.cb cb
  have lp := q_mf_l o k bk t fr hfr h1 cb1 w1 (2 ^ (B_b k - fr)) 0 0 none none (by omega) (Nat.zero_le _) (fun s' h => absurd h (Nat.not_lt_zero _))
  rw [nI_0] at lp
  have st := q_sets (B_b k) (by omega) fr (by omega) hfr
  refine ⟨h1, f1, ?_⟩
  show am_ev 130 0 [some (.ref 205), some (.ref o), some (.int (nI fr)), none, none, none, none, none] [] h = _
  simp only [e130_0, e130_1, e130_2, e130_3, e130_6, e130_7, e130_8, e130_9, e130_10, e130_13, e130_14, e130_15, e130_16, e130_18, e130_19, e130_23, e130_25, e130_28, e130_30, e130_31, e130_32, e130_34, e130_35, e130_37, e130_40, e130_42, e130_44, e130_45, e130_48, e130_49, e130_50, e130_51, e130_53, e130_56, e130_59, e130_61, e130_62, e130_65, e130_68, e130_69, am_bd_some, Option.toList_some, Option.toList_none, List.cons_append, List.nil_append, am_w8_0, am_w8_1, am_w8_2, am_w8_3, am_w8_4, eq_self, or_true, true_or, am_kd_sI, am_kd_sL, am_kd_sR, am_tc_sI, am_tc_sL, am_tc_sR, am_len_sI, am_len_sL, am_len_sR, am_rfs, if_true, if_false, am_rdL_sI, am_rR_sL, am_rt_cq, am_kd_cq, am_tc_cq, am_len_cq, am_rd_sL, am_rd_sR, am_rdL_sR, okK_205 ok, s1, cb1.2.1.1, cb1.2.2.1.2.1, st]
  exact lp
