/-! part 91: the class: the row of dogs -/
def B_cd (k : q_Bk) (r b : Nat) (t : Nat → Nat) (d : Nat) : Bool := B_mayB k t b d && decide (B_worth k b + B_V k r (b + 1) (B_dec t d) = B_V k (r + 1) b t)
def B_who (k : q_Bk) (r b : Nat) (t : Nat → Nat) : Nat := (q_first (B_cd k r b t) 5 0).getD 5
def B_nt (k : q_Bk) (r b : Nat) (t : Nat → Nat) : Nat → Nat := if B_who k r b t < 5 then B_dec t (B_who k r b t) else t
theorem B_who_le (k : q_Bk) (r b : Nat) (t : Nat → Nat) : B_who k r b t ≤ 5 := by
  unfold B_who
  cases h : q_first (B_cd k r b t) 5 0 with
  | none => exact Nat.le_refl _
  | some d => have := (q_first_lt _ _ _ _ h).2.1; show d ≤ 5; omega
theorem B_who_some {k : q_Bk} {r b : Nat} {t : Nat → Nat} (h : B_who k r b t < 5) : B_cd k r b t (B_who k r b t) = true := by
  unfold B_who at h ⊢
  cases hq : q_first (B_cd k r b t) 5 0 with
  | none => rw [hq] at h; exact absurd h (by decide)
  | some d => exact (q_first_lt _ _ _ _ hq).2.2
theorem q_first_none {P : Nat → Bool} : ∀ r i, q_first P r i = none → ∀ d, i ≤ d → d < i + r → P d = false := by
  intro r
  induction r with
  | zero => intro i _ d h1 h2; omega
  | succ r ih =>
    intro i h d h1 h2
    rw [q_first] at h
    split at h
    · cases h
    · rename_i c
      by_cases e : d = i
      · rw [e]; cases hp : P i <;> simp_all
      · exact ih (i + 1) h d (by omega) (by omega)
theorem B_next (k : q_Bk) (r b : Nat) (t : Nat → Nat) : B_V k (r + 1) b t = (if B_who k r b t < 5 then B_worth k b else 0) + B_V k r (b + 1) (B_nt k r b t) := by
  unfold B_nt
  by_cases c : B_who k r b t < 5
  · rw [if_pos c, if_pos c]
    have := B_who_some c
    unfold B_cd at this
    rw [Bool.and_eq_true, decide_eq_true_eq] at this
    exact this.2.symm
  · rw [if_neg c, if_neg c, Nat.zero_add]
    have hn : q_first (B_cd k r b t) 5 0 = none := by
      unfold B_who at c
      cases hq : q_first (B_cd k r b t) 5 0 with
      | none => rfl
      | some d =>
        rw [hq] at c
        have := (q_first_lt _ _ _ _ hq).2.1
        exact absurd (show d < 5 by omega) c
    rcases q_mxd_cases (fun d => if B_mayB k t b d = true then B_worth k b + B_V k r (b + 1) (B_dec t d) else 0) 5 0 (B_V k r (b + 1) t) with e | ⟨d, h1, h2, e⟩
    · exact e
    · have e' : B_V k (r + 1) b t = if B_mayB k t b d = true then B_worth k b + B_V k r (b + 1) (B_dec t d) else 0 := e
      have cf := q_first_none 5 0 hn d h1 h2
      by_cases m : B_mayB k t b d = true
      · rw [if_pos m] at e'
        unfold B_cd at cf
        rw [m, Bool.true_and, decide_eq_false_iff_not] at cf
        exact absurd e'.symm cf
      · rw [if_neg m] at e'
        have : B_V k r (b + 1) t ≤ B_V k (r + 1) b t := q_mxd_ge _ 5 0 _
        omega
def B_T (k : q_Bk) (t0 : Nat → Nat) : Nat → Nat → Nat
  | 0 => t0
  | b + 1 => B_nt k (B_b k - (b + 1)) b (B_T k t0 b)
def B_W (k : q_Bk) (t0 : Nat → Nat) (b : Nat) : Nat := B_who k (B_b k - (b + 1)) b (B_T k t0 b)
theorem B_V_le {k : q_Bk} (bk : B_ok k) (fr : Nat) (hfr : fr ≤ B_b k) (t : Nat → Nat) : B_V k (B_b k - fr) fr t ≤ 99 * (B_b k - fr) := by
  obtain ⟨S, _, s2, _⟩ := B_L2 k (B_b k - fr) fr t
  rw [← s2]
  exact B_wo_le bk S fr hfr
def q_asw (b : Nat) (h h' : am_H) : Prop := h'.2 = h.2 ∧ ∀ a j, a ≠ 207 → a ≠ 208 → a ≠ 209 → ¬ (a = 206 ∧ j = b) → h'.1 a j = h.1 a j
theorem q_asw.tr {b : Nat} {h h' h'' : am_H} (x : q_asw b h h') (y : q_asw b h' h'') : q_asw b h h'' := ⟨y.1.trans x.1, fun a j p1 p2 p3 p4 => (y.2 a j p1 p2 p3 p4).trans (x.2 a j p1 p2 p3 p4)⟩
theorem q_rrw.asw {h h' : am_H} (f : q_rrw h h') (b : Nat) : q_asw b h h' := ⟨f.1, fun a j _ p2 p3 _ => f.2 a j p2 p3⟩
theorem q_cb.turn {h : am_H} {o : Nat} {k : q_Bk} {t : Nat → Nat} (c : q_cb h o k t) (d v : Nat) (hv : v ≤ 3) : q_cb (am_sI h 207 d (nI v)) o k (q_up t d v) := by
  obtain ⟨ok, bo, ⟨c0, c1, c2, c3, c4, c5⟩, ct, ho⟩ := c
  have f : ∀ a j, a < 178 → (am_sI h 207 d (nI v)).1 a j = h.1 a j := fun a j w => by rw [am_rd_sI, if_neg (by omega)]
  refine ⟨ok, bo, ⟨?_, ?_, ?_, fun j hj => ?_, fun j hj => ?_, fun j hj => ?_⟩, fun e he => ?_, ho⟩
  · rw [f _ _ (by omega)]; exact c0
  · rw [f _ _ (by omega)]; exact c1
  · rw [f _ _ (by omega)]; exact c2
  · rw [f _ _ (by omega), f _ _ (by omega)]; exact c3 j hj
  · rw [f _ _ (by omega), f _ _ (by omega)]; exact c4 j hj
  · rw [f _ _ (by omega)]; exact c5 j hj
  · unfold q_up
    rw [am_rd_sI]
    by_cases w : e = d
    · rw [if_pos ⟨rfl, w⟩, if_pos w]
      exact ⟨rfl, hv⟩
    · rw [if_neg (fun q => w q.2), if_neg w]
      exact ct e he
theorem q_cb.tcg {h : am_H} {o : Nat} {k : q_Bk} {t t' : Nat → Nat} (c : q_cb h o k t) (e : ∀ d, d < B_d k → t d = t' d) : q_cb h o k t' := ⟨c.1, c.2.1, c.2.2.1, fun d hd => by rw [← e d hd]; exact c.2.2.2.1 d hd, c.2.2.2.2⟩
theorem q_as_i (o : Nat) (k : q_Bk) (bk : B_ok k) (b : Nat) (hb : b < B_b k) (t : Nat → Nat) : ∀ (r d : Nat) (h : am_H), d + r = B_d k → q_cb h o k t → h.1 206 b = 5 → (∀ e, e < d → B_cd k (B_b k - (b + 1)) b t e = false) → ∃ (h' : am_H) (x : Int32), q_asw b h h' ∧ q_cb h' o k (B_nt k (B_b k - (b + 1)) b t) ∧ h'.1 206 b = nI (B_who k (B_b k - (b + 1)) b t) ∧ am_ev 135 27 [some (.ref 205), some (.ref o), some (.int (nI (B_V k (B_b k - b) b t))), some (.int (nI b)), some (.int (nI d))] [] h = am_ev 135 143 [some (.ref 205), some (.ref o), some (.int (nI (B_V k (B_b k - (b + 1)) (b + 1) (B_nt k (B_b k - (b + 1)) b t)))), some (.int (nI b)), some (.int x)] [] h' := by
  have bk0 := bk
  obtain ⟨d5, b8, -, bd, bb, -⟩ := bk
  have xb : am_ix (nI b) 8 = true := am_ix_nI (by omega) (by decide)
  have zb : (nI b).toNatClampNeg = b := nI_clamp (by omega)
  have nxt := B_next k (B_b k - (b + 1)) b t
  have eb : B_b k - (b + 1) + 1 = B_b k - b := by omega
  rw [eb] at nxt
  have Vl := B_V_le bk0 b (by omega) t
  intro r
  induction r with
  | zero =>
    intro d h hd cb r5 all
    have cb0 := cb
    obtain ⟨ok, bo, ⟨c0, c1, c2, c3, c4, c5⟩, ct, ho⟩ := cb
    obtain rfl : d = B_d k := by omega
    have h1 : nI (B_d k) ≤ nI (B_d k) := Int32.le_refl _
    have hn : q_first (B_cd k (B_b k - (b + 1)) b t) 5 0 = none := by
      cases hq : q_first (B_cd k (B_b k - (b + 1)) b t) 5 0 with
      | none => rfl
      | some e =>
        obtain ⟨e1, e2, e3⟩ := q_first_lt _ _ _ _ hq
        by_cases ce : e < B_d k
        · rw [all e ce] at e3; cases e3
        · unfold B_cd at e3
          rw [Bool.and_eq_true] at e3
          exact absurd (B_mayB_iff.mp e3.1).1 ce
    have ew : B_who k (B_b k - (b + 1)) b t = 5 := by unfold B_who; rw [hn]; rfl
    have en : B_nt k (B_b k - (b + 1)) b t = t := by unfold B_nt; rw [ew, if_neg (by decide)]
    rw [ew, if_neg (by decide), Nat.zero_add] at nxt
    refine ⟨h, nI (B_d k), ⟨rfl, fun _ _ _ _ _ _ => rfl⟩, by rw [en]; exact cb0, by rw [ew]; exact r5, ?_⟩
    rw [← nxt, e135_27]
    simp only [e135_0, e135_1, e135_2, e135_3, e135_6, e135_7, e135_8, e135_9, e135_10, e135_11, e135_14, e135_17, e135_18, e135_21, e135_22, e135_23, e135_24, e135_25, e135_29, e135_30, e135_33, e135_36, e135_37, e135_40, e135_41, e135_42, e135_43, e135_46, e135_47, e135_50, e135_52, e135_53, e135_54, e135_57, e135_58, e135_61, e135_63, e135_64, e135_65, e135_68, e135_69, e135_70, e135_73, e135_76, e135_77, e135_80, e135_82, e135_83, e135_84, e135_85, e135_86, e135_87, e135_88, e135_91, e135_92, e135_93, e135_94, e135_95, e135_96, e135_97, e135_98, e135_101, e135_102, e135_103, e135_106, e135_107, e135_110, e135_111, e135_113, e135_114, e135_115, e135_116, e135_119, e135_120, e135_121, e135_122, e135_123, e135_126, e135_127, e135_130, e135_132, e135_133, e135_134, e135_135, e135_136, e135_137, e135_140, e135_146, e135_149, am_bd_some, Option.toList_some, Option.toList_none, List.cons_append, List.nil_append, am_w8_0, am_w8_1, am_w8_2, am_w8_3, am_w8_4, eq_self, or_true, true_or, am_kd_sI, am_kd_sL, am_kd_sR, am_tc_sI, am_tc_sL, am_tc_sR, am_len_sI, am_len_sL, am_len_sR, am_rfs, if_true, if_false, am_rdL_sI, am_rR_sL, am_rt_cq, am_kd_cq, am_tc_cq, am_len_cq, am_rd_sL, am_rd_sR, am_rdL_sR, bo.1, c0, h1]
  | succ r ih =>
    intro d h hd cb r5 all
    have cb0 := cb
    obtain ⟨ok, bo, ⟨c0, c1, c2, c3, c4, c5⟩, ct, ho⟩ := cb
    obtain ⟨p1, p2, p3, p4, p5, p6, p7, p8, p9, p10, -⟩ := bo
    have h1 : ¬ nI (B_d k) ≤ nI d := nI_ge (by omega) (by omega)
    have xd : am_ix (nI d) 5 = true := am_ix_nI (by omega) (by decide)
    have zd : (nI d).toNatClampNeg = d := nI_clamp (by omega)
    have ve := (c3 d (by omega)).1
    obtain ⟨vn, vw⟩ := c4 b hb
    obtain ⟨vt, vl⟩ := ct d (by omega)
    have lw := (bb b hb).2
    have en := (bd d (by omega)).1
    have nn := (bb b hb).1
    have l1 : nI (t d) < 1 ↔ t d < 1 := nI_ltI (b := 1) (by omega) (by decide)
    have l2 : nI (B_need k b) ≤ nI (B_eye k d) ↔ B_need k b ≤ B_eye k d := nI_leI (by omega) (by omega)
    have skip : B_cd k (B_b k - (b + 1)) b t d = false → ∃ (h' : am_H) (x : Int32), q_asw b h h' ∧ q_cb h' o k (B_nt k (B_b k - (b + 1)) b t) ∧ h'.1 206 b = nI (B_who k (B_b k - (b + 1)) b t) ∧ am_ev 135 27 [some (.ref 205), some (.ref o), some (.int (nI (B_V k (B_b k - b) b t))), some (.int (nI b)), some (.int (nI (d + 1)))] [] h = am_ev 135 143 [some (.ref 205), some (.ref o), some (.int (nI (B_V k (B_b k - (b + 1)) (b + 1) (B_nt k (B_b k - (b + 1)) b t)))), some (.int (nI b)), some (.int x)] [] h' := fun hc => ih (d + 1) h (by omega) cb0 r5 (fun e he => by
      by_cases c : e = d
      · rw [c]; exact hc
      · exact all e (by omega))
    rw [e135_27]
    by_cases m1 : t d < 1
    · have m1' := l1.mpr m1
      have hc : B_cd k (B_b k - (b + 1)) b t d = false := by
        cases hq : B_cd k (B_b k - (b + 1)) b t d with
        | false => rfl
        | true =>
          unfold B_cd at hq
          rw [Bool.and_eq_true] at hq
          have := (B_mayB_iff.mp hq.1).2.1
          omega
      obtain ⟨h2, x2, f2, cb2, r2, s2⟩ := skip hc
      refine ⟨h2, x2, f2, cb2, r2, ?_⟩
      simp only [e135_0, e135_1, e135_2, e135_3, e135_6, e135_7, e135_8, e135_9, e135_10, e135_11, e135_14, e135_17, e135_18, e135_21, e135_22, e135_23, e135_24, e135_25, e135_29, e135_30, e135_33, e135_36, e135_37, e135_40, e135_41, e135_42, e135_43, e135_46, e135_47, e135_50, e135_52, e135_53, e135_54, e135_57, e135_58, e135_61, e135_63, e135_64, e135_65, e135_68, e135_69, e135_70, e135_73, e135_76, e135_77, e135_80, e135_82, e135_83, e135_84, e135_85, e135_86, e135_87, e135_88, e135_91, e135_92, e135_93, e135_94, e135_95, e135_96, e135_97, e135_98, e135_101, e135_102, e135_103, e135_106, e135_107, e135_110, e135_111, e135_113, e135_114, e135_115, e135_116, e135_119, e135_120, e135_121, e135_122, e135_123, e135_126, e135_127, e135_130, e135_132, e135_133, e135_134, e135_135, e135_136, e135_137, e135_140, e135_146, e135_149, am_bd_some, Option.toList_some, Option.toList_none, List.cons_append, List.nil_append, am_w8_0, am_w8_1, am_w8_2, am_w8_3, am_w8_4, eq_self, or_true, true_or, am_kd_sI, am_kd_sL, am_kd_sR, am_tc_sI, am_tc_sL, am_tc_sR, am_len_sI, am_len_sL, am_len_sR, am_rfs, if_true, if_false, am_rdL_sI, am_rR_sL, am_rt_cq, am_kd_cq, am_tc_cq, am_len_cq, am_rd_sL, am_rd_sR, am_rdL_sR, p1, c0, h1, okK_205 ok, okR_205_0 ok, okR_205_1 ok, okT_206 ok, okL_206 ok, okT_207 ok, okL_207 ok, xb, zb, xd, zd, r5, not_true, vt, m1', nI_1]
      exact s2
    · have m1' : ¬ nI (t d) < 1 := fun w => m1 (l1.mp w)
      by_cases m2 : B_need k b ≤ B_eye k d
      · have m2' := l2.mpr m2
        have may : B_mayB k t b d = true := B_mayB_iff.mpr ⟨by omega, by omega, m2⟩
        have e1 : nI (t d) - 1 = nI (t d - 1) := pk_sub (b := 1) (by omega)
        have cba : q_cb (am_sI h 207 d (nI (t d - 1))) o k (B_dec t d) := cb0.turn d (t d - 1) (by omega)
        have oka := cba.1
        obtain ⟨hb', fb, sb⟩ := den_mostFrom o k bk0 (B_dec t d) (b + 1) (by omega) _ cba
        have cbb := fb.cb cba
        have okb := cbb.1
        obtain ⟨-, bob, ⟨-, -, -, -, c4b, -⟩, ctb, -⟩ := cbb
        obtain ⟨u1, -, -, -, u5, -, -, -, -, u10, -⟩ := bob
        have vwb := (c4b b hb).2
        have Vl2 := B_V_le bk0 (b + 1) (by omega) (B_dec t d)
        have ceq : nI (B_worth k b + B_V k (B_b k - (b + 1)) (b + 1) (B_dec t d)) = nI (B_V k (B_b k - b) b t) ↔ B_worth k b + B_V k (B_b k - (b + 1)) (b + 1) (B_dec t d) = B_V k (B_b k - b) b t := nI_eq (by omega) (by omega)
        have vwa : (am_sI h 207 d (nI (t d - 1))).1 (o + 4) b = nI (B_worth k b) := by rw [am_rd_sI, if_neg (by omega)]; exact vw
        have r5b : hb'.1 206 b = 5 := by rw [fb.2 206 b (by decide) (by decide), am_rd_sI, if_neg (by omega)]; exact r5
        have fw : q_asw b h hb' := ⟨fb.1, fun a j q1 q2 q3 q4 => by rw [fb.2 a j q2 q3, am_rd_sI, if_neg (fun w => q1 w.1)]⟩
        by_cases ce : B_worth k b + B_V k (B_b k - (b + 1)) (b + 1) (B_dec t d) = B_V k (B_b k - b) b t
        · have ce' := eq_true (ceq.mpr ce)
          have hc : B_cd k (B_b k - (b + 1)) b t d = true := by
            unfold B_cd
            rw [may, Bool.true_and, eb]
            exact decide_eq_true ce
          have hq : q_first (B_cd k (B_b k - (b + 1)) b t) 5 0 = some d := by
            have gen : ∀ r i, i ≤ d → d < i + r → q_first (B_cd k (B_b k - (b + 1)) b t) r i = some d := by
              intro r
              induction r with
              | zero => intro i h1 h2; omega
              | succ r ihr =>
                intro i h1 h2
                rw [q_first]
                by_cases c : i = d
                · rw [c, if_pos hc]
                · rw [if_neg (by rw [all i (by omega)]; decide)]
                  exact ihr (i + 1) (by omega) (by omega)
            exact gen 5 0 (Nat.zero_le _) (by omega)
          have ew : B_who k (B_b k - (b + 1)) b t = d := by unfold B_who; rw [hq]; rfl
          have en' : B_nt k (B_b k - (b + 1)) b t = B_dec t d := by unfold B_nt; rw [ew, if_pos (by omega)]
          have el : nI (B_V k (B_b k - b) b t) - nI (B_worth k b) = nI (B_V k (B_b k - (b + 1)) (b + 1) (B_dec t d)) := by
            rw [pk_sub (by omega)]
            congr 1
            omega
          let hc' : am_H := am_sI hb' 206 b (nI d)
          have okc : am_okH hc' := okb
          have cbc : q_cb hc' o k (B_dec t d) := (fb.cb cba).cg rfl (fun a j w => by
            show (am_sI hb' 206 b (nI d)).1 a j = _
            rw [am_rd_sI, if_neg (by omega)])
          have c0c := cbc.2.2.1.1
          have vwc : (am_sI hb' 206 b (nI d)).1 (o + 4) b = nI (B_worth k b) := (cbc.2.2.1.2.2.2.2.1 b hb).2
          have rc : hc'.1 206 b = nI d := by
            show (am_sI hb' 206 b (nI d)).1 206 b = _
            rw [am_rd_sI, if_pos ⟨rfl, rfl⟩]
          have nd5 : ¬ nI d = 5 := fun w => by have := (nI_eq (b := 5) (by omega) (by decide)).mp w; omega
          refine ⟨hc', nI (d + 1), ⟨fb.1, fun a j q1 q2 q3 q4 => ?_⟩, by rw [en']; exact cbc, by rw [ew]; exact rc, ?_⟩
          · show (am_sI hb' 206 b (nI d)).1 a j = _
            rw [am_rd_sI, if_neg q4]
            exact fw.2 a j q1 q2 q3 q4
          · rw [en']
            have s1 : am_ev 135 29 [some (.ref 205), some (.ref o), some (.int (nI (B_V k (B_b k - b) b t))), some (.int (nI b)), some (.int (nI d))] [.int (nI d)] h = am_ev 135 87 [some (.ref 205), some (.ref o), some (.int (nI (B_V k (B_b k - b) b t))), some (.int (nI b)), some (.int (nI d))] [] (am_sI h 207 d (nI (t d - 1))) := by
              simp only [e135_0, e135_1, e135_2, e135_3, e135_6, e135_7, e135_8, e135_9, e135_10, e135_11, e135_14, e135_17, e135_18, e135_21, e135_22, e135_23, e135_24, e135_25, e135_29, e135_30, e135_33, e135_36, e135_37, e135_40, e135_41, e135_42, e135_43, e135_46, e135_47, e135_50, e135_52, e135_53, e135_54, e135_57, e135_58, e135_61, e135_63, e135_64, e135_65, e135_68, e135_69, e135_70, e135_73, e135_76, e135_77, e135_80, e135_82, e135_83, e135_84, e135_85, e135_86, e135_88, e135_91, e135_92, e135_93, e135_94, e135_95, e135_96, e135_97, e135_98, e135_101, e135_102, e135_103, e135_106, e135_107, e135_110, e135_111, e135_113, e135_114, e135_115, e135_116, e135_119, e135_120, e135_121, e135_122, e135_123, e135_126, e135_127, e135_130, e135_132, e135_133, e135_134, e135_135, e135_136, e135_137, e135_140, e135_146, e135_149, am_bd_some, Option.toList_some, Option.toList_none, List.cons_append, List.nil_append, am_w8_0, am_w8_1, am_w8_2, am_w8_3, am_w8_4, eq_self, or_true, true_or, am_kd_sI, am_kd_sL, am_kd_sR, am_tc_sI, am_tc_sL, am_tc_sR, am_len_sI, am_len_sL, am_len_sR, am_rfs, if_true, if_false, am_rdL_sI, am_rR_sL, am_rt_cq, am_kd_cq, am_tc_cq, am_len_cq, am_rd_sL, am_rd_sR, am_rdL_sR, p1, p2, p4, q_tc p7, q_ln p7, q_tc p9, q_ln p9, c0, h1, okK_205 ok, okR_205_0 ok, okR_205_1 ok, okT_206 ok, okL_206 ok, okT_207 ok, okL_207 ok, xb, zb, xd, zd, r5, not_true, vt, m1', ve, vn, m2', e1]
            have s2 : am_ev 135 87 [some (.ref 205), some (.ref o), some (.int (nI (B_V k (B_b k - b) b t))), some (.int (nI b)), some (.int (nI d))] [] (am_sI h 207 d (nI (t d - 1))) = am_ev 135 27 [some (.ref 205), some (.ref o), some (.int (nI (B_V k (B_b k - (b + 1)) (b + 1) (B_dec t d)))), some (.int (nI b)), some (.int (nI (d + 1)))] [] hc' := by
              simp only [e135_0, e135_1, e135_2, e135_3, e135_6, e135_7, e135_8, e135_9, e135_10, e135_11, e135_14, e135_17, e135_18, e135_21, e135_22, e135_23, e135_24, e135_25, e135_29, e135_30, e135_33, e135_36, e135_37, e135_40, e135_41, e135_42, e135_43, e135_46, e135_47, e135_50, e135_52, e135_53, e135_54, e135_57, e135_58, e135_61, e135_63, e135_64, e135_65, e135_68, e135_69, e135_70, e135_73, e135_76, e135_77, e135_80, e135_82, e135_83, e135_84, e135_85, e135_86, e135_87, e135_88, e135_91, e135_92, e135_93, e135_94, e135_95, e135_96, e135_97, e135_98, e135_101, e135_102, e135_103, e135_106, e135_107, e135_110, e135_111, e135_113, e135_114, e135_115, e135_116, e135_119, e135_120, e135_121, e135_122, e135_123, e135_126, e135_127, e135_130, e135_132, e135_133, e135_134, e135_135, e135_136, e135_137, e135_140, e135_146, e135_149, am_bd_some, Option.toList_some, Option.toList_none, List.cons_append, List.nil_append, am_w8_0, am_w8_1, am_w8_2, am_w8_3, am_w8_4, eq_self, or_true, true_or, am_kd_sI, am_kd_sL, am_kd_sR, am_tc_sI, am_tc_sL, am_tc_sR, am_len_sI, am_len_sL, am_len_sR, am_rfs, if_true, if_false, am_rdL_sI, am_rR_sL, am_rt_cq, am_kd_cq, am_tc_cq, am_len_cq, am_rd_sL, am_rd_sR, am_rdL_sR, p1, p5, q_tc p10, q_ln p10, okK_205 ok, xb, zb, vwa, nI_1, sb, nI_add, ce', not_true, okK_205 okb, okR_205_0 okb, okT_206 okb, okL_206 okb, u1, u5, q_tc u10, q_ln u10, vwc, el]
              try rfl
            rw [s1, s2, e135_27]
            by_cases cd : d + 1 < B_d k
            · have h2 : ¬ nI (B_d k) ≤ nI (d + 1) := nI_ge cd (by omega)
              simp only [e135_0, e135_1, e135_2, e135_3, e135_6, e135_7, e135_8, e135_9, e135_10, e135_11, e135_14, e135_17, e135_18, e135_21, e135_22, e135_23, e135_24, e135_25, e135_29, e135_30, e135_33, e135_36, e135_37, e135_40, e135_41, e135_42, e135_43, e135_46, e135_47, e135_50, e135_52, e135_53, e135_54, e135_57, e135_58, e135_61, e135_63, e135_64, e135_65, e135_68, e135_69, e135_70, e135_73, e135_76, e135_77, e135_80, e135_82, e135_83, e135_84, e135_85, e135_86, e135_87, e135_88, e135_91, e135_92, e135_93, e135_94, e135_95, e135_96, e135_97, e135_98, e135_101, e135_102, e135_103, e135_106, e135_107, e135_110, e135_111, e135_113, e135_114, e135_115, e135_116, e135_119, e135_120, e135_121, e135_122, e135_123, e135_126, e135_127, e135_130, e135_132, e135_133, e135_134, e135_135, e135_136, e135_137, e135_140, e135_146, e135_149, am_bd_some, Option.toList_some, Option.toList_none, List.cons_append, List.nil_append, am_w8_0, am_w8_1, am_w8_2, am_w8_3, am_w8_4, eq_self, or_true, true_or, am_kd_sI, am_kd_sL, am_kd_sR, am_tc_sI, am_tc_sL, am_tc_sR, am_len_sI, am_len_sL, am_len_sR, am_rfs, if_true, if_false, am_rdL_sI, am_rR_sL, am_rt_cq, am_kd_cq, am_tc_cq, am_len_cq, am_rd_sL, am_rd_sR, am_rdL_sR, cbc.2.1.1, c0c, h2, okK_205 okc, okR_205_0 okc, okT_206 okc, okL_206 okc, xb, zb, rc, nd5, not_false_eq_true]
            · have h2 : nI (B_d k) ≤ nI (d + 1) := nI_le (by omega) (by omega)
              simp only [e135_0, e135_1, e135_2, e135_3, e135_6, e135_7, e135_8, e135_9, e135_10, e135_11, e135_14, e135_17, e135_18, e135_21, e135_22, e135_23, e135_24, e135_25, e135_29, e135_30, e135_33, e135_36, e135_37, e135_40, e135_41, e135_42, e135_43, e135_46, e135_47, e135_50, e135_52, e135_53, e135_54, e135_57, e135_58, e135_61, e135_63, e135_64, e135_65, e135_68, e135_69, e135_70, e135_73, e135_76, e135_77, e135_80, e135_82, e135_83, e135_84, e135_85, e135_86, e135_87, e135_88, e135_91, e135_92, e135_93, e135_94, e135_95, e135_96, e135_97, e135_98, e135_101, e135_102, e135_103, e135_106, e135_107, e135_110, e135_111, e135_113, e135_114, e135_115, e135_116, e135_119, e135_120, e135_121, e135_122, e135_123, e135_126, e135_127, e135_130, e135_132, e135_133, e135_134, e135_135, e135_136, e135_137, e135_140, e135_146, e135_149, am_bd_some, Option.toList_some, Option.toList_none, List.cons_append, List.nil_append, am_w8_0, am_w8_1, am_w8_2, am_w8_3, am_w8_4, eq_self, or_true, true_or, am_kd_sI, am_kd_sL, am_kd_sR, am_tc_sI, am_tc_sL, am_tc_sR, am_len_sI, am_len_sL, am_len_sR, am_rfs, if_true, if_false, am_rdL_sI, am_rR_sL, am_rt_cq, am_kd_cq, am_tc_cq, am_len_cq, am_rd_sL, am_rd_sR, am_rdL_sR, cbc.2.1.1, c0c, h2]
        · have ce' : ¬ nI (B_worth k b + B_V k (B_b k - (b + 1)) (b + 1) (B_dec t d)) = nI (B_V k (B_b k - b) b t) := fun w => ce (ceq.mp w)
          have hc : B_cd k (B_b k - (b + 1)) b t d = false := by
            unfold B_cd
            rw [may, Bool.true_and, eb]
            exact decide_eq_false ce
          have vtb : hb'.1 207 d = nI (t d - 1) := by
            have := (ctb d (by omega)).1
            rw [this]
            congr 1
            exact if_pos rfl
          have e2 : nI (t d - 1) + 1 = nI (t d) := by rw [nI_1]; congr 1; omega
          have cbd : q_cb (am_sI hb' 207 d (nI (t d))) o k t := ((fb.cb cba).turn d (t d) vl).tcg (fun e _ => by
            unfold B_dec q_up
            by_cases c : e = d
            · rw [if_pos c, c]
            · rw [if_neg c, if_neg c])
          have r5d : (am_sI hb' 207 d (nI (t d))).1 206 b = 5 := by rw [am_rd_sI, if_neg (by omega)]; exact r5b
          have fd : q_asw b h (am_sI hb' 207 d (nI (t d))) := ⟨fb.1, fun a j q1 q2 q3 q4 => by rw [am_rd_sI, if_neg (fun w => q1 w.1)]; exact fw.2 a j q1 q2 q3 q4⟩
          obtain ⟨h2, x2, f2, cb2, r2, s2⟩ := ih (d + 1) _ (by omega) cbd r5d (fun e he => by
            by_cases c : e = d
            · rw [c]; exact hc
            · exact all e (by omega))
          refine ⟨h2, x2, fd.tr f2, cb2, r2, ?_⟩
          simp only [e135_0, e135_1, e135_2, e135_3, e135_6, e135_7, e135_8, e135_9, e135_10, e135_11, e135_14, e135_17, e135_18, e135_21, e135_22, e135_23, e135_24, e135_25, e135_29, e135_30, e135_33, e135_36, e135_37, e135_40, e135_41, e135_42, e135_43, e135_46, e135_47, e135_50, e135_52, e135_53, e135_54, e135_57, e135_58, e135_61, e135_63, e135_64, e135_65, e135_68, e135_69, e135_70, e135_73, e135_76, e135_77, e135_80, e135_82, e135_83, e135_84, e135_85, e135_86, e135_87, e135_88, e135_91, e135_92, e135_93, e135_94, e135_95, e135_96, e135_97, e135_98, e135_101, e135_102, e135_103, e135_106, e135_107, e135_110, e135_111, e135_113, e135_114, e135_115, e135_116, e135_119, e135_120, e135_121, e135_122, e135_123, e135_126, e135_127, e135_130, e135_132, e135_133, e135_134, e135_135, e135_136, e135_137, e135_140, e135_146, e135_149, am_bd_some, Option.toList_some, Option.toList_none, List.cons_append, List.nil_append, am_w8_0, am_w8_1, am_w8_2, am_w8_3, am_w8_4, eq_self, or_true, true_or, am_kd_sI, am_kd_sL, am_kd_sR, am_tc_sI, am_tc_sL, am_tc_sR, am_len_sI, am_len_sL, am_len_sR, am_rfs, if_true, if_false, am_rdL_sI, am_rR_sL, am_rt_cq, am_kd_cq, am_tc_cq, am_len_cq, am_rd_sL, am_rd_sR, am_rdL_sR, p1, p2, p4, p5, q_tc p7, q_ln p7, q_tc p9, q_ln p9, q_tc p10, q_ln p10, c0, h1, okK_205 ok, okR_205_0 ok, okR_205_1 ok, okT_206 ok, okL_206 ok, okT_207 ok, okL_207 ok, xb, zb, xd, zd, r5, not_true, vt, m1', ve, vn, m2', e1, vwa, nI_1, sb, nI_add, ce', not_false_eq_true, okK_205 okb, okR_205_1 okb, okT_207 okb, okL_207 okb, vtb, e2]
          exact s2
      · have m2' : ¬ nI (B_need k b) ≤ nI (B_eye k d) := fun w => m2 (l2.mp w)
        have hc : B_cd k (B_b k - (b + 1)) b t d = false := by
          cases hq : B_cd k (B_b k - (b + 1)) b t d with
          | false => rfl
          | true =>
            unfold B_cd at hq
            rw [Bool.and_eq_true] at hq
            exact absurd (B_mayB_iff.mp hq.1).2.2 m2
        obtain ⟨h2, x2, f2, cb2, r2, s2⟩ := skip hc
        refine ⟨h2, x2, f2, cb2, r2, ?_⟩
        simp only [e135_0, e135_1, e135_2, e135_3, e135_6, e135_7, e135_8, e135_9, e135_10, e135_11, e135_14, e135_17, e135_18, e135_21, e135_22, e135_23, e135_24, e135_25, e135_29, e135_30, e135_33, e135_36, e135_37, e135_40, e135_41, e135_42, e135_43, e135_46, e135_47, e135_50, e135_52, e135_53, e135_54, e135_57, e135_58, e135_61, e135_63, e135_64, e135_65, e135_68, e135_69, e135_70, e135_73, e135_76, e135_77, e135_80, e135_82, e135_83, e135_84, e135_85, e135_86, e135_87, e135_88, e135_91, e135_92, e135_93, e135_94, e135_95, e135_96, e135_97, e135_98, e135_101, e135_102, e135_103, e135_106, e135_107, e135_110, e135_111, e135_113, e135_114, e135_115, e135_116, e135_119, e135_120, e135_121, e135_122, e135_123, e135_126, e135_127, e135_130, e135_132, e135_133, e135_134, e135_135, e135_136, e135_137, e135_140, e135_146, e135_149, am_bd_some, Option.toList_some, Option.toList_none, List.cons_append, List.nil_append, am_w8_0, am_w8_1, am_w8_2, am_w8_3, am_w8_4, eq_self, or_true, true_or, am_kd_sI, am_kd_sL, am_kd_sR, am_tc_sI, am_tc_sL, am_tc_sR, am_len_sI, am_len_sL, am_len_sR, am_rfs, if_true, if_false, am_rdL_sI, am_rR_sL, am_rt_cq, am_kd_cq, am_tc_cq, am_len_cq, am_rd_sL, am_rd_sR, am_rdL_sR, p1, p2, p4, q_tc p7, q_ln p7, q_tc p9, q_ln p9, c0, h1, okK_205 ok, okR_205_0 ok, okR_205_1 ok, okT_206 ok, okL_206 ok, okT_207 ok, okL_207 ok, xb, zb, xd, zd, r5, not_true, vt, m1', ve, vn, m2', nI_1]
        exact s2
