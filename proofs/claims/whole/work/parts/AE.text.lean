/-! part AE: text: the four sorts, the pair -/
theorem f_flaw_4 (d : f_D) : f_flaw d = 4 ↔ (F_w d.1 < d.2.1 ∨ F_h d.1 < d.2.2) := by
  unfold f_flaw
  by_cases c : F_w d.1 < d.2.1 ∨ F_h d.1 < d.2.2
  · rw [if_pos c]; exact ⟨fun _ => c, fun _ => rfl⟩
  · rw [if_neg c]
    refine ⟨fun w => ?_, fun w => absurd w c⟩
    by_cases g : f_good d.1 = true
    · rw [if_pos g] at w; exact absurd w (by decide)
    · rw [if_neg g] at w; exact absurd w (by decide)
theorem f_flaw_c (d : f_D) : f_flaw d = 0 ∨ f_flaw d = 4 ∨ f_flaw d = 5 := by
  by_cases c : F_w d.1 < d.2.1 ∨ F_h d.1 < d.2.2
  · exact Or.inr (Or.inl ((f_flaw_4 d).mpr c))
  · unfold f_flaw
    rw [if_neg c]
    by_cases g : f_good d.1 = true
    · rw [if_pos g]; exact Or.inl rfl
    · rw [if_neg g]; exact Or.inr (Or.inr rfl)
theorem f_flaw_5 (d : f_D) (n4 : f_flaw d ≠ 4) : f_flaw d = 5 ↔ ¬ f_good d.1 = true := by
  have c : ¬ (F_w d.1 < d.2.1 ∨ F_h d.1 < d.2.2) := fun w => n4 ((f_flaw_4 d).mpr w)
  unfold f_flaw
  rw [if_neg c]
  by_cases g : f_good d.1 = true
  · rw [if_pos g]; exact ⟨fun w => absurd w (by decide), fun w => absurd g w⟩
  · rw [if_neg g]; exact ⟨fun _ => g, fun _ => rfl⟩
theorem q_bt_00 (x : Nat) : q_bt 0 x = false := by
  show (0 : Int32).toBitVec.getLsbD x = false
  show (0#32).getLsbD x = false
  simp
theorem x_B0_f (h : am_H) (e : ∀ k, k < 81 → h.1 221 k = bk_v 0 k) : f_mm (fun k => h.1 221 k) f_0.1 := by
  refine ⟨⟨(e 0 (by decide)).trans rfl, (e 1 (by decide)).trans rfl⟩, ⟨(e 2 (by decide)).trans rfl, (e 3 (by decide)).trans rfl⟩, ⟨(e 4 (by decide)).trans rfl, (e 5 (by decide)).trans rfl⟩, (e 6 (by decide)).trans rfl, (e 7 (by decide)).trans rfl, fun b hb => absurd hb (Nat.not_lt_zero _), fun b hb => absurd hb (Nat.not_lt_zero _), fun y x hy hx => ?_⟩
  have bz : bk_v 0 (26 + y) = 0 := by
    unfold bk_v
    rw [if_pos rfl, if_neg (by omega), if_neg (by omega), if_neg (by omega)]
  show q_bt (h.1 221 (26 + y)) x = q_bit 0 (8 * y + x)
  rw [e (26 + y) (by omega), bz, q_bt_00, q_bit_0]
theorem x_S_f : x_S f_dr f_mr f_mw f_full f_upd 0 f_flaw f_iv f_0 := by
  refine ⟨⟨by decide, f_c, m_dr_f, c_h4_f⟩, fun h e x y => ⟨⟨x_B0_f h e, Nat.zero_le _, x.trans (by decide), y.trans (by decide), Nat.zero_le _, Nat.zero_le _⟩, 0, Nat.zero_le _, (e 7 (by decide)).trans rfl⟩, fun t L q d w => f_ll_iv w, fun w => absurd rfl w, fun _ h d ok H I => ⟨den_flaw h ok d H (f_iv_bd I), ?_, ?_⟩, fun _ h d ok M I => ⟨?_, fun w => ?_, f_flaw_c d⟩⟩
  · rcases f_flaw_c d with w | w | w <;> omega
  · rcases f_flaw_c d with w | w | w <;> omega
  · rw [den_isFarOff h ok d M I]
    by_cases c : F_w d.1 < d.2.1 ∨ F_h d.1 < d.2.2
    · rw [if_pos c, if_pos ((f_flaw_4 d).mpr c)]
    · rw [if_neg c, if_neg (fun v => c ((f_flaw_4 d).mp v))]
  · rw [den_clash h ok d.1 M.1 M.2.1 I.2.1.1 I.2.2.1.1 (fun b hb => (I.2.2.2.2.2.1 b hb).2.1)]
    by_cases g : f_good d.1 = true
    · rw [if_pos g, if_neg (fun v => (f_flaw_5 d w).mp v g)]
    · rw [if_neg g, if_pos ((f_flaw_5 d w).mpr g)]
theorem x_S_d : x_S d_dr d_mr d_mw d_full d_upd 1 (fun _ => 0) D_ok d_0 := ⟨⟨by decide, d_c, m_dr_d, c_h4_d⟩, fun h e _ _ => ⟨⟨⟨(e 0 (by decide)).trans rfl, fun k hk => absurd hk (Nat.not_lt_zero _)⟩, Nat.zero_le _⟩, 0, Nat.zero_le _, (e 0 (by decide)).trans rfl⟩, fun t L q d w => d_ll_iv w, fun _ _ => rfl, fun w => absurd w (by decide), fun w => absurd w (by decide)⟩
theorem x_S_b : x_S b_dr b_mr b_mw b_full b_upd 2 (fun _ => 0) B_ok b_0 := ⟨⟨by decide, b_c, m_dr_b, c_h4_b⟩, fun h e _ _ => ⟨⟨⟨(e 0 (by decide)).trans rfl, (e 1 (by decide)).trans rfl, (e 2 (by decide)).trans rfl, fun k hk => absurd hk (Nat.not_lt_zero _), fun k hk => absurd hk (Nat.not_lt_zero _), fun k hk => absurd hk (Nat.not_lt_zero _)⟩, Nat.zero_le _, Nat.zero_le _, Nat.zero_le _⟩, 0, 0, 0, ⟨Nat.zero_le _, Nat.zero_le _, Nat.zero_le _⟩, (e 0 (by decide)).trans rfl, (e 1 (by decide)).trans rfl, (e 2 (by decide)).trans rfl⟩, fun t L q d w => b_ll_iv w, fun _ _ => rfl, fun w => absurd w (by decide), fun w => absurd w (by decide)⟩
theorem x_S_l : x_S l_dr l_mr l_mw l_full l_upd 3 (fun _ => 0) L_ok l_0 := ⟨⟨by decide, l_c, m_dr_l, c_h4_l⟩, fun h e _ _ => ⟨⟨⟨(e 0 (by decide)).trans rfl, fun k hk => absurd hk (Nat.not_lt_zero _)⟩, Nat.zero_le _⟩, 0, Nat.zero_le _, (e 0 (by decide)).trans rfl⟩, fun t L q d w => l_ll_iv w, fun _ _ => rfl, fun w => absurd w (by decide), fun w => absurd w (by decide)⟩
theorem t_by_of {x y : Int32} (e : am_byte x = am_byte y) : t_by x = t_by y := by
  have l1 := t_by_lt x
  have l2 := t_by_lt y
  refine (nI_eq (by omega) (by omega)).mp ?_
  rw [← t_by_m, ← t_by_m, e]
theorem x_go {D : Type} {dr mr : am_H → D → Prop} {mw : am_H → Prop} {full : Nat → D → Bool} {upd : Nat → (Nat → Nat) → D → D} {so : Nat} {fl : D → Nat} {P : D → Prop} {d0 : D} (S : x_S dr mr mw full upd so fl P d0) {A : q_All} {h : am_H} (H : q_Rel A h) (b : Int32) (k : Nat) (n : x_nb (A.2.1 so) b k) (lo hi : Nat) (hlo : 8 ≤ lo) (hhi : hi ≤ 23) (Q : am_H → am_H → Prop)
    (KP : ∀ hb : am_H, am_okH hb → hb.1 3 so = nI (A.2.1 so) → ∃ g : am_H, am_den 55 [.ref 1, .ref 159, .int (nI so), .int (nI k)] hb = some (none, g) ∧ x_kf so lo hi k (A.2.1 so) hb g ∧ Q hb g)
    (FIN : ∀ (d : D) (hb g hm h2 : am_H), fl d = 0 → P d → dr hb d → mr hm d → Q hb g → am_okH h2 → h2.1 211 0 = 0 → h2.1 1 1 = 0 → h2.1 213 0 = 0 → h2.1 1 2 = h2.1 214 0 → h2.1 1 3 = h2.1 215 0 → h2.1 3 so = nI (max (A.2.1 so) (k + 1)) → h2.1 216 so = nI (max (A.2.1 so) (k + 1)) → ((∀ x j, x < 159 → h2.1 x j = g.1 x j) ∧ ∀ x j, x < 159 → h2.2.1 x j = g.2.1 x j) → (∀ j, j < m_wd so → h2.1 (217 + so) (m_wd so * k + j) = hm.1 221 j) → (∀ x j, x < 159 → x ≠ 1 → ¬ (x = 3 ∧ j = so) → ¬ (lo + 16 * k ≤ x ∧ x ≤ hi + 16 * k) → h2.1 x j = h.1 x j) → (∀ x j, x < 159 → ¬ (lo + 16 * k ≤ x ∧ x ≤ hi + 16 * k) → h2.2.1 x j = h.2.1 x j) → (∀ x j, 212 ≤ x → x ≤ 220 → ¬ (x = 213 ∧ j = 0) → ¬ (x = 214 ∧ j = 0) → ¬ (x = 215 ∧ j = 0) → ¬ (x = 216 ∧ j = so) → ¬ (x = 217 + so ∧ m_wd so * k ≤ j ∧ j < m_wd so * k + m_wd so) → h2.1 x j = h.1 x j) → (∀ j, h2.1 236 j = h.1 236 j) → am_Rel h2) :
    ∃ (v : Int32) (h1 h2 : am_H), am_okH h1 ∧ h1.2.2.2.2 = h.2.2.2.2 ∧ am_den 15 [.ref 0, .int (nI so), .int b] h = some (some (.int v), h1) ∧ am_den 169 [.ref 211, .int (nI so), .int b] h1 = some (some (.int v), h2) ∧ am_Rel h2 ∧ h2.2.2.2.2 = h.2.2.2.2 := by
  have hso := S.1.1
  obtain ⟨c2, e3, e216⟩ := H.cnt so hso
  have k2 : k < 2 := by rcases n with ⟨-, c1, ek⟩ | ⟨-, kc⟩ <;> omega
  obtain ⟨⟨L6, eL, mL, tp⟩, -⟩ := H.2.2.1
  have e213 : h.1 213 0 = nI A.1 := (q_mv0 h 1 0).symm.trans mL
  have tm : ∀ j, j < A.1 → t_by (h.1 212 j) = t_by (h.1 2 j) := fun j hj => by
    have w := tp j hj
    rw [q_mv0] at w
    exact (t_by_of w).symm
  have key : ∀ (r : Nat ⊕ ((Nat × Nat) × D)) (R : Nat × Nat), t_ll full upd (fun j => t_by (h.1 2 j)) A.1 so (A.1 + 1) 0 (0, 0) d0 = r → t_rs fl A.1 r = R → ∃ (v : Int32) (h1 h2 : am_H), am_okH h1 ∧ h1.2.2.2.2 = h.2.2.2.2 ∧ am_den 15 [.ref 0, .int (nI so), .int b] h = some (some (.int v), h1) ∧ am_den 169 [.ref 211, .int (nI so), .int b] h1 = some (some (.int v), h2) ∧ am_Rel h2 ∧ h2.2.2.2.2 = h.2.2.2.2 := by
    intro r R er eR
    obtain ⟨hb, okb, b2, bf, bl, ⟨b11, b12, b13⟩, bF, bK, bD⟩ := x_class S H b k n (fun j => t_by (h.1 2 j)) (fun j hj => rfl) R r er eR
    by_cases hR : R.1 = 0
    · obtain ⟨q, d, eqr, fd⟩ := t_rs_0 (fl := fl) (L := A.1) (r := r) (by rw [eR]; exact hR)
      have hd := bD q d eqr
      have pd : P d := S.2.2.1 _ _ q d (er.trans eqr)
      obtain ⟨g, dk, ⟨okg, g2, gf, gl, g3⟩, gQ⟩ := KP hb okb ((bf 3 so (Or.inl (by decide)) (by decide)).trans e3)
      have dc := bK hR g dk
      have gh : ∀ x j, 178 ≤ x → g.1 x j = h.1 x j := fun x j hx => (gf x j (by omega) (by omega)).trans (bf x j (Or.inr (by omega)) (by omega))
      obtain ⟨hm, okm, m2, mf, ml, ⟨m0, m3, m4, m5⟩, mF, mK, mD⟩ := x_model S g okg (A.2.1 so) c2 ((gh 216 so (by decide)).trans e216) b k n A.1 L6 ((gh 213 0 (by decide)).trans e213) (fun j => t_by (h.1 2 j)) (fun j hj => by rw [gh 212 j (by decide)]; exact tm j hj) R r er eR
      have dm := mK hR
      rw [hR] at m4
      rw [if_pos hR] at m5
      have s2 : ∀ x j, ¬ (x = 217 + so ∧ m_wd so * k ≤ j ∧ j < m_wd so * k + m_wd so) → (m_sv (217 + so) (m_wd so) k (am_sI hm 216 so (nI (max (A.2.1 so) (k + 1))))).1 x j = (am_sI hm 216 so (nI (max (A.2.1 so) (k + 1)))).1 x j := fun x j w => if_neg w
      have s1 : ∀ j, j < m_wd so → (m_sv (217 + so) (m_wd so) k (am_sI hm 216 so (nI (max (A.2.1 so) (k + 1))))).1 (217 + so) (m_wd so * k + j) = hm.1 221 j := fun j hj => by
        have w : (m_sv (217 + so) (m_wd so) k (am_sI hm 216 so (nI (max (A.2.1 so) (k + 1))))).1 (217 + so) (m_wd so * k + j) = (am_sI hm 216 so (nI (max (A.2.1 so) (k + 1)))).1 221 (m_wd so * k + j - m_wd so * k) := if_pos ⟨rfl, Nat.le_add_right _ _, Nat.add_lt_add_left hj _⟩
        rw [w, Nat.add_sub_cancel_left, c_ne _ _ _ _ _ _ (by decide)]
      have ok2 : am_okH (m_sv (217 + so) (m_wd so) k (am_sI hm 216 so (nI (max (A.2.1 so) (k + 1))))) := okm
      have r2 : (m_sv (217 + so) (m_wd so) k (am_sI hm 216 so (nI (max (A.2.1 so) (k + 1))))).2 = hm.2 := rfl
      generalize m_sv (217 + so) (m_wd so) k (am_sI hm 216 so (nI (max (A.2.1 so) (k + 1)))) = h2 at *
      have lo2 : ∀ x j, x < 211 → h2.1 x j = g.1 x j := fun x j hx => ((s2 x j (by omega)).trans (c_ne _ _ _ _ _ _ (by omega))).trans (mf x j (by omega) (by omega) (by omega) (by omega) (by omega) (by omega))
      have ll2 : ∀ x j, x < 211 → h2.2.1 x j = g.2.1 x j := fun x j hx => by rw [r2]; exact ml x j hx
      have top : ∀ x j, x ≠ 216 → x ≤ 216 → h2.1 x j = hm.1 x j := fun x j h1 h3 => (s2 x j (by omega)).trans (c_ne _ _ _ _ _ _ h1)
      have fm : ∀ x j, 212 ≤ x → x ≠ 221 → x ≠ 222 → ¬ (x = 213 ∧ j = 0) → ¬ (x = 214 ∧ j = 0) → ¬ (x = 215 ∧ j = 0) → ¬ (x = 216 ∧ j = so) → ¬ (x = 217 + so ∧ m_wd so * k ≤ j ∧ j < m_wd so * k + m_wd so) → h2.1 x j = h.1 x j := fun x j p1 p2 p3 p4 p5 p6 p7 p8 => by
        rw [s2 x j p8, am_rd_sI, if_neg p7, mf x j (by omega) p2 p3 p4 p5 p6]
        exact gh x j (by omega)
      refine ⟨nI k, g, h2, okg, by rw [g2, b2], dc, dm, FIN d hb g hm h2 fd pd hd (mD q d eqr hR) gQ ok2 ((top 211 0 (by decide) (by decide)).trans m0) ((lo2 1 1 (by decide)).trans ((gf 1 1 (by omega) (by omega)).trans b11)) ((top 213 0 (by decide) (by decide)).trans m3) ?_ ?_ ((lo2 3 so (by decide)).trans g3) ((s2 216 so (by omega)).trans (c_eq _ _ _ _)) ⟨fun x j hx => lo2 x j (by omega), fun x j hx => ll2 x j (by omega)⟩ s1 (fun x j p1 p2 p3 p4 => (lo2 x j (by omega)).trans ((gf x j p3 p4).trans (bf x j (Or.inl p1) p2))) (fun x j p1 p2 => (ll2 x j (by omega)).trans ((gl x j p2).trans (bl x j (Or.inl p1)))) (fun x j p1 p2 p3 p4 p5 p6 p7 => fm x j p1 (by omega) (by omega) p3 p4 p5 p6 p7) (fun j => fm 236 j (by decide) (by decide) (by decide) (by omega) (by omega) (by omega) (by omega) (by omega)), by rw [r2, m2, g2, b2]⟩
      · exact ((lo2 1 2 (by decide)).trans ((gf 1 2 (by omega) (by omega)).trans b12)).trans ((top 214 0 (by decide) (by decide)).trans (m4.trans rfl)).symm
      · exact ((lo2 1 3 (by decide)).trans ((gf 1 3 (by omega) (by omega)).trans b13)).trans ((top 215 0 (by decide) (by decide)).trans m5).symm
    · have dc := bF hR
      have ok1 : am_okH (am_sI (am_sI hb 1 2 (nI R.1)) 1 3 (nI R.2)) := okb
      have r1 : (am_sI (am_sI hb 1 2 (nI R.1)) 1 3 (nI R.2)).2 = hb.2 := rfl
      have hh : ∀ x j, (x < 159 ∨ 177 < x) → x ≠ 1 → (am_sI (am_sI hb 1 2 (nI R.1)) 1 3 (nI R.2)).1 x j = h.1 x j := fun x j p1 p2 => by
        rw [c_ne _ _ _ _ _ _ p2, c_ne _ _ _ _ _ _ p2]
        exact bf x j p1 p2
      have q1 : (am_sI (am_sI hb 1 2 (nI R.1)) 1 3 (nI R.2)).1 1 1 = 0 := by rw [am_rd_sI, if_neg (by decide), am_rd_sI, if_neg (by decide)]; exact b11
      have q2 : (am_sI (am_sI hb 1 2 (nI R.1)) 1 3 (nI R.2)).1 1 2 = nI R.1 := by rw [am_rd_sI, if_neg (by decide), c_eq]
      have q3 : (am_sI (am_sI hb 1 2 (nI R.1)) 1 3 (nI R.2)).1 1 3 = nI R.2 := c_eq _ _ _ _
      generalize am_sI (am_sI hb 1 2 (nI R.1)) 1 3 (nI R.2) = h1 at *
      obtain ⟨hm, okm, m2, mf, ml, ⟨m0, m3, m4, m5⟩, mF, mK, mD⟩ := x_model S h1 ok1 (A.2.1 so) c2 ((hh 216 so (Or.inr (by decide)) (by decide)).trans e216) b k n A.1 L6 ((hh 213 0 (Or.inr (by decide)) (by decide)).trans e213) (fun j => t_by (h.1 2 j)) (fun j hj => by rw [hh 212 j (Or.inr (by decide)) (by decide)]; exact tm j hj) R r er eR
      have dm := mF hR
      rw [if_neg hR] at m5
      have low : ∀ x j, x < 211 → hm.1 x j = h1.1 x j := fun x j hx => mf x j (by omega) (by omega) (by omega) (by omega) (by omega) (by omega)
      refine ⟨-1, h1, hm, ok1, by rw [r1, b2], dc, dm, x_fail H okm m0 ((low 1 1 (by decide)).trans q1) m3 ((low 1 2 (by decide)).trans (q2.trans m4.symm)) ((low 1 3 (by decide)).trans (q3.trans m5.symm)) (fun x j p1 p2 => (low x j (by omega)).trans (hh x j (Or.inl p1) p2)) (fun x j p1 => ?_) (fun x j p1 p2 p3 p4 p5 => (mf x j (by omega) (by omega) (by omega) p3 p4 p5).trans (hh x j (Or.inr (by omega)) (by omega))) (fun j => (mf 236 j (by decide) (by decide) (by decide) (by omega) (by omega) (by omega)).trans (hh 236 j (Or.inr (by decide)) (by decide))), by rw [m2, r1, b2]⟩
      rw [ml x j (by omega), r1]
      exact bl x j (Or.inl p1)
  exact key _ _ rfl rfl
theorem x_ref {A : q_All} {h : am_H} (H : q_Rel A h) (a b : Int32) (dn : am_den 16 [.ref 0, .int a, .int b] (x_ha h) = some (some (.int (-2)), x_ha h)) (dm : am_ev 169 36 [some (.ref 211), some (.int a), some (.int b), none] [] (x_ma A.1 (x_ha h)) = some (some (.int (-2)), x_ma A.1 (x_ha h))) :
    ∃ (v : Int32) (h1 h2 : am_H), am_okH h1 ∧ h1.2.2.2.2 = h.2.2.2.2 ∧ am_den 15 [.ref 0, .int a, .int b] h = some (some (.int v), h1) ∧ am_den 169 [.ref 211, .int a, .int b] h1 = some (some (.int v), h2) ∧ am_Rel h2 ∧ h2.2.2.2.2 = h.2.2.2.2 := by
  have ok := H.1
  obtain ⟨⟨L6, eL, mL, tp⟩, -⟩ := H.2.2.1
  have e213 : h.1 213 0 = nI A.1 := (q_mv0 h 1 0).symm.trans mL
  have oka : am_okH (x_ha h) := ok
  have okm : am_okH (x_ma A.1 (x_ha h)) := ok
  have rr : ∀ x j, x ≠ 1 → x ≠ 211 → ¬ (x = 213 ∧ j = 0) → ¬ (x = 214 ∧ j = 0) → ¬ (x = 215 ∧ j = 0) → (x_ma A.1 (x_ha h)).1 x j = h.1 x j := fun x j p1 p2 p3 p4 p5 => (x_ma_r A.1 (x_ha h) x j p2 p3 p4 p5).trans (x_ha_r h x j p1)
  have r1 : ∀ j, (x_ma A.1 (x_ha h)).1 1 j = (x_ha h).1 1 j := fun j => x_ma_r A.1 (x_ha h) 1 j (by decide) (by omega) (by omega) (by omega)
  refine ⟨-2, x_ha h, x_ma A.1 (x_ha h), oka, rfl, ?_, ?_, x_fail H okm rfl ((r1 1).trans rfl) rfl ((r1 2).trans rfl) ((r1 3).trans rfl) (fun x j p1 p2 => rr x j p2 (by omega) (by omega) (by omega) (by omega)) (fun x j p1 => rfl) (fun x j p1 p2 p3 p4 p5 => rr x j (by omega) (by omega) p3 p4 p5) (fun j => rr 236 j (by decide) (by decide) (by omega) (by omega) (by omega)), rfl⟩
  · rw [x_ct0 h ok a b A.1 eL]
    exact x_ct1 (x_ha h) oka a b _ dn
  · rw [x_mt0 (x_ha h) oka a b A.1 ((x_ha_r h 213 0 (by decide)).trans e213)]
    exact dm
theorem ly_2 : ly_p2 := by
  intro a b h hrel
  obtain ⟨A, H⟩ := hrel
  have ok := H.1
  have oka : am_okH (x_ha h) := ok
  have okm : am_okH (x_ma A.1 (x_ha h)) := ok
  by_cases ha : ∃ so, so < 4 ∧ a = nI so
  · obtain ⟨so, hso, rfl⟩ := ha
    obtain ⟨c2, e3, e216⟩ := H.cnt so hso
    by_cases hn : ∃ k, x_nb (A.2.1 so) b k
    · obtain ⟨k, n⟩ := hn
      have k2 : k < 2 := by rcases n with ⟨-, c1, ek⟩ | ⟨-, kc⟩ <;> omega
      have kc : k ≤ A.2.1 so := by rcases n with ⟨-, c1, ek⟩ | ⟨-, kc⟩ <;> omega
      have h4 : so = 0 ∨ so = 1 ∨ so = 2 ∨ so = 3 := by omega
      rcases h4 with rfl | rfl | rfl | rfl
      · exact x_go x_S_f H b k n 8 10 (by decide) (by decide) (fun hb g => (∀ c j, c < 3 → j < 6 → g.1 (8 + 16 * k + c) j = hb.1 (160 + c) j) ∧ g.2.1 (8 + 16 * k) 6 = hb.2.1 160 6) (fun hb okb e => x_keep_f hb okb k k2 _ c2 e)
          (fun d hb g hm h2 fd pd hd md q ok2 e0 e1 e2 e3 e4 e5 e6 lw st fc fl fm f6 => x_ok_f (g := hb) H k k2 kc d (f_iv_ok pd fd) ok2 e0 e1 e2 e3 e4 e5 e6 hd.1 ⟨fun c j hc hj => (lw.1 _ j (by omega)).trans (q.1 c j hc hj), (lw.2 _ 6 (by omega)).trans q.2⟩ (fun j => hm.1 221 j) md.1 st fc fl fm f6)
      · exact x_go x_S_d H b k n 11 12 (by decide) (by decide) (fun hb g => g.1 (11 + 16 * k) 0 = hb.1 163 0 ∧ ∀ j, j < 40 → g.1 (11 + 16 * k + 1) j = hb.1 164 j) (fun hb okb e => x_keep_d hb okb k k2 _ c2 e)
          (fun d hb g hm h2 fd pd hd md q ok2 e0 e1 e2 e3 e4 e5 e6 lw st fc fl fm f6 => x_ok_d (g := hb) H k k2 kc d pd ok2 e0 e1 e2 e3 e4 e5 e6 hd.1 ⟨(lw.1 _ 0 (by omega)).trans q.1, fun j hj => (lw.1 _ j (by omega)).trans (q.2 j hj)⟩ (fun j => hm.1 221 j) md.1 st fc fl fm f6)
      · exact x_go x_S_b H b k n 13 18 (by decide) (by decide) (fun hb g => ∀ c j, c < 6 → j < [3, 5, 5, 8, 8, 10].getD c 0 → g.1 (13 + 16 * k + c) j = hb.1 (165 + c) j) (fun hb okb e => x_keep_b hb okb k k2 _ c2 e)
          (fun d hb g hm h2 fd pd hd md q ok2 e0 e1 e2 e3 e4 e5 e6 lw st fc fl fm f6 => x_ok_b (g := hb) H k k2 kc d pd ok2 e0 e1 e2 e3 e4 e5 e6 hd.1 (fun c j hc hj => (lw.1 _ j (by omega)).trans (q c j hc hj)) (fun j => hm.1 221 j) md.1 st fc fl fm f6)
      · exact x_go x_S_l H b k n 19 23 (by decide) (by decide) (fun hb g => ∀ c j, c < 5 → j < [1, 8, 8, 8, 8].getD c 0 → g.1 (19 + 16 * k + c) j = hb.1 (171 + c) j) (fun hb okb e => x_keep_l hb okb k k2 _ c2 e)
          (fun d hb g hm h2 fd pd hd md q ok2 e0 e1 e2 e3 e4 e5 e6 lw st fc fl fm f6 => x_ok_l (g := hb) H k k2 kc d pd ok2 e0 e1 e2 e3 e4 e5 e6 hd.1 (fun c j hc hj => (lw.1 _ j (by omega)).trans (q c j hc hj)) (fun j => hm.1 221 j) md.1 st fc fl fm f6)
    · have nn : ∀ k, ¬ x_nb (A.2.1 so) b k := fun k w => hn ⟨k, w⟩
      exact x_ref H (nI so) b (x_no2 (x_ha h) oka so hso (A.2.1 so) c2 ((x_ha_r h 3 so (by decide)).trans e3) b nn) (x_mt2 (x_ma A.1 (x_ha h)) okm so hso (A.2.1 so) c2 ((x_ma_r A.1 (x_ha h) 216 so (by decide) (by omega) (by omega) (by omega)).trans ((x_ha_r h 216 so (by decide)).trans e216)) b nn)
  · have na : ∀ so, so < 4 → a ≠ nI so := fun so p w => ha ⟨so, p, w⟩
    exact x_ref H a b (x_no3 (x_ha h) a b na) (x_mt1 (x_ma A.1 (x_ha h)) a b na)
