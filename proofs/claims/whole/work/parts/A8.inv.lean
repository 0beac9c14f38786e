/-! part A8: what is told is within its bounds -/
theorem t_fb_n {t : Nat → Nat} {L e : Nat} : ∀ (r i : Nat), t_fb t L e r i = none → ∀ j, i ≤ j → j < i + r → t_K t L (t_nx t L e j) = 3 := by
  intro r
  induction r with
  | zero => intro i _ j h1 h2; omega
  | succ r ih =>
    intro i h j h1 h2
    unfold t_fb at h
    by_cases c : t_K t L (t_nx t L e i) = 3
    · rw [if_pos c] at h
      by_cases ej : j = i
      · rw [ej]; exact c
      · exact ih (i + 1) h j (by omega) (by omega)
    · rw [if_neg c] at h; cases h
theorem t_rw_n {t : Nat → Nat} {L e m : Nat} (h : t_rw t L e m = none) : ∀ j, j < m → t_K t L (t_nx t L e j) = 3 := by
  intro j hj
  unfold t_rw at h
  cases hf : t_fb t L e m 0 with
  | some p => rw [hf] at h; cases h
  | none => exact t_fb_n m 0 hf j (Nat.zero_le _) (by omega)
theorem t_ll_iv {D : Type} {full : Nat → D → Bool} {upd : Nat → (Nat → Nat) → D → D} {so : Nat} (P : D → Prop) (hP : ∀ (i : Nat) (v : Nat → Nat) (d : D), i < 18 → ln_s i = so → P d → (∀ j, j < (ln_r i).length → t_can ((ln_r i).getD j 0) (v j) v = true ∧ v j < 100) → full i d = false → P (upd i v d)) (t : Nat → Nat) (L : Nat) : ∀ (n a : Nat) (q : Nat × Nat) (d : D) (r : (Nat × Nat) × D), P d → t_ll full upd t L so n a q d = .inr r → P r.2 := by
  intro n
  induction n with
  | zero =>
    intro a q d r hd h
    have e : (q, d) = r := Sum.inr.inj h
    rw [← e]; exact hd
  | succ n ih =>
    intro a q d r hd h
    unfold t_ll at h
    generalize t_S t L a = s at h
    by_cases cK : t_K t L s = 0
    · rw [if_pos cK] at h
      have e : (q, d) = r := Sum.inr.inj h
      rw [← e]; exact hd
    · rw [if_neg cK] at h
      cases hl : t_ln t L so s with
      | none => rw [hl] at h; cases h
      | some i =>
        rw [hl] at h
        dsimp only at h
        obtain ⟨i18, is, iw, iK⟩ := t_ln_lt hl
        cases hr : t_rw t L (t_at t L s) (ln_r i).length with
        | some p => rw [hr] at h; cases h
        | none =>
          rw [hr] at h
          refine ih _ _ _ r ?_ h
          by_cases z : (t_rq (ln_r i) (t_va t L (t_at t L s)) (t_nx t L (t_at t L s)) (ln_r i).length (if full i d = true then t_nt q 3 s else q)).1 = 0
          · rw [if_pos z]
            obtain ⟨z1, -, z3⟩ := t_rq_0 z
            exact hP i _ d i18 is hd (fun j hj => ⟨z3 j hj, t_v_lt (t_rw_n hr j hj)⟩) (c_q0 z1)
          · rw [if_neg z]; exact hd
/-- a fell's bounds -/
def f_iv (d : f_D) : Prop := ((2 ≤ F_w d.1 ∧ F_w d.1 ≤ 8) ∧ (2 ≤ F_h d.1 ∧ F_h d.1 ≤ 8)) ∧ (F_pen d.1 < 64 ∧ (F_pen d.1 = 0 ∨ (F_pen d.1 % 8 < d.2.1 ∧ F_pen d.1 / 8 < d.2.2))) ∧ (F_dog d.1 < 64 ∧ (F_dog d.1 = 9 ∨ (F_dog d.1 % 8 < d.2.1 ∧ F_dog d.1 / 8 < d.2.2))) ∧ (1 ≤ F_eye d.1 ∧ F_eye d.1 ≤ 9) ∧ F_n d.1 ≤ 6 ∧ (∀ b, b < F_n d.1 → F_kind d.1 b < 4 ∧ F_cell d.1 b < 64 ∧ F_cell d.1 b % 8 < d.2.1 ∧ F_cell d.1 b / 8 < d.2.2) ∧ (∀ c, c < 64 → q_bit (F_walls d.1) c = true → c % 8 < d.2.1 ∧ c / 8 < d.2.2)
theorem f_far_le (v : Nat → Nat) (d : f_D) : d.2.1 ≤ (f_far v d).1 ∧ d.2.2 ≤ (f_far v d).2 ∧ v 0 < (f_far v d).1 ∧ v 1 < (f_far v d).2 := by
  show d.2.1 ≤ max d.2.1 (v 0 + 1) ∧ d.2.2 ≤ max d.2.2 (v 1 + 1) ∧ v 0 < max d.2.1 (v 0 + 1) ∧ v 1 < max d.2.2 (v 1 + 1)
  omega
theorem f_iv_u (i : Nat) (v : Nat → Nat) (d : f_D) (hi : i < 18) (is : ln_s i = 0) (H : f_iv d) (hv : ∀ j, j < (ln_r i).length → t_can ((ln_r i).getD j 0) (v j) v = true ∧ v j < 100) (hf : f_full i d = false) : f_iv (f_upd i v d) := by
  obtain ⟨a1, ⟨p1, p2⟩, ⟨d1, d2⟩, a4, a5, a6, a7⟩ := H
  have ln := f_len i hi is
  by_cases c6 : ln_c i = 6
  · obtain ⟨r0, r1⟩ := f_r6 i hi is c6
    rw [if_neg (by omega)] at ln
    have v0 := t_can_s (by have := (hv 0 (by omega)).1; rw [r0] at this; exact this)
    have v1 := t_can_s (by have := (hv 1 (by omega)).1; rw [r1] at this; exact this)
    unfold f_upd
    rw [if_pos c6]
    exact ⟨⟨v0, v1⟩, ⟨p1, p2⟩, ⟨d1, d2⟩, a4, a5, a6, a7⟩
  obtain ⟨r0, r1⟩ := f_c99 i hi is c6
  have l2 : 2 ≤ (ln_r i).length := by rw [ln]; split <;> omega
  have v0 := t_can_c (by have := (hv 0 (by omega)).1; rw [r0] at this; exact this)
  have v1 := t_can_c (by have := (hv 1 (by omega)).1; rw [r1] at this; exact this)
  obtain ⟨g1, g2, g3⟩ := f_at8 v0 v1
  obtain ⟨f1, f2, f3, f4⟩ := f_far_le v d
  have p3 : F_pen d.1 = 0 ∨ (F_pen d.1 % 8 < (f_far v d).1 ∧ F_pen d.1 / 8 < (f_far v d).2) := by omega
  have d3 : F_dog d.1 = 9 ∨ (F_dog d.1 % 8 < (f_far v d).1 ∧ F_dog d.1 / 8 < (f_far v d).2) := by omega
  have a63 : ∀ b, b < F_n d.1 → F_kind d.1 b < 4 ∧ F_cell d.1 b < 64 ∧ F_cell d.1 b % 8 < (f_far v d).1 ∧ F_cell d.1 b / 8 < (f_far v d).2 := fun b hb => by
    obtain ⟨u1, u2, u3, u4⟩ := a6 b hb
    exact ⟨u1, u2, by omega, by omega⟩
  have a73 : ∀ c, c < 64 → q_bit (F_walls d.1) c = true → c % 8 < (f_far v d).1 ∧ c / 8 < (f_far v d).2 := fun c hc w => by
    obtain ⟨u1, u2⟩ := a7 c hc w
    exact ⟨by omega, by omega⟩
  have at3 : f_at v % 8 < (f_far v d).1 ∧ f_at v / 8 < (f_far v d).2 := by rw [g1, g2]; exact ⟨f3, f4⟩
  unfold f_upd
  rw [if_neg c6]
  by_cases c4 : ln_c i < 4
  · rw [if_pos c4]
    have n6 : F_n d.1 < 6 := by
      have := of_decide_eq_false hf
      omega
    refine ⟨a1, ⟨p1, p3⟩, ⟨d1, d3⟩, a4, (by show F_n d.1 + 1 ≤ 6; omega), fun b hb => ?_, a73⟩
    have hb' : b < F_n d.1 + 1 := hb
    show (if b = F_n d.1 then ln_c i else F_kind d.1 b) < 4 ∧ (if b = F_n d.1 then f_at v else F_cell d.1 b) < 64 ∧ (if b = F_n d.1 then f_at v else F_cell d.1 b) % 8 < (f_far v d).1 ∧ (if b = F_n d.1 then f_at v else F_cell d.1 b) / 8 < (f_far v d).2
    by_cases e : b = F_n d.1
    · rw [if_pos e, if_pos e]
      exact ⟨c4, g3, at3⟩
    · rw [if_neg e, if_neg e]
      exact a63 b (by omega)
  rw [if_neg c4]
  by_cases c5 : ln_c i = 4
  · rw [if_pos c5]
    refine ⟨a1, ⟨p1, p3⟩, ⟨d1, d3⟩, a4, a5, a63, fun c hc w => ?_⟩
    have w' : q_bit (f_or (F_walls d.1) (f_at v)) c = true := w
    have hb : q_bit (f_or (F_walls d.1) (f_at v)) c = (q_bit (F_walls d.1) c || decide (c = f_at v)) := q_bit_or _ (f_at v) c g3 hc
    rw [hb, Bool.or_eq_true, decide_eq_true_eq] at w'
    rcases w' with w' | w'
    · exact a73 c hc w'
    · rw [w']; exact at3
  rw [if_neg c5]
  by_cases c7 : ln_c i = 5
  · rw [if_pos c7]
    exact ⟨a1, ⟨g3, Or.inr at3⟩, ⟨d1, d3⟩, a4, a5, a63, a73⟩
  rw [if_neg c7]
  have c77 : ln_c i = 7 := by rcases f_c8 i hi is with c | c | c | c | c <;> omega
  rw [if_pos c77] at ln
  have r2 := f_r7 i hi is c77
  have v2 := t_can_e (by have := (hv 2 (by omega)).1; rw [r2] at this; exact this)
  exact ⟨a1, ⟨p1, p3⟩, ⟨g3, Or.inr at3⟩, v2, a5, a63, a73⟩
theorem f_iv_0 : f_iv f_0 := by
  refine ⟨by decide, by decide, by decide, by decide, by decide, fun b hb => absurd hb (Nat.not_lt_zero _), fun c hc w => ?_⟩
  have e : q_bit (F_walls f_0.1) c = q_bit 0 c := rfl
  rw [e, q_bit_0] at w
  cases w
theorem f_ll_iv {t : Nat → Nat} {L : Nat} {q : Nat × Nat} {d : f_D} (h : t_ll f_full f_upd t L 0 (L + 1) 0 (0, 0) f_0 = .inr (q, d)) : f_iv d := t_ll_iv f_iv f_iv_u t L _ _ _ _ _ f_iv_0 h
theorem f_iv_bd {d : f_D} (H : f_iv d) : f_bd d := ⟨H.1.1, H.1.2, H.2.1.1, H.2.2.1.1, fun b hb => (H.2.2.2.2.2.1 b hb).2.1⟩
theorem f_iv_ok {d : f_D} (H : f_iv d) (hf : f_flaw d = 0) : F_ok d.1 := by
  obtain ⟨⟨w2, h2⟩, ⟨p1, p2⟩, ⟨d1, d2⟩, a4, a5, a6, a7⟩ := H
  have nf : ¬ (F_w d.1 < d.2.1 ∨ F_h d.1 < d.2.2) := fun w => by
    unfold f_flaw at hf
    rw [if_pos w] at hf
    cases hf
  have gd : f_good d.1 = true := by
    unfold f_flaw at hf
    rw [if_neg nf] at hf
    by_cases c : f_good d.1 = true
    · exact c
    · rw [if_neg c] at hf; cases hf
  obtain ⟨⟨g1, g2, g3⟩, g4⟩ := (f_good_iff d.1).mp gd
  refine ⟨w2, h2, ⟨p1, ?_, ?_⟩, ⟨d1, ?_, ?_⟩, a4, a5, fun c hc w => ?_, g2, g3, g1, fun b hb => ?_, fun b c hb hc e => ?_⟩
  · omega
  · omega
  · omega
  · omega
  · obtain ⟨u1, u2⟩ := a7 c hc w
    exact ⟨hc, by omega, by omega⟩
  · obtain ⟨u1, u2, u3, u4⟩ := a6 b hb
    obtain ⟨k1, k2, k3, -⟩ := g4 b hb
    exact ⟨u1, ⟨u2, by omega, by omega⟩, k3, k1, k2⟩
  · by_cases l1 : b < c
    · exact absurd e ((g4 c hc).2.2.2 b l1)
    · by_cases l2 : c < b
      · exact absurd e.symm ((g4 b hb).2.2.2 c l2)
      · omega
/-- drives -/
theorem d_iv_u (i : Nat) (v : Nat → Nat) (d : q_Dr) (hi : i < 18) (is : ln_s i = 1) (H : D_ok d) (hv : ∀ j, j < (ln_r i).length → t_can ((ln_r i).getD j 0) (v j) v = true ∧ v j < 100) (hf : d_full i d = false) : D_ok (d_upd i v d) := by
  obtain ⟨a1, a2⟩ := H
  obtain ⟨⟨r1, r2⟩, r3⟩ := d_rr i hi is
  have n40 : d.1 < 40 := by
    have := of_decide_eq_false hf
    omega
  refine ⟨(by show d.1 + 1 ≤ 40; omega), fun k hk => ?_⟩
  have hk' : k < d.1 + 1 := hk
  show (if k = d.1 then d_wh i v else d.2 k) < 7
  by_cases e : k = d.1
  · rw [if_pos e]
    unfold d_wh
    by_cases c : ln_c i < 4
    · obtain ⟨u1, u2⟩ := r1 c
      have v0 := t_can_d (by have := (hv 0 (by omega)).1; rw [u2] at this; exact this)
      rw [if_pos c]; omega
    · rw [if_neg c]; exact (r2 c).2
  · rw [if_neg e]; exact a2 k (by omega)
theorem d_iv_0 : D_ok d_0 := ⟨by decide, fun k hk => absurd hk (Nat.not_lt_zero _)⟩
theorem d_ll_iv {t : Nat → Nat} {L : Nat} {q : Nat × Nat} {d : q_Dr} (h : t_ll d_full d_upd t L 1 (L + 1) 0 (0, 0) d_0 = .inr (q, d)) : D_ok d := t_ll_iv D_ok d_iv_u t L _ _ _ _ _ d_iv_0 h
/-- books -/
theorem b_c3 : ∀ i, i < 18 → ln_s i = 2 → ln_c i < 3 := by decide +kernel
theorem b_iv_u (i : Nat) (v : Nat → Nat) (b : q_Bk) (hi : i < 18) (is : ln_s i = 2) (H : B_ok b) (hv : ∀ j, j < (ln_r i).length → t_can ((ln_r i).getD j 0) (v j) v = true ∧ v j < 100) (hf : b_full i b = false) : B_ok (b_upd i v b) := by
  obtain ⟨a1, a2, a3, a4, a5, a6⟩ := H
  unfold b_upd
  unfold b_full at hf
  by_cases c0 : ln_c i = 0
  · rw [if_pos c0] at hf ⊢
    obtain ⟨l2, r0, r1⟩ := b_r0 i hi is c0
    have v0 := t_can_e (by have := (hv 0 (by omega)).1; rw [r0] at this; exact this)
    have v1 := t_can_d (by have := (hv 1 (by omega)).1; rw [r1] at this; exact this)
    have n5 : B_d b < 5 := by
      have := of_decide_eq_false hf
      omega
    refine ⟨(by show B_d b + 1 ≤ 5; omega), a2, a3, fun k hk => ?_, a5, a6⟩
    have hk' : k < B_d b + 1 := hk
    show (1 ≤ (if k = B_d b then v 0 else B_eye b k) ∧ (if k = B_d b then v 0 else B_eye b k) ≤ 9) ∧ (if k = B_d b then v 1 else B_turns b k) ≤ 3
    by_cases e : k = B_d b
    · rw [if_pos e, if_pos e]; exact ⟨v0, by omega⟩
    · rw [if_neg e, if_neg e]; exact a4 k (by omega)
  rw [if_neg c0] at hf ⊢
  by_cases c1 : ln_c i = 1
  · rw [if_pos c1] at hf ⊢
    obtain ⟨l2, r0⟩ := b_r1 i hi is c1
    have v0 := t_can_e (by have := (hv 0 (by omega)).1; rw [r0] at this; exact this)
    have v1 := (hv 1 (by omega)).2
    have n5 : B_b b < 8 := by
      have := of_decide_eq_false hf
      omega
    refine ⟨a1, (by show B_b b + 1 ≤ 8; omega), a3, a4, fun k hk => ?_, a6⟩
    have hk' : k < B_b b + 1 := hk
    show (1 ≤ (if k = B_b b then v 0 else B_need b k) ∧ (if k = B_b b then v 0 else B_need b k) ≤ 9) ∧ (if k = B_b b then v 1 else B_worth b k) ≤ 99
    by_cases e : k = B_b b
    · rw [if_pos e, if_pos e]; exact ⟨v0, by omega⟩
    · rw [if_neg e, if_neg e]; exact a5 k (by omega)
  rw [if_neg c1] at hf ⊢
  have c2 : ln_c i = 2 := by have := b_c3 i hi is; omega
  have l1 := b_r2 i hi is c2
  have v0 := (hv 0 (by omega)).2
  have n5 : B_f b < 10 := by
    have := of_decide_eq_false hf
    omega
  refine ⟨a1, a2, (by show B_f b + 1 ≤ 10; omega), a4, a5, fun k hk => ?_⟩
  have hk' : k < B_f b + 1 := hk
  show (if k = B_f b then v 0 else B_field b k) ≤ 99
  by_cases e : k = B_f b
  · rw [if_pos e]; omega
  · rw [if_neg e]; exact a6 k (by omega)
theorem b_iv_0 : B_ok b_0 := ⟨by decide, by decide, by decide, fun k hk => absurd hk (Nat.not_lt_zero _), fun k hk => absurd hk (Nat.not_lt_zero _), fun k hk => absurd hk (Nat.not_lt_zero _)⟩
theorem b_ll_iv {t : Nat → Nat} {L : Nat} {q : Nat × Nat} {d : q_Bk} (h : t_ll b_full b_upd t L 2 (L + 1) 0 (0, 0) b_0 = .inr (q, d)) : B_ok d := t_ll_iv B_ok b_iv_u t L _ _ _ _ _ b_iv_0 h
/-- logs -/
theorem l_iv_u (i : Nat) (v : Nat → Nat) (l : q_Lg) (hi : i < 18) (is : ln_s i = 3) (H : L_ok l) (hv : ∀ j, j < (ln_r i).length → t_can ((ln_r i).getD j 0) (v j) v = true ∧ v j < 100) (hf : l_full i l = false) : L_ok (l_upd i v l) := by
  obtain ⟨a1, a2⟩ := H
  obtain ⟨c3, r1, r2, r3, k0, k1, k2, k3⟩ := l_rr i hi is
  have n8 : L_n l < 8 := by
    have := of_decide_eq_false hf
    omega
  have v0 := t_can_c (by have := (hv 0 (by omega)).1; rw [k0] at this; exact this)
  have v1 := t_can_c (by have := (hv 1 (by omega)).1; rw [k1] at this; exact this)
  have v2 := t_can_c (by have := (hv 2 (by omega)).1; rw [k2] at this; exact this)
  have v3 := t_can_r (by have := (hv 3 (by omega)).1; rw [k3] at this; exact this)
  refine ⟨(by show L_n l + 1 ≤ 8; omega), fun k hk => ?_⟩
  have hk' : k < L_n l + 1 := hk
  show (if k = L_n l then ln_c i else L_did l k) < 3 ∧ (if k = L_n l then f_at v else L_beast l k) < 64 ∧ (if k = L_n l then l_dg v else L_dog l k) < 64 ∧ (if k = L_n l then f_at v else L_beast l k) ≠ (if k = L_n l then l_dg v else L_dog l k) ∧ (if k = L_n l then l_di i v else L_dir l k) < 4
  by_cases e : k = L_n l
  · rw [if_pos e, if_pos e, if_pos e, if_pos e]
    refine ⟨c3, (f_at8 v0 v1).2.2, by unfold l_dg; omega, by unfold f_at l_dg; omega, ?_⟩
    unfold l_di
    by_cases c : ln_c i = 2
    · rw [if_pos c]; omega
    · obtain ⟨u1, u2⟩ := r2 c
      rw [if_neg c]
      exact t_can_d (by have := (hv 4 (by omega)).1; rw [u2] at this; exact this)
  · rw [if_neg e, if_neg e, if_neg e, if_neg e]; exact a2 k (by omega)
theorem l_iv_0 : L_ok l_0 := ⟨by decide, fun k hk => absurd hk (Nat.not_lt_zero _)⟩
theorem l_ll_iv {t : Nat → Nat} {L : Nat} {q : Nat × Nat} {d : q_Lg} (h : t_ll l_full l_upd t L 3 (L + 1) 0 (0, 0) l_0 = .inr (q, d)) : L_ok d := t_ll_iv L_ok l_iv_u t L _ _ _ _ _ l_iv_0 h
