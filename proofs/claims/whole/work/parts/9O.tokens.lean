/-! part 9O: tokens in a row, pure; the reference's words are the class's -/
theorem t_wh_all (P : Nat → Bool) (t : Nat → Nat) : ∀ r a k, a ≤ k → k < t_wh P t r a → P (t k) = true := by
  intro r
  induction r with
  | zero => intro a k h1 h2; exact absurd (show k < a from h2) (by omega)
  | succ r ih =>
    intro a k h1 h2
    unfold t_wh at h2
    by_cases c : P (t a) = true
    · rw [if_pos c] at h2
      by_cases e : k = a
      · rw [e]; exact c
      · exact ih (a + 1) k (by omega) h2
    · rw [if_neg c] at h2
      exact absurd h2 (by omega)
theorem t_wh_gt (P : Nat → Bool) (t : Nat → Nat) (r a : Nat) (h : P (t a) = true) (hr : 0 < r) : a < t_wh P t r a := by
  cases r with
  | zero => exact absurd hr (by decide)
  | succ r =>
    unfold t_wh
    rw [if_pos h]
    have := (t_wh_le P t r (a + 1)).1
    omega
theorem t_S_le (t : Nat → Nat) (L a : Nat) (ha : a ≤ L) : a ≤ t_S t L a ∧ t_S t L a ≤ L := by
  have := t_wh_le t_bl t (L - a) a
  unfold t_S
  omega
theorem t_E_le (t : Nat → Nat) (L s : Nat) (hs : s ≤ L) : s ≤ t_E t L s ∧ t_E t L s ≤ L ∧ (s < L → s < t_E t L s) := by
  have a1 := t_wh_le t_le t (L - s) s
  have a2 := t_wh_le t_di t (L - s) s
  unfold t_E
  by_cases c : s < L
  · rw [if_pos c]
    by_cases c1 : t_le (t s) = true
    · have := t_wh_gt t_le t (L - s) s c1 (by omega)
      rw [if_pos c1]
      omega
    · rw [if_neg c1]
      by_cases c2 : t_di (t s) = true
      · have := t_wh_gt t_di t (L - s) s c2 (by omega)
        rw [if_pos c2]
        omega
      · rw [if_neg c2]
        omega
  · rw [if_neg c]
    omega
theorem t_at_le (t : Nat → Nat) (L s : Nat) (hs : s ≤ L) : s ≤ t_at t L s ∧ t_at t L s ≤ L := by
  have a1 := t_E_le t L s hs
  unfold t_at
  by_cases c : s < L
  · rw [if_pos c]
    by_cases c1 : t s = 59
    · rw [if_pos c1]; omega
    · rw [if_neg c1]
      by_cases c2 : t_le (t s) = true
      · rw [if_pos c2]; omega
      · rw [if_neg c2]
        by_cases c3 : t_di (t s) = true
        · rw [if_pos c3]; omega
        · rw [if_neg c3]; omega
  · rw [if_neg c]; omega
theorem t_59 : t_le 59 = false ∧ t_di 59 = false := by decide
/-- the class's code of a token, by the reference's sort; where it ends -/
theorem t_CK (t : Nat → Nat) (L s : Nat) : t_K t L s < 5 ∧ t_C t L s = nI ([0, 4, 1, 2, 3].getD (t_K t L s) 0) ∧ (t_K t L s ≠ 1 → t_at t L s = t_E t L s) := by
  unfold t_K t_C t_at
  by_cases c : s < L
  · simp only [if_pos c]
    by_cases c1 : t_le (t s) = true
    · have n : ¬ t s = 59 := fun q => by rw [q, t_59.1] at c1; cases c1
      simp only [if_pos c1, if_neg n]
      exact ⟨by decide, rfl, fun _ => trivial⟩
    · simp only [if_neg c1]
      by_cases c2 : t_di (t s) = true
      · have n : ¬ t s = 59 := fun q => by rw [q, t_59.2] at c2; cases c2
        simp only [if_pos c2, if_neg n]
        by_cases c3 : 2 < t_E t L s - s
        · simp only [if_pos c3, if_neg (show ¬ t_E t L s - s ≤ 2 by omega)]
          exact ⟨by decide, rfl, fun _ => trivial⟩
        · simp only [if_neg c3, if_pos (show t_E t L s - s ≤ 2 by omega)]
          exact ⟨by decide, rfl, fun _ => trivial⟩
      · simp only [if_neg c2]
        by_cases c3 : t s = 59
        · have e : t_E t L s = s + 1 := by unfold t_E; rw [if_pos c, if_neg c1, if_neg c2]
          simp only [if_pos c3]
          exact ⟨by decide, rfl, fun _ => e.symm⟩
        · simp only [if_neg c3]
          exact ⟨by decide, rfl, fun q => absurd rfl q⟩
  · have e : t_E t L s = s := by unfold t_E; rw [if_neg c]
    simp only [if_neg c]
    exact ⟨by decide, rfl, fun _ => e.symm⟩
theorem t_C_i (t : Nat → Nat) (L s : Nat) : (t_C t L s = 0 ↔ t_K t L s = 0) ∧ (t_C t L s = 1 ↔ t_K t L s = 2) ∧ (t_C t L s = 2 ↔ t_K t L s = 3) ∧ (t_C t L s = 3 ↔ t_K t L s = 4) := by
  obtain ⟨h1, h2, -⟩ := t_CK t L s
  rw [h2]
  generalize t_K t L s = k at h1
  have h5 : k = 0 ∨ k = 1 ∨ k = 2 ∨ k = 3 ∨ k = 4 := by omega
  rcases h5 with rfl | rfl | rfl | rfl | rfl <;> decide
theorem t_K_lt {t : Nat → Nat} {L s : Nat} (h : t_K t L s ≠ 0) : s < L := by
  by_cases c : s < L
  · exact c
  · unfold t_K at h
    rw [if_neg c] at h
    exact absurd rfl h
/-- a number's value -/
def t_v (t : Nat → Nat) (L s : Nat) : Nat := t_nv t (t_E t L s - s) s 0 0
theorem t_K3 {t : Nat → Nat} {L s : Nat} (h : t_K t L s = 3) : s < L ∧ t_le (t s) = false ∧ t_di (t s) = true ∧ t_E t L s - s ≤ 2 := by
  have c := t_K_lt (show t_K t L s ≠ 0 by omega)
  unfold t_K at h
  rw [if_pos c] at h
  by_cases c1 : t_le (t s) = true
  · rw [if_pos c1] at h; cases h
  rw [if_neg c1] at h
  by_cases c2 : t_di (t s) = true
  · rw [if_pos c2] at h
    by_cases c3 : 2 < t_E t L s - s
    · rw [if_pos c3] at h; cases h
    · exact ⟨c, by cases q : t_le (t s) with | true => exact absurd q c1 | false => rfl, c2, by omega⟩
  · rw [if_neg c2] at h
    by_cases c3 : t s = 59
    · rw [if_pos c3] at h; cases h
    · rw [if_neg c3] at h; cases h
theorem t_di_lt {n : Nat} (h : t_di n = true) : 48 ≤ n ∧ n ≤ 57 := of_decide_eq_true h
theorem t_v_lt {t : Nat → Nat} {L s : Nat} (h : t_K t L s = 3) : t_v t L s < 100 := by
  obtain ⟨h1, h2, h3, h4⟩ := t_K3 h
  have eE : t_E t L s = t_wh t_di t (L - s) s := by unfold t_E; rw [if_pos h1, if_neg (by rw [h2]; decide), if_pos h3]
  have al := t_wh_all t_di t (L - s) s
  rw [← eE] at al
  have d0 := t_di_lt h3
  unfold t_v
  have g := (t_E_le t L s (by omega)).2.2 h1
  generalize hm : t_E t L s - s = m at h4
  have hm3 : m = 0 ∨ m = 1 ∨ m = 2 := by omega
  rcases hm3 with rfl | rfl | rfl
  · show 0 < 100; decide
  · show 10 * 0 + (t s - 48) < 100; omega
  · have d1 := t_di_lt (al (s + 1) (by omega) (by omega))
    show 10 * (10 * 0 + (t s - 48)) + (t (s + 1) - 48) < 100
    omega
theorem t_cV_v {t : Nat → Nat} {L s : Nat} (h : t_K t L s = 3) (o : Int32) : t_cV t L s o = nI (t_v t L s) ∧ t_V t L s o = nI (t_v t L s) := by
  obtain ⟨h1, h2, h3, h4⟩ := t_K3 h
  unfold t_cV t_V t_v
  rw [if_pos ⟨h1, h2, h3⟩, if_pos ⟨h1, h2, h3⟩, t_nc_nv t _ s h4]
  exact ⟨rfl, rfl⟩
/-- where the i-th token behind e begins to be looked for, and where it is -/
def t_ps (t : Nat → Nat) (L e : Nat) : Nat → Nat
  | 0 => e
  | i + 1 => t_E t L (t_S t L (t_ps t L e i))
def t_nx (t : Nat → Nat) (L e i : Nat) : Nat := t_S t L (t_ps t L e i)
theorem t_ps_le (t : Nat → Nat) (L e : Nat) (he : e ≤ L) : ∀ i, e ≤ t_ps t L e i ∧ t_ps t L e i ≤ L := by
  intro i
  induction i with
  | zero => exact ⟨Nat.le_refl _, he⟩
  | succ i ih =>
    have a1 := t_S_le t L _ ih.2
    have a2 := t_E_le t L _ a1.2
    show e ≤ t_E t L (t_S t L (t_ps t L e i)) ∧ t_E t L (t_S t L (t_ps t L e i)) ≤ L
    omega
theorem t_nx_le (t : Nat → Nat) (L e : Nat) (he : e ≤ L) (i : Nat) : e ≤ t_nx t L e i ∧ t_nx t L e i ≤ L := by
  have a := t_ps_le t L e he i
  have b := t_S_le t L _ a.2
  unfold t_nx
  omega
/-- the first of r tokens from the i-th on that is no number -/
def t_fb (t : Nat → Nat) (L e : Nat) : Nat → Nat → Option Nat
  | 0, _ => none
  | r + 1, i => if t_K t L (t_nx t L e i) = 3 then t_fb t L e r (i + 1) else some (t_nx t L e i)
/-- m numbers and a sign: where they break off -/
def t_rw (t : Nat → Nat) (L e m : Nat) : Option Nat := match t_fb t L e m 0 with
  | some p => some p
  | none => if t_K t L (t_nx t L e m) = 4 then none else some (t_nx t L e m)
/-- values -/
def t_va (t : Nat → Nat) (L e i : Nat) : Nat := t_v t L (t_nx t L e i)
/-- a fault is noted -/
def t_nt (q : Nat × Nat) (w p : Nat) : Nat × Nat := if q.1 = 0 then (w, p) else q
/-- numbers that can't be -/
def t_rq (r : List Nat) (v x : Nat → Nat) : Nat → Nat × Nat → Nat × Nat
  | 0, q => q
  | i + 1, q => if t_can (r.getD i 0) (v i) v = true then t_rq r v x i q else t_nt (t_rq r v x i q) 2 (x i)
/-! words as numbers -/
def w_e : List Nat → Nat
  | [] => 0
  | d :: r => 256 * w_e r + d
theorem w_e_inj : ∀ l m : List Nat, (∀ c ∈ l, 1 ≤ c ∧ c < 256) → (∀ c ∈ m, 1 ≤ c ∧ c < 256) → w_e l = w_e m → l = m := by
  intro l
  induction l with
  | nil =>
    intro m _ hm e
    cases m with
    | nil => rfl
    | cons d r =>
      have := hm d List.mem_cons_self
      have e' : 0 = 256 * w_e r + d := e
      omega
  | cons c l ih =>
    intro m hl hm e
    have h1 := hl c List.mem_cons_self
    cases m with
    | nil =>
      have e' : 256 * w_e l + c = 0 := e
      omega
    | cons d r =>
      have h2 := hm d List.mem_cons_self
      have e' : 256 * w_e l + c = 256 * w_e r + d := e
      have e1 : c = d := by omega
      have e2 : w_e l = w_e r := by omega
      rw [e1, ih r (fun c hc => hl c (List.mem_cons_of_mem _ hc)) (fun c hc => hm c (List.mem_cons_of_mem _ hc)) e2]
theorem t_wN_sn (t : Nat → Nat) : ∀ n a W, t_wN t (n + 1) a W = 256 * t_wN t n a W + t (a + n) := by
  intro n
  induction n with
  | zero => intro a W; rfl
  | succ n ih =>
    intro a W
    have e1 : t_wN t (n + 1 + 1) a W = t_wN t (n + 1) (a + 1) (256 * W + t a) := rfl
    have e2 : t_wN t (n + 1) a W = t_wN t n (a + 1) (256 * W + t a) := rfl
    rw [e1, ih, e2, show a + 1 + n = a + (n + 1) by omega]
theorem t_w_sn (t : Nat → Nat) (s n : Nat) : t_w t s (n + 1) = t_w t s n ++ [t (s + n)] := by
  unfold t_w
  rw [List.range_succ, List.map_append]
  rfl
theorem t_wN_e (t : Nat → Nat) (s n : Nat) : t_wN t n s 0 = w_e (t_w t s n).reverse := by
  induction n with
  | zero => rfl
  | succ n ih =>
    rw [t_wN_sn, t_w_sn, List.reverse_append]
    show 256 * t_wN t n s 0 + t (s + n) = 256 * w_e (t_w t s n).reverse + t (s + n)
    rw [ih]
theorem t_W_eq (t : Nat → Nat) (L s : Nat) (hK : t_K t L s = 2) (w : List Nat) (w8 : w.length ≤ 8) (wn : w ≠ []) (wb : ∀ c ∈ w, 1 ≤ c ∧ c < 256) : t_W t L s = w_e w.reverse ↔ t_w t s (t_E t L s - s) = w := by
  have c := t_K_lt (show t_K t L s ≠ 0 by omega)
  have cl : t_le (t s) = true := by
    unfold t_K at hK
    rw [if_pos c] at hK
    by_cases c1 : t_le (t s) = true
    · exact c1
    · rw [if_neg c1] at hK
      by_cases c2 : t_di (t s) = true
      · rw [if_pos c2] at hK
        by_cases c3 : 2 < t_E t L s - s
        · rw [if_pos c3] at hK; cases hK
        · rw [if_neg c3] at hK; cases hK
      · rw [if_neg c2] at hK
        by_cases c3 : t s = 59
        · rw [if_pos c3] at hK; cases hK
        · rw [if_neg c3] at hK; cases hK
  have eE : t_E t L s = t_wh t_le t (L - s) s := by unfold t_E; rw [if_pos c, if_pos cl]
  have al := t_wh_all t_le t (L - s) s
  rw [← eE] at al
  have rb : ∀ c ∈ w.reverse, 1 ≤ c ∧ c < 256 := fun c hc => wb c (List.mem_reverse.mp hc)
  have wz : w_e w.reverse ≠ 0 := by
    intro q
    have : w.reverse = [] := w_e_inj w.reverse [] rb (fun c hc => absurd hc List.not_mem_nil) q
    exact wn (List.reverse_eq_nil_iff.mp this)
  unfold t_W
  rw [if_pos ⟨c, cl⟩]
  by_cases c8 : 8 < t_E t L s - s
  · rw [if_pos c8]
    refine ⟨fun q => absurd q.symm wz, fun q => ?_⟩
    have := congrArg List.length q
    rw [t_w_len] at this
    omega
  · rw [if_neg c8, t_wN_e]
    constructor
    · intro q
      have tb : ∀ c ∈ (t_w t s (t_E t L s - s)).reverse, 1 ≤ c ∧ c < 256 := by
        intro c hc
        obtain ⟨i, hi, rfl⟩ := List.mem_map.mp (List.mem_reverse.mp hc)
        have hi' := List.mem_range.mp hi
        have := of_decide_eq_true (al (s + i) (by omega) (by omega))
        omega
      exact List.reverse_inj.mp (w_e_inj _ _ tb rb q)
    · intro q
      rw [q]
theorem t_W_lt (t : Nat → Nat) (L s : Nat) (hb : ∀ k, k < L → t k < 256) (hs : s ≤ L) : t_W t L s < 2 ^ 64 := by
  have key : ∀ n, s + n ≤ L → t_wN t n s 0 < 256 ^ n := by
    intro n
    induction n with
    | zero => intro _; exact Nat.zero_lt_one
    | succ n ih =>
      intro hn
      have i1 := ih (by omega)
      have i2 := hb (s + n) (by omega)
      rw [t_wN_sn, Nat.pow_succ]
      omega
  unfold t_W
  by_cases c : s < L ∧ t_le (t s) = true
  · rw [if_pos c]
    by_cases c8 : 8 < t_E t L s - s
    · rw [if_pos c8]; decide
    · rw [if_neg c8]
      have e := t_E_le t L s hs
      have k1 := key (t_E t L s - s) (by omega)
      have k2 : 256 ^ (t_E t L s - s) ≤ 256 ^ 8 := Nat.pow_le_pow_right (by decide) (by omega)
      have k3 : (256 : Nat) ^ 8 = 2 ^ 64 := by decide
      omega
  · rw [if_neg c]; decide
