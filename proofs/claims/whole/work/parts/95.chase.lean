/-! part 95: one beast alone: what is meant -/
def F_al (f : q_Fl) (b : Nat) : q_Fl := (F_w f, F_h f, F_pen f, F_dog f, F_eye f, 1, F_walls f, fun _ => F_kind f b, fun _ => F_cell f b)
theorem F_al_ok {f : q_Fl} (fk : F_ok f) {b : Nat} (hb : b < F_n f) : F_ok (F_al f b) := by
  obtain ⟨a1, a2, a3, a4, a5, a6, a7, a8, a9, a10, a11, a12⟩ := fk
  exact ⟨a1, a2, a3, a4, a5, by show 1 ≤ 6; decide, a7, a8, a9, a10, fun _ _ => a11 b hb, fun x y hx hy _ => by have h1 : x < 1 := hx; have h2 : y < 1 := hy; omega⟩
def G_sx (x y m w : Nat) : q_G := (x, 0, false, false, m, fun _ => y, fun _ => w)
theorem G_sx_co (x y m w m' w' : Nat) : G_co (G_sx x y m w) (G_sx x y m' w') := ⟨rfl, rfl, rfl, rfl, rfl⟩
theorem G_sx_in {f : q_Fl} {x y m w : Nat} (hx : F_in f x) (hy : F_in f y) : G_in f (G_sx x y m w) := ⟨hx, by show 0 < 64; decide, fun _ _ => hy⟩
theorem G_sx_pi {f : q_Fl} {x y m w : Nat} (hy : y ≠ F_pen f) : G_pi f (G_sx x y m w) := fun b _ => by
  show (0 : Nat).testBit b = decide (y = F_pen f)
  rw [Nat.zero_testBit, decide_eq_false hy]
/-- where the beast is behind its minute -/
def N_b (f : q_Fl) (x y : Nat) : Nat := G_at (G_go f (G_sx x y 0 0) 0) 0
theorem N_b_eq (f : q_Fl) (x y m w : Nat) : G_at (G_go f (G_sx x y m w) 0) 0 = N_b f x y := by
  unfold N_b
  rw [((G_sx_co x y m w 0 0).go f 0).2.2.2.2]
theorem N_b_in {f : q_Fl} (wf : F_wf f) (h1 : F_n f = 1) {x y : Nat} (hx : F_in f x) (hy : F_in f y) : F_in f (N_b f x y) := (G_go_in wf (G_sx_in hx hy) (b := 0) (by omega)).2.2 0 (by omega)
/-- where the dog comes to -/
def N_dg (f : q_Fl) (x y d : Nat) : Option Nat := match F_nx f x d with
  | none => none
  | some t => if t = F_pen f ∨ y = t then none else some t
theorem N_dg_G {f : q_Fl} (h1 : F_n f = 1) (g : q_G) (d : Nat) : G_dg f g d = match N_dg f (G_dog g) (G_at g 0) d with
    | none => none
    | some t => some (G_slies (G_sdog g t) false) := by
  have eb : ∀ t, G_bs f g t = decide (G_at g 0 = t) := fun t => by
    unfold G_bs
    rw [h1]
    show (decide (G_at g 0 = t) || false) = _
    rw [Bool.or_false]
  unfold G_dg N_dg
  cases F_nx f (G_dog g) d with
  | none => rfl
  | some t =>
    show (if t = F_pen f ∨ G_bs f g t = true then none else some (G_slies (G_sdog g t) false)) = match (if t = F_pen f ∨ G_at g 0 = t then none else some t) with
      | none => none
      | some t => some (G_slies (G_sdog g t) false)
    rw [eb t]
    by_cases c : t = F_pen f ∨ G_at g 0 = t
    · rw [if_pos c, if_pos (c.imp_right (fun w => decide_eq_true w))]
    · rw [if_neg c, if_neg (fun w => c (w.imp_right (fun v => of_decide_eq_true v)))]
theorem N_dg_ok {f : q_Fl} (wf : F_wf f) {x y d t : Nat} (hx : F_in f x) (h : N_dg f x y d = some t) : F_in f t ∧ t ≠ F_pen f ∧ t ≠ y := by
  unfold N_dg at h
  cases hn : F_nx f x d with
  | none => rw [hn] at h; cases h
  | some u =>
    rw [hn] at h
    have h' : (if u = F_pen f ∨ y = u then none else some u) = some t := h
    split at h'
    · cases h'
    · rename_i c
      cases h'
      exact ⟨F_nx_in wf hx hn, fun w => c (Or.inl w), fun w => c (Or.inr w.symm)⟩
/-- by n goings, the first by w, the dog has come to x, the beast being at y, ahead of its minute -/
def q_E (f : q_Fl) (x0 y0 : Nat) : Nat → Nat → Nat → Nat → Prop
  | 0, _, _, _ => False
  | n + 1, w, x, y => (n = 0 ∧ w < 4 ∧ N_dg f x0 y0 w = some x ∧ y = y0) ∨ ∃ x' y' v, v < 4 ∧ q_E f x0 y0 n w x' y' ∧ N_b f x' y' ≠ F_pen f ∧ N_dg f x' (N_b f x' y') v = some x ∧ y = N_b f x' y'
theorem q_E_ok {f : q_Fl} (wf : F_wf f) (h1 : F_n f = 1) {x0 y0 : Nat} (hx : F_in f x0) (hy : F_in f y0) (hp : y0 ≠ F_pen f) : ∀ n w x y, q_E f x0 y0 n w x y → (w < 4 ∧ 1 ≤ n) ∧ F_in f x ∧ F_in f y ∧ y ≠ F_pen f ∧ x ≠ F_pen f ∧ x ≠ y := by
  intro n
  induction n with
  | zero => intro w x y h; exact absurd h (fun w => w)
  | succ n ih =>
    intro w x y h
    rcases h with ⟨h1, h2, h3, h4⟩ | ⟨x', y', v, hv, he, hb, hd, hy'⟩
    · obtain ⟨a, b, c⟩ := N_dg_ok wf hx h3
      subst h4
      exact ⟨⟨h2, by omega⟩, a, hy, hp, b, c⟩
    · obtain ⟨⟨w1, w2⟩, e1, e2, e3, e4, e5⟩ := ih w x' y' he
      have bi := N_b_in wf h1 e1 e2
      obtain ⟨a, b, c⟩ := N_dg_ok wf e1 hd
      subst hy'
      exact ⟨⟨w1, by omega⟩, a, bi, hb, b, c⟩
def q_Pk (f : q_Fl) (x0 y0 k : Nat) : Prop := ∃ n w x y, k = 4 * n + w ∧ q_E f x0 y0 n w x y ∧ N_b f x y = F_pen f
noncomputable def q_M (f : q_Fl) (x0 y0 : Nat) : Option Nat := @dite _ (∃ k, q_Pk f x0 y0 k) (Classical.propDecidable _) (fun h => some (Classical.choose (pk_least _ h))) (fun _ => none)
theorem q_M_eq {f : q_Fl} {x0 y0 : Nat} (c : Option Nat) (h0 : c = none → ¬ ∃ k, q_Pk f x0 y0 k) (h1 : ∀ k, c = some k → q_Pk f x0 y0 k ∧ ∀ j, q_Pk f x0 y0 j → k ≤ j) : c = q_M f x0 y0 := by
  unfold q_M
  cases hc : c with
  | none => rw [dif_neg (h0 hc)]
  | some k =>
    obtain ⟨p1, p2⟩ := h1 k hc
    have e : ∃ k, q_Pk f x0 y0 k := ⟨k, p1⟩
    rw [dif_pos e]
    obtain ⟨g1, g2⟩ := Classical.choose_spec (pk_least _ e)
    generalize Classical.choose (pk_least (fun k => q_Pk f x0 y0 k) e) = m at g1 g2
    have := p2 m g1
    have : ¬ k < m := fun w => g2 k w p1
    congr 1
    omega
def q_Rc (f : q_Fl) (x0 y0 c : Nat) : Prop := c = y0 ∨ ∃ n w x y, q_E f x0 y0 n w x y ∧ N_b f x y = c
noncomputable def q_RcB (f : q_Fl) (x0 y0 c : Nat) : Bool := @decide (q_Rc f x0 y0 c) (Classical.propDecidable _)
theorem q_RcB_iff {f : q_Fl} {x0 y0 c : Nat} : q_RcB f x0 y0 c = true ↔ q_Rc f x0 y0 c := by
  unfold q_RcB
  exact @decide_eq_true_iff _ (Classical.propDecidable _)
noncomputable def q_reach (f : q_Fl) (x0 y0 : Nat) : Nat := q_ctB (fun m => q_RcB f x0 y0 (q_cell (F_w f) m)) (F_w f * F_h f) 0
/-! numbers of an entry -/
theorem q_orI (a b : Nat) : nI a ||| nI b = nI (a ||| b) := by
  apply Int32.toBitVec_inj.1
  show BitVec.ofNat 32 a ||| BitVec.ofNat 32 b = BitVec.ofNat 32 (a ||| b)
  apply BitVec.eq_of_getLsbD_eq
  intro i hi
  simp [hi]
def q_en (x y K : Nat) : Nat := x + 64 * y + 4096 * K
theorem q_en_put {x y w g : Nat} (hx : x < 64) (hy : y < 64) (hw : w < 4) (hg : g < 10000) : ((nI x ||| (nI y <<< ((6 : Int32) &&& 31))) ||| (nI w <<< ((12 : Int32) &&& 31))) ||| (nI g <<< ((14 : Int32) &&& 31)) = nI (q_en x y (4 * g + w)) := by
  have s6 : nI y <<< ((6 : Int32) &&& 31) = nI (y * 2 ^ 6) := pk_shlN _ 6 (by decide) (by omega)
  have s12 : nI w <<< ((12 : Int32) &&& 31) = nI (w * 2 ^ 12) := pk_shlN _ 12 (by decide) (by omega)
  have s14 : nI g <<< ((14 : Int32) &&& 31) = nI (g * 2 ^ 14) := pk_shlN _ 14 (by decide) (by omega)
  rw [s6, s12, s14, q_orI, q_orI, q_orI]
  have e1 : x ||| y * 2 ^ 6 = 2 ^ 6 * y + x := by
    rw [Nat.or_comm, Nat.mul_comm y, ← Nat.two_pow_add_eq_or_of_lt (i := 6) hx]
  have e2 : (2 ^ 6 * y + x) ||| w * 2 ^ 12 = 2 ^ 12 * w + (2 ^ 6 * y + x) := by
    rw [Nat.or_comm, Nat.mul_comm w, ← Nat.two_pow_add_eq_or_of_lt (i := 12) (by omega)]
  have e3 : (2 ^ 12 * w + (2 ^ 6 * y + x)) ||| g * 2 ^ 14 = 2 ^ 14 * g + (2 ^ 12 * w + (2 ^ 6 * y + x)) := by
    rw [Nat.or_comm, Nat.mul_comm g, ← Nat.two_pow_add_eq_or_of_lt (i := 14) (by omega)]
  rw [e1, e2, e3]
  congr 1
  unfold q_en
  omega
theorem q_en_get {x y K : Nat} (hx : x < 64) (hy : y < 64) (hK : K < 40000) : nI (q_en x y K) &&& 63 = nI x ∧ (nI (q_en x y K) >>> ((6 : Int32) &&& 31)) &&& 63 = nI y ∧ (nI (q_en x y K) >>> ((12 : Int32) &&& 31)) &&& 3 = nI (K % 4) ∧ nI (q_en x y K) >>> ((14 : Int32) &&& 31) = nI (K / 4) := by
  have l : q_en x y K < 2 ^ 31 := by unfold q_en; omega
  have s6 : nI (q_en x y K) >>> ((6 : Int32) &&& 31) = nI (q_en x y K / 2 ^ 6) := pk_shrN l _ 6 (by decide)
  have s12 : nI (q_en x y K) >>> ((12 : Int32) &&& 31) = nI (q_en x y K / 2 ^ 12) := pk_shrN l _ 12 (by decide)
  have s14 : nI (q_en x y K) >>> ((14 : Int32) &&& 31) = nI (q_en x y K / 2 ^ 14) := pk_shrN l _ 14 (by decide)
  refine ⟨?_, ?_, ?_, ?_⟩
  · rw [pk_andN (by omega) 6 (by decide)]
    congr 1
    unfold q_en
    omega
  · rw [s6, pk_andN (by omega) 6 (by decide)]
    congr 1
    unfold q_en
    omega
  · rw [s12, pk_andN (by omega) 2 (by decide)]
    congr 1
    unfold q_en
    omega
  · rw [s14]
    congr 1
    unfold q_en
    omega
/-! bits of a long -/
theorem q_shl64 : ∀ c, c < 64 → ((1 : Int64) <<< ((nI c).toInt64 &&& 63) = lN (2 ^ c)) := by decide +kernel
theorem q_bit_or (w : Int64) (y c : Nat) (hy : y < 64) (hc : c < 64) : q_bit (w ||| ((1 : Int64) <<< ((nI y).toInt64 &&& 63))) c = (q_bit w c || decide (c = y)) := by
  rw [q_shl64 y hy]
  have e : q_bit (w ||| lN (2 ^ y)) c = (q_bit w c || q_bit (lN (2 ^ y)) c) := by
    show (w ||| lN (2 ^ y)).toBitVec.getLsbD c = _
    rw [Int64.toBitVec_or, BitVec.getLsbD_or]
    rfl
  rw [e, q_bitN _ c hc, Nat.testBit_two_pow]
  congr 1
  exact decide_eq_decide.mpr ⟨fun w => w.symm, fun w => w.symm⟩
theorem q_bit_0 (c : Nat) : q_bit 0 c = false := by
  show (0 : Int64).toBitVec.getLsbD c = false
  show (0#64).getLsbD c = false
  simp
