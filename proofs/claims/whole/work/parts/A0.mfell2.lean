/-! part A0: what a line of a fell tells: the reference's row of numbers -/
theorem f_len : ∀ i, i < 18 → ln_s i = 0 → (ln_r i).length = if ln_c i = 7 then 3 else 2 := by decide +kernel
theorem f_at8 {v : Nat → Nat} (h0 : v 0 < 8) (h1 : v 1 < 8) : f_at v % 8 = v 0 ∧ f_at v / 8 = v 1 ∧ f_at v < 64 := by
  unfold f_at
  omega
theorem f_m_beast {T : Nat → Int32} {d : f_D} (H : f_mm T d.1) (n6 : F_n d.1 < 6) (i : Nat) (v : Nat → Nat) (c6 : ¬ ln_c i = 6) (c4 : ln_c i < 4) (h0 : v 0 < 8) (h1 : v 1 < 8) : f_mm (f_bT T (F_n d.1) (nI (ln_c i)) (nI (v 0)) (nI (v 1))) (f_upd i v d).1 := by
  obtain ⟨⟨a0, a1⟩, ⟨a2, a3⟩, ⟨a4, a5⟩, a6, a7, a8, a9, a10⟩ := H
  obtain ⟨e1, e2, e3⟩ := f_at8 h0 h1
  unfold f_upd
  rw [if_neg c6, if_pos c4]
  have lo : ∀ j, j < 7 → f_bT T (F_n d.1) (nI (ln_c i)) (nI (v 0)) (nI (v 1)) j = T j := fun j hj => by
    unfold f_bT
    rw [if_neg (by omega), if_neg (by omega), if_neg (by omega), if_neg (by omega)]
  refine ⟨⟨(lo 0 (by decide)).trans a0, (lo 1 (by decide)).trans a1⟩, ⟨(lo 2 (by decide)).trans a2, (lo 3 (by decide)).trans a3⟩, ⟨(lo 4 (by decide)).trans a4, (lo 5 (by decide)).trans a5⟩, (lo 6 (by decide)).trans a6, rfl, fun b hb => ?_, fun b hb => ⟨?_, ?_⟩, fun y x hy hx => ?_⟩
  · have hb' : b < F_n d.1 + 1 := hb
    show f_bT T (F_n d.1) (nI (ln_c i)) (nI (v 0)) (nI (v 1)) (8 + b) = nI (if b = F_n d.1 then ln_c i else F_kind d.1 b)
    unfold f_bT
    rw [if_neg (by omega), if_neg (by omega), if_neg (by omega)]
    by_cases c : b = F_n d.1
    · rw [if_pos (by omega), if_pos c]
    · rw [if_neg (by omega), if_neg c]; exact a8 b (by omega)
  · have hb' : b < F_n d.1 + 1 := hb
    show f_bT T (F_n d.1) (nI (ln_c i)) (nI (v 0)) (nI (v 1)) (14 + b) = nI ((if b = F_n d.1 then f_at v else F_cell d.1 b) % 8)
    unfold f_bT
    rw [if_neg (by omega), if_neg (by omega)]
    by_cases c : b = F_n d.1
    · rw [if_pos (by omega), if_pos c, e1]
    · rw [if_neg (by omega), if_neg (by omega), if_neg c]; exact (a9 b (by omega)).1
  · have hb' : b < F_n d.1 + 1 := hb
    show f_bT T (F_n d.1) (nI (ln_c i)) (nI (v 0)) (nI (v 1)) (20 + b) = nI ((if b = F_n d.1 then f_at v else F_cell d.1 b) / 8)
    unfold f_bT
    rw [if_neg (by omega)]
    by_cases c : b = F_n d.1
    · rw [if_pos (by omega), if_pos c, e2]
    · rw [if_neg (by omega), if_neg (by omega), if_neg (by omega), if_neg c]; exact (a9 b (by omega)).2
  · show q_bt (f_bT T (F_n d.1) (nI (ln_c i)) (nI (v 0)) (nI (v 1)) (26 + y)) x = F_wall d.1 (8 * y + x)
    have e : f_bT T (F_n d.1) (nI (ln_c i)) (nI (v 0)) (nI (v 1)) (26 + y) = T (26 + y) := by
      unfold f_bT
      rw [if_neg (by omega), if_neg (by omega), if_neg (by omega), if_neg (by omega)]
    rw [e]
    exact a10 y x hy hx
def f_wT (T : Nat → Int32) (k : Nat) (v : Int32) : Nat → Int32 := fun j => if j = k then v else T j
theorem f_wT_o (T : Nat → Int32) (k : Nat) (v : Int32) (j : Nat) (h : j ≠ k) : f_wT T k v j = T j := if_neg h
theorem f_m_size {T : Nat → Int32} {d : f_D} (H : f_mm T d.1) (i : Nat) (v : Nat → Nat) (c6 : ln_c i = 6) : f_mm (f_wT (f_wT T 0 (nI (v 0))) 1 (nI (v 1))) (f_upd i v d).1 := by
  obtain ⟨⟨a0, a1⟩, ⟨a2, a3⟩, ⟨a4, a5⟩, a6, a7, a8, a9, a10⟩ := H
  unfold f_upd
  rw [if_pos c6]
  have hi : ∀ j, 2 ≤ j → f_wT (f_wT T 0 (nI (v 0))) 1 (nI (v 1)) j = T j := fun j hj => by rw [f_wT_o _ _ _ _ (by omega), f_wT_o _ _ _ _ (by omega)]
  refine ⟨⟨rfl, rfl⟩, ⟨(hi 2 (by decide)).trans a2, (hi 3 (by decide)).trans a3⟩, ⟨(hi 4 (by decide)).trans a4, (hi 5 (by decide)).trans a5⟩, (hi 6 (by decide)).trans a6, (hi 7 (by decide)).trans a7, fun b hb => (hi _ (by omega)).trans (a8 b hb), fun b hb => ⟨(hi _ (by omega)).trans (a9 b hb).1, (hi _ (by omega)).trans (a9 b hb).2⟩, fun y x hy hx => ?_⟩
  rw [hi _ (by omega)]
  exact a10 y x hy hx
theorem f_m_pen {T : Nat → Int32} {d : f_D} (H : f_mm T d.1) (i : Nat) (v : Nat → Nat) (c5 : ln_c i = 5) (h0 : v 0 < 8) (h1 : v 1 < 8) : f_mm (f_wT (f_wT T 2 (nI (v 0))) 3 (nI (v 1))) (f_upd i v d).1 := by
  obtain ⟨⟨a0, a1⟩, ⟨a2, a3⟩, ⟨a4, a5⟩, a6, a7, a8, a9, a10⟩ := H
  obtain ⟨e1, e2, e3⟩ := f_at8 h0 h1
  unfold f_upd
  rw [if_neg (by omega), if_neg (by omega), if_neg (by omega), if_pos c5]
  have hi : ∀ j, j < 2 ∨ 4 ≤ j → f_wT (f_wT T 2 (nI (v 0))) 3 (nI (v 1)) j = T j := fun j hj => by rw [f_wT_o _ _ _ _ (by omega), f_wT_o _ _ _ _ (by omega)]
  refine ⟨⟨(hi 0 (by decide)).trans a0, (hi 1 (by decide)).trans a1⟩, ⟨?_, ?_⟩, ⟨(hi 4 (by decide)).trans a4, (hi 5 (by decide)).trans a5⟩, (hi 6 (by decide)).trans a6, (hi 7 (by decide)).trans a7, fun b hb => (hi _ (by omega)).trans (a8 b hb), fun b hb => ⟨(hi _ (by omega)).trans (a9 b hb).1, (hi _ (by omega)).trans (a9 b hb).2⟩, fun y x hy hx => ?_⟩
  · show nI (v 0) = nI (f_at v % 8)
    rw [e1]
  · show nI (v 1) = nI (f_at v / 8)
    rw [e2]
  · rw [hi _ (by omega)]
    exact a10 y x hy hx
theorem f_m_dog {T : Nat → Int32} {d : f_D} (H : f_mm T d.1) (i : Nat) (v : Nat → Nat) (c7 : ln_c i = 7) (h0 : v 0 < 8) (h1 : v 1 < 8) : f_mm (f_wT (f_wT (f_wT T 6 (nI (v 2))) 4 (nI (v 0))) 5 (nI (v 1))) (f_upd i v d).1 := by
  obtain ⟨⟨a0, a1⟩, ⟨a2, a3⟩, ⟨a4, a5⟩, a6, a7, a8, a9, a10⟩ := H
  obtain ⟨e1, e2, e3⟩ := f_at8 h0 h1
  unfold f_upd
  rw [if_neg (by omega), if_neg (by omega), if_neg (by omega), if_neg (by omega)]
  have hi : ∀ j, j < 4 ∨ 7 ≤ j → f_wT (f_wT (f_wT T 6 (nI (v 2))) 4 (nI (v 0))) 5 (nI (v 1)) j = T j := fun j hj => by rw [f_wT_o _ _ _ _ (by omega), f_wT_o _ _ _ _ (by omega), f_wT_o _ _ _ _ (by omega)]
  refine ⟨⟨(hi 0 (by decide)).trans a0, (hi 1 (by decide)).trans a1⟩, ⟨(hi 2 (by decide)).trans a2, (hi 3 (by decide)).trans a3⟩, ⟨?_, ?_⟩, rfl, (hi 7 (by decide)).trans a7, fun b hb => (hi _ (by omega)).trans (a8 b hb), fun b hb => ⟨(hi _ (by omega)).trans (a9 b hb).1, (hi _ (by omega)).trans (a9 b hb).2⟩, fun y x hy hx => ?_⟩
  · show nI (v 0) = nI (f_at v % 8)
    rw [e1]
  · show nI (v 1) = nI (f_at v / 8)
    rw [e2]
  · rw [hi _ (by omega)]
    exact a10 y x hy hx
theorem f_m_wall {T : Nat → Int32} {d : f_D} (H : f_mm T d.1) (n6 : F_n d.1 ≤ 6) (i : Nat) (v : Nat → Nat) (c4 : ln_c i = 4) (h0 : v 0 < 8) (h1 : v 1 < 8) : f_mm (f_wT T (26 + v 1) (T (26 + v 1) ||| ((1 : Int32) <<< (nI (v 0) &&& 31)))) (f_upd i v d).1 := by
  obtain ⟨⟨a0, a1⟩, ⟨a2, a3⟩, ⟨a4, a5⟩, a6, a7, a8, a9, a10⟩ := H
  obtain ⟨e1, e2, e3⟩ := f_at8 h0 h1
  unfold f_upd
  rw [if_neg (by omega), if_neg (by omega), if_pos c4]
  have hi : ∀ w j, j < 26 → f_wT T (26 + v 1) w j = T j := fun w j hj => f_wT_o _ _ _ _ (by omega)
  refine ⟨⟨(hi _ 0 (by decide)).trans a0, (hi _ 1 (by decide)).trans a1⟩, ⟨(hi _ 2 (by decide)).trans a2, (hi _ 3 (by decide)).trans a3⟩, ⟨(hi _ 4 (by decide)).trans a4, (hi _ 5 (by decide)).trans a5⟩, (hi _ 6 (by decide)).trans a6, (hi _ 7 (by decide)).trans a7, ?_, ?_, fun y x hy hx => ?_⟩
  · exact fun b hb => (hi _ _ (by have hb' : b < F_n d.1 := hb; omega)).trans (a8 b hb)
  · exact fun b hb => ⟨(hi _ _ (by have hb' : b < F_n d.1 := hb; omega)).trans (a9 b hb).1, (hi _ _ (by have hb' : b < F_n d.1 := hb; omega)).trans (a9 b hb).2⟩
  · show q_bt (f_wT T (26 + v 1) (T (26 + v 1) ||| ((1 : Int32) <<< (nI (v 0) &&& 31))) (26 + y)) x = q_bit (f_or (F_walls d.1) (f_at v)) (8 * y + x)
    have hb : q_bit (f_or (F_walls d.1) (f_at v)) (8 * y + x) = (q_bit (F_walls d.1) (8 * y + x) || decide (8 * y + x = f_at v)) := q_bit_or _ (f_at v) _ e3 (by omega)
    have ha : q_bt (T (26 + y)) x = q_bit (F_walls d.1) (8 * y + x) := a10 y x hy hx
    rw [hb, ← ha]
    unfold f_wT
    by_cases c : y = v 1
    · rw [if_pos (by omega), q_bt_or, q_bt_k (v 0) h0 x hx, c]
      congr 1
      exact decide_eq_decide.mpr ⟨fun w => by unfold f_at; omega, fun w => by unfold f_at at w; omega⟩
    · rw [if_neg (by omega), decide_eq_false (fun w => c (by unfold f_at at w; omega)), Bool.or_false]
