/-! part AB: the relation behind a text (printed by genAB.py) -/
theorem q_wd_ge (a : Nat) (ha : a < 9) : ((a = 1 ∨ a = 2 ∨ a = 3) → 1 ≤ q_wd a) ∧ (a = 4 → 4 ≤ q_wd a) ∧ (a = 5 → 68 ≤ q_wd a) ∧ (a = 6 → 162 ≤ q_wd a) ∧ (a = 7 → 78 ≤ q_wd a) ∧ (a = 8 → 98 ≤ q_wd a) := by
  have h : ∀ a, a < 9 → ((a = 1 ∨ a = 2 ∨ a = 3) → 1 ≤ q_wd a) ∧ (a = 4 → 4 ≤ q_wd a) ∧ (a = 5 → 68 ≤ q_wd a) ∧ (a = 6 → 162 ≤ q_wd a) ∧ (a = 7 → 78 ≤ q_wd a) ∧ (a = 8 → 98 ≤ q_wd a) := by decide
  exact h a ha
theorem q_mv0 (h : am_H) (a k : Nat) : q_mv h 0 a k = h.1 (212 + a) k := by
  show h.1 (212 + a) (q_wd a * 0 + k) = _
  rw [Nat.mul_zero, Nat.zero_add]
theorem q_cv1 (h : am_H) (o k : Nat) : q_cv h (q_at 0) o k = h.1 (1 + o) k := rfl
theorem F_mod_of {mv : Nat → Nat → Int32} {o : Nat} {f : q_Fl} {T : Nat → Int32} (n6 : F_n f ≤ 6) (M : f_mm T f) (q : ∀ j, j < 34 → mv 5 (o + j) = T j) : F_mod mv o f := by
  obtain ⟨⟨f0, f1⟩, f2, f3, f4, f5, f6, f7, f8⟩ := M
  refine ⟨(q 0 (by decide)).trans f0, (q 1 (by decide)).trans f1, ⟨(q 2 (by decide)).trans f2.1, (q 3 (by decide)).trans f2.2⟩, ⟨(q 4 (by decide)).trans f3.1, (q 5 (by decide)).trans f3.2⟩, (q 6 (by decide)).trans f4, (q 7 (by decide)).trans f5, fun b hb => ?_, fun b hb => ⟨?_, ?_⟩, fun y x hy hx => ?_⟩
  · rw [Nat.add_assoc, q (8 + b) (by omega)]; exact f6 b hb
  · rw [Nat.add_assoc, q (14 + b) (by omega)]; exact (f7 b hb).1
  · rw [Nat.add_assoc, q (20 + b) (by omega)]; exact (f7 b hb).2
  · rw [Nat.add_assoc, q (26 + y) (by omega)]; exact f8 y x hy hx
theorem D_mod_of {mv : Nat → Nat → Int32} {o : Nat} {f : q_Dr} {T : Nat → Int32} (n6 : f.1 ≤ 40) (M : d_mm T f) (q : ∀ j, j < 81 → mv 6 (o + j) = T j) : D_mod mv o f := by
  refine ⟨(q 0 (by decide)).trans M.1, fun b hb => ⟨?_, ?_⟩⟩
  · rw [Nat.add_assoc, q (1 + 2 * b) (by omega)]; exact (M.2 b hb).1
  · rw [Nat.add_assoc, q (2 + 2 * b) (by omega)]; exact (M.2 b hb).2
theorem B_mod_of {mv : Nat → Nat → Int32} {o : Nat} {f : q_Bk} {T : Nat → Int32} (ok : B_ok f) (M : b_mm T f) (q : ∀ j, j < 39 → mv 7 (o + j) = T j) : B_mod mv o f := by
  obtain ⟨n1, n2, n3, -⟩ := ok
  obtain ⟨f0, f1, f2, f3, f4, f5⟩ := M
  refine ⟨(q 0 (by decide)).trans f0, (q 1 (by decide)).trans f1, (q 2 (by decide)).trans f2, fun b hb => ⟨?_, ?_⟩, fun b hb => ⟨?_, ?_⟩, fun b hb => ?_⟩
  · rw [Nat.add_assoc, q (3 + b) (by omega)]; exact (f3 b hb).1
  · rw [Nat.add_assoc, q (8 + b) (by omega)]; exact (f3 b hb).2
  · rw [Nat.add_assoc, q (13 + b) (by omega)]; exact (f4 b hb).1
  · rw [Nat.add_assoc, q (21 + b) (by omega)]; exact (f4 b hb).2
  · rw [Nat.add_assoc, q (29 + b) (by omega)]; exact f5 b hb
theorem L_mod_of {mv : Nat → Nat → Int32} {o : Nat} {f : q_Lg} {T : Nat → Int32} (n6 : L_n f ≤ 8) (M : l_mm T f) (q : ∀ j, j < 49 → mv 8 (o + j) = T j) : L_mod mv o f := by
  obtain ⟨f0, f1⟩ := M
  refine ⟨(q 0 (by decide)).trans f0, fun b hb => ⟨?_, ⟨?_, ?_⟩, ⟨?_, ?_⟩, ?_⟩⟩
  · rw [Nat.add_assoc, q (1 + 6 * b) (by omega)]; exact (f1 b hb).1
  · rw [Nat.add_assoc, q (2 + 6 * b) (by omega)]; exact (f1 b hb).2.1.1
  · rw [Nat.add_assoc, q (3 + 6 * b) (by omega)]; exact (f1 b hb).2.1.2
  · rw [Nat.add_assoc, q (4 + 6 * b) (by omega)]; exact (f1 b hb).2.2.1.1
  · rw [Nat.add_assoc, q (5 + 6 * b) (by omega)]; exact (f1 b hb).2.2.1.2
  · rw [Nat.add_assoc, q (6 + 6 * b) (by omega)]; exact (f1 b hb).2.2.2
/-- nothing is taken -/
theorem x_fail {A : q_All} {h h' : am_H} (H : q_Rel A h) (ok' : am_okH h') (e0 : h'.1 211 0 = 0) (e1 : h'.1 1 1 = 0) (e2 : h'.1 213 0 = 0) (e3 : h'.1 1 2 = h'.1 214 0) (e4 : h'.1 1 3 = h'.1 215 0) (fc : ∀ x j, x < 159 → x ≠ 1 → h'.1 x j = h.1 x j) (fl : ∀ x j, x < 159 → h'.2.1 x j = h.2.1 x j) (fm : ∀ x j, 212 ≤ x → x ≤ 220 → ¬ (x = 213 ∧ j = 0) → ¬ (x = 214 ∧ j = 0) → ¬ (x = 215 ∧ j = 0) → h'.1 x j = h.1 x j) (f6 : ∀ j, h'.1 236 j = h.1 236 j) : am_Rel h' := by
  have qa : q_at 0 = 1 := rfl
  refine ⟨(0, A.2), H.now ok' e0 ⟨⟨Nat.zero_le _, e1, ?_, fun k hk => absurd hk (Nat.not_lt_zero _)⟩, ?_⟩ (fun a k p1 p2 => ⟨fc a k (by omega) (by omega), fl a k (by omega)⟩) (fun a k p1 p2 => ?_) f6⟩
  · rw [q_mv0]; exact e2
  · obtain ⟨b, c, d, e, f, g⟩ := H.2.2.1.2
    refine ⟨⟨by rw [q_mv0]; exact e3, by rw [q_mv0]; exact e4⟩, fun s hs => ?_, fun i hi => ?_, fun i hi => ?_, fun i hi => ?_, fun i hi => ?_⟩
    · obtain ⟨c1, c2, c3⟩ := c s hs
      rw [q_mv0] at c3 ⊢
      exact ⟨c1, (fc 3 s (by decide) (by decide)).trans c2, (fm 216 s (by decide) (by decide) (by omega) (by omega) (by omega)).trans c3⟩
    · obtain ⟨d1, d2, d3⟩ := d i hi
      have c0 : A.2.1 0 ≤ 2 := (c 0 (by decide)).1
      have hi2 : i < A.2.1 0 := hi
      have n6 : F_n (A.2.2.1 i) ≤ 6 := d1.2.2.2.2.2.1
      exact ⟨d1, d2.cg n6 (fun k hk => fc _ k (by omega) (by omega)) (fun k hk => fc _ k (by omega) (by omega)) (fun k hk => fc _ k (by omega) (by omega)) (fl _ 6 (by omega)), d3.cg n6 (fun k hk => by rw [q_mv0, q_mv0]; exact fm 217 _ (by decide) (by decide) (by omega) (by omega) (by omega))⟩
    · obtain ⟨d1, d2, d3⟩ := e i hi
      have c0 : A.2.1 1 ≤ 2 := (c 1 (by decide)).1
      have hi2 : i < A.2.1 1 := hi
      exact ⟨d1, d2.cg d1.1 (fc _ 0 (by omega) (by omega)) (fun k hk => fc _ k (by omega) (by omega)), d3.cg d1.1 (fun k hk => by rw [q_mv0, q_mv0]; exact fm 218 _ (by decide) (by decide) (by omega) (by omega) (by omega))⟩
    · obtain ⟨d1, d2, d3⟩ := f i hi
      have c0 : A.2.1 2 ≤ 2 := (c 2 (by decide)).1
      have hi2 : i < A.2.1 2 := hi
      exact ⟨d1, d2.cg d1 (fun k hk => fc _ k (by omega) (by omega)) (fun k hk => fc _ k (by omega) (by omega)) (fun k hk => fc _ k (by omega) (by omega)) (fun k hk => fc _ k (by omega) (by omega)) (fun k hk => fc _ k (by omega) (by omega)) (fun k hk => fc _ k (by omega) (by omega)), d3.cg d1 (fun k hk => by rw [q_mv0, q_mv0]; exact fm 219 _ (by decide) (by decide) (by omega) (by omega) (by omega))⟩
    · obtain ⟨d1, d2, d3⟩ := g i hi
      have c0 : A.2.1 3 ≤ 2 := (c 3 (by decide)).1
      have hi2 : i < A.2.1 3 := hi
      exact ⟨d1, d2.cg d1.1 (fc _ 0 (by omega) (by omega)) (fun k hk => fc _ k (by omega) (by omega)) (fun k hk => fc _ k (by omega) (by omega)) (fun k hk => fc _ k (by omega) (by omega)) (fun k hk => fc _ k (by omega) (by omega)), d3.cg d1.1 (fun k hk => by rw [q_mv0, q_mv0]; exact fm 220 _ (by decide) (by decide) (by omega) (by omega) (by omega))⟩
  · have w := q_wd_ge a p1
    exact fm (212 + a) k (by omega) (by omega) (by omega) (by omega) (by omega)

theorem x_ok_f {A : q_All} {h h' g : am_H} (H : q_Rel A h) (k : Nat) (k2 : k < 2) (kc : k ≤ A.2.1 0) (d : f_D) (dk : F_ok d.1) (ok' : am_okH h') (e0 : h'.1 211 0 = 0) (e1 : h'.1 1 1 = 0) (e2 : h'.1 213 0 = 0) (e3 : h'.1 1 2 = h'.1 214 0) (e4 : h'.1 1 3 = h'.1 215 0) (e5 : h'.1 3 0 = nI (max (A.2.1 0) (k + 1))) (e6 : h'.1 216 0 = nI (max (A.2.1 0) (k + 1))) (sc : F_cls g.1 g.2.1 160 d.1) (cp : (∀ c j, c < 3 → j < 6 → h'.1 (8 + 16 * k + c) j = g.1 (160 + c) j) ∧ h'.2.1 (8 + 16 * k) 6 = g.2.1 160 6) (T : Nat → Int32) (sm : f_mm T d.1) (st : ∀ j, j < 34 → h'.1 217 (34 * k + j) = T j) (fc : ∀ x j, x < 159 → x ≠ 1 → ¬ (x = 3 ∧ j = 0) → ¬ (8 + 16 * k ≤ x ∧ x ≤ 10 + 16 * k) → h'.1 x j = h.1 x j) (fl : ∀ x j, x < 159 → ¬ (8 + 16 * k ≤ x ∧ x ≤ 10 + 16 * k) → h'.2.1 x j = h.2.1 x j) (fm : ∀ x j, 212 ≤ x → x ≤ 220 → ¬ (x = 213 ∧ j = 0) → ¬ (x = 214 ∧ j = 0) → ¬ (x = 215 ∧ j = 0) → ¬ (x = 216 ∧ j = 0) → ¬ (x = 217 ∧ 34 * k ≤ j ∧ j < 34 * k + 34) → h'.1 x j = h.1 x j) (f6 : ∀ j, h'.1 236 j = h.1 236 j) : am_Rel h' := by
  have qa : q_at 0 = 1 := rfl
  refine ⟨(0, (fun s => if s = 0 then max (A.2.1 0) (k + 1) else A.2.1 s), (fun i => if i = k then d.1 else A.2.2.1 i), A.2.2.2.1, A.2.2.2.2.1, A.2.2.2.2.2), H.now ok' e0 ⟨⟨Nat.zero_le _, e1, ?_, fun k hk => absurd hk (Nat.not_lt_zero _)⟩, ?_⟩ (fun a k p1 p2 => ⟨fc a k (by omega) (by omega) (by omega) (by omega), fl a k (by omega) (by omega)⟩) (fun a k p1 p2 => ?_) f6⟩
  · rw [q_mv0]; exact e2
  · obtain ⟨b, c, d', e, f, g'⟩ := H.2.2.1.2
    refine ⟨⟨by rw [q_mv0]; exact e3, by rw [q_mv0]; exact e4⟩, fun s hs => ?_, fun i hi => ?_, fun i hi => ?_, fun i hi => ?_, fun i hi => ?_⟩
    · obtain ⟨c1, c2, c3⟩ := c s hs
      show (if s = 0 then max (A.2.1 0) (k + 1) else A.2.1 s) ≤ 2 ∧ h'.1 3 s = nI (if s = 0 then max (A.2.1 0) (k + 1) else A.2.1 s) ∧ q_mv h' 0 4 s = nI (if s = 0 then max (A.2.1 0) (k + 1) else A.2.1 s)
      rw [q_mv0] at c3 ⊢
      by_cases cs : s = 0
      · rw [if_pos cs, cs]
        rw [cs] at c1
        exact ⟨by omega, e5, e6⟩
      · rw [if_neg cs]
        exact ⟨c1, (fc 3 s (by decide) (by decide) (by omega) (by omega)).trans c2, (fm 216 s (by decide) (by decide) (by omega) (by omega) (by omega) (by omega) (by omega)).trans c3⟩
    · have hi2 : i < max (A.2.1 0) (k + 1) := hi
      have c0 : A.2.1 0 ≤ 2 := (c 0 (by decide)).1
      show F_ok (if i = k then d.1 else A.2.2.1 i) ∧ F_cls (q_cv h' (q_at 0)) (q_cl h' (q_at 0)) (7 + 16 * i) (if i = k then d.1 else A.2.2.1 i) ∧ F_mod (q_mv h' 0) (34 * i) (if i = k then d.1 else A.2.2.1 i)
      by_cases ci : i = k
      · rw [if_pos ci, ci]
        exact ⟨dk, sc.cg dk.2.2.2.2.2.1 (fun j hj => by rw [q_cv1, show 1 + (7 + 16 * k) = 8 + 16 * k + 0 by omega]; exact cp.1 0 j (by decide) hj) (fun j hj => by rw [q_cv1, show 1 + (7 + 16 * k + 1) = 8 + 16 * k + 1 by omega]; exact cp.1 1 j (by decide) hj) (fun j hj => by rw [q_cv1, show 1 + (7 + 16 * k + 2) = 8 + 16 * k + 2 by omega]; exact cp.1 2 j (by decide) hj) (by show h'.2.1 (1 + (7 + 16 * k)) 6 = _; rw [show 1 + (7 + 16 * k) = 8 + 16 * k by omega]; exact cp.2), F_mod_of dk.2.2.2.2.2.1 sm (fun j hj => by rw [q_mv0]; exact st j hj)⟩
      · rw [if_neg ci]
        obtain ⟨d1, d2, d3⟩ := d' i (by omega)
        have n6 : F_n (A.2.2.1 i) ≤ 6 := d1.2.2.2.2.2.1
        exact ⟨d1, d2.cg n6 (fun k hk => fc _ k (by omega) (by omega) (by omega) (by omega)) (fun k hk => fc _ k (by omega) (by omega) (by omega) (by omega)) (fun k hk => fc _ k (by omega) (by omega) (by omega) (by omega)) (fl _ 6 (by omega) (by omega)), d3.cg n6 (fun k hk => by rw [q_mv0, q_mv0]; exact fm 217 _ (by decide) (by decide) (by omega) (by omega) (by omega) (by omega) (by omega))⟩
    · have hi2 : i < A.2.1 1 := hi
      have c0 : A.2.1 1 ≤ 2 := (c 1 (by decide)).1
      obtain ⟨d1, d2, d3⟩ := e i hi2
      exact ⟨d1, d2.cg d1.1 (fc _ 0 (by omega) (by omega) (by omega) (by omega)) (fun k hk => fc _ k (by omega) (by omega) (by omega) (by omega)), d3.cg d1.1 (fun k hk => by rw [q_mv0, q_mv0]; exact fm 218 _ (by decide) (by decide) (by omega) (by omega) (by omega) (by omega) (by omega))⟩
    · have hi2 : i < A.2.1 2 := hi
      have c0 : A.2.1 2 ≤ 2 := (c 2 (by decide)).1
      obtain ⟨d1, d2, d3⟩ := f i hi2
      exact ⟨d1, d2.cg d1 (fun k hk => fc _ k (by omega) (by omega) (by omega) (by omega)) (fun k hk => fc _ k (by omega) (by omega) (by omega) (by omega)) (fun k hk => fc _ k (by omega) (by omega) (by omega) (by omega)) (fun k hk => fc _ k (by omega) (by omega) (by omega) (by omega)) (fun k hk => fc _ k (by omega) (by omega) (by omega) (by omega)) (fun k hk => fc _ k (by omega) (by omega) (by omega) (by omega)), d3.cg d1 (fun k hk => by rw [q_mv0, q_mv0]; exact fm 219 _ (by decide) (by decide) (by omega) (by omega) (by omega) (by omega) (by omega))⟩
    · have hi2 : i < A.2.1 3 := hi
      have c0 : A.2.1 3 ≤ 2 := (c 3 (by decide)).1
      obtain ⟨d1, d2, d3⟩ := g' i hi2
      exact ⟨d1, d2.cg d1.1 (fc _ 0 (by omega) (by omega) (by omega) (by omega)) (fun k hk => fc _ k (by omega) (by omega) (by omega) (by omega)) (fun k hk => fc _ k (by omega) (by omega) (by omega) (by omega)) (fun k hk => fc _ k (by omega) (by omega) (by omega) (by omega)) (fun k hk => fc _ k (by omega) (by omega) (by omega) (by omega)), d3.cg d1.1 (fun k hk => by rw [q_mv0, q_mv0]; exact fm 220 _ (by decide) (by decide) (by omega) (by omega) (by omega) (by omega) (by omega))⟩
  · have w := q_wd_ge a p1
    exact fm (212 + a) k (by omega) (by omega) (by omega) (by omega) (by omega) (by omega) (by omega)
theorem x_ok_d {A : q_All} {h h' g : am_H} (H : q_Rel A h) (k : Nat) (k2 : k < 2) (kc : k ≤ A.2.1 1) (d : q_Dr) (dk : D_ok d) (ok' : am_okH h') (e0 : h'.1 211 0 = 0) (e1 : h'.1 1 1 = 0) (e2 : h'.1 213 0 = 0) (e3 : h'.1 1 2 = h'.1 214 0) (e4 : h'.1 1 3 = h'.1 215 0) (e5 : h'.1 3 1 = nI (max (A.2.1 1) (k + 1))) (e6 : h'.1 216 1 = nI (max (A.2.1 1) (k + 1))) (sc : D_cls g.1 163 d) (cp : (h'.1 (11 + 16 * k) 0 = g.1 163 0 ∧ ∀ j, j < 40 → h'.1 (11 + 16 * k + 1) j = g.1 164 j)) (T : Nat → Int32) (sm : d_mm T d) (st : ∀ j, j < 81 → h'.1 218 (81 * k + j) = T j) (fc : ∀ x j, x < 159 → x ≠ 1 → ¬ (x = 3 ∧ j = 1) → ¬ (11 + 16 * k ≤ x ∧ x ≤ 12 + 16 * k) → h'.1 x j = h.1 x j) (fl : ∀ x j, x < 159 → ¬ (11 + 16 * k ≤ x ∧ x ≤ 12 + 16 * k) → h'.2.1 x j = h.2.1 x j) (fm : ∀ x j, 212 ≤ x → x ≤ 220 → ¬ (x = 213 ∧ j = 0) → ¬ (x = 214 ∧ j = 0) → ¬ (x = 215 ∧ j = 0) → ¬ (x = 216 ∧ j = 1) → ¬ (x = 218 ∧ 81 * k ≤ j ∧ j < 81 * k + 81) → h'.1 x j = h.1 x j) (f6 : ∀ j, h'.1 236 j = h.1 236 j) : am_Rel h' := by
  have qa : q_at 0 = 1 := rfl
  refine ⟨(0, (fun s => if s = 1 then max (A.2.1 1) (k + 1) else A.2.1 s), A.2.2.1, (fun i => if i = k then d else A.2.2.2.1 i), A.2.2.2.2.1, A.2.2.2.2.2), H.now ok' e0 ⟨⟨Nat.zero_le _, e1, ?_, fun k hk => absurd hk (Nat.not_lt_zero _)⟩, ?_⟩ (fun a k p1 p2 => ⟨fc a k (by omega) (by omega) (by omega) (by omega), fl a k (by omega) (by omega)⟩) (fun a k p1 p2 => ?_) f6⟩
  · rw [q_mv0]; exact e2
  · obtain ⟨b, c, d', e, f, g'⟩ := H.2.2.1.2
    refine ⟨⟨by rw [q_mv0]; exact e3, by rw [q_mv0]; exact e4⟩, fun s hs => ?_, fun i hi => ?_, fun i hi => ?_, fun i hi => ?_, fun i hi => ?_⟩
    · obtain ⟨c1, c2, c3⟩ := c s hs
      show (if s = 1 then max (A.2.1 1) (k + 1) else A.2.1 s) ≤ 2 ∧ h'.1 3 s = nI (if s = 1 then max (A.2.1 1) (k + 1) else A.2.1 s) ∧ q_mv h' 0 4 s = nI (if s = 1 then max (A.2.1 1) (k + 1) else A.2.1 s)
      rw [q_mv0] at c3 ⊢
      by_cases cs : s = 1
      · rw [if_pos cs, cs]
        rw [cs] at c1
        exact ⟨by omega, e5, e6⟩
      · rw [if_neg cs]
        exact ⟨c1, (fc 3 s (by decide) (by decide) (by omega) (by omega)).trans c2, (fm 216 s (by decide) (by decide) (by omega) (by omega) (by omega) (by omega) (by omega)).trans c3⟩
    · have hi2 : i < A.2.1 0 := hi
      have c0 : A.2.1 0 ≤ 2 := (c 0 (by decide)).1
      obtain ⟨d1, d2, d3⟩ := d' i hi2
      have n6 : F_n (A.2.2.1 i) ≤ 6 := d1.2.2.2.2.2.1
      exact ⟨d1, d2.cg n6 (fun k hk => fc _ k (by omega) (by omega) (by omega) (by omega)) (fun k hk => fc _ k (by omega) (by omega) (by omega) (by omega)) (fun k hk => fc _ k (by omega) (by omega) (by omega) (by omega)) (fl _ 6 (by omega) (by omega)), d3.cg n6 (fun k hk => by rw [q_mv0, q_mv0]; exact fm 217 _ (by decide) (by decide) (by omega) (by omega) (by omega) (by omega) (by omega))⟩
    · have hi2 : i < max (A.2.1 1) (k + 1) := hi
      have c0 : A.2.1 1 ≤ 2 := (c 1 (by decide)).1
      show D_ok (if i = k then d else A.2.2.2.1 i) ∧ D_cls (q_cv h' (q_at 0)) (10 + 16 * i) (if i = k then d else A.2.2.2.1 i) ∧ D_mod (q_mv h' 0) (81 * i) (if i = k then d else A.2.2.2.1 i)
      by_cases ci : i = k
      · rw [if_pos ci, ci]
        exact ⟨dk, sc.cg dk.1 (by rw [q_cv1, show 1 + (10 + 16 * k) = 11 + 16 * k by omega]; exact cp.1) (fun j hj => by rw [q_cv1, show 1 + (10 + 16 * k + 1) = 11 + 16 * k + 1 by omega]; exact cp.2 j hj), D_mod_of dk.1 sm (fun j hj => by rw [q_mv0]; exact st j hj)⟩
      · rw [if_neg ci]
        obtain ⟨d1, d2, d3⟩ := e i (by omega)
        exact ⟨d1, d2.cg d1.1 (fc _ 0 (by omega) (by omega) (by omega) (by omega)) (fun k hk => fc _ k (by omega) (by omega) (by omega) (by omega)), d3.cg d1.1 (fun k hk => by rw [q_mv0, q_mv0]; exact fm 218 _ (by decide) (by decide) (by omega) (by omega) (by omega) (by omega) (by omega))⟩
    · have hi2 : i < A.2.1 2 := hi
      have c0 : A.2.1 2 ≤ 2 := (c 2 (by decide)).1
      obtain ⟨d1, d2, d3⟩ := f i hi2
      exact ⟨d1, d2.cg d1 (fun k hk => fc _ k (by omega) (by omega) (by omega) (by omega)) (fun k hk => fc _ k (by omega) (by omega) (by omega) (by omega)) (fun k hk => fc _ k (by omega) (by omega) (by omega) (by omega)) (fun k hk => fc _ k (by omega) (by omega) (by omega) (by omega)) (fun k hk => fc _ k (by omega) (by omega) (by omega) (by omega)) (fun k hk => fc _ k (by omega) (by omega) (by omega) (by omega)), d3.cg d1 (fun k hk => by rw [q_mv0, q_mv0]; exact fm 219 _ (by decide) (by decide) (by omega) (by omega) (by omega) (by omega) (by omega))⟩
    · have hi2 : i < A.2.1 3 := hi
      have c0 : A.2.1 3 ≤ 2 := (c 3 (by decide)).1
      obtain ⟨d1, d2, d3⟩ := g' i hi2
      exact ⟨d1, d2.cg d1.1 (fc _ 0 (by omega) (by omega) (by omega) (by omega)) (fun k hk => fc _ k (by omega) (by omega) (by omega) (by omega)) (fun k hk => fc _ k (by omega) (by omega) (by omega) (by omega)) (fun k hk => fc _ k (by omega) (by omega) (by omega) (by omega)) (fun k hk => fc _ k (by omega) (by omega) (by omega) (by omega)), d3.cg d1.1 (fun k hk => by rw [q_mv0, q_mv0]; exact fm 220 _ (by decide) (by decide) (by omega) (by omega) (by omega) (by omega) (by omega))⟩
  · have w := q_wd_ge a p1
    exact fm (212 + a) k (by omega) (by omega) (by omega) (by omega) (by omega) (by omega) (by omega)
theorem x_ok_b {A : q_All} {h h' g : am_H} (H : q_Rel A h) (k : Nat) (k2 : k < 2) (kc : k ≤ A.2.1 2) (d : q_Bk) (dk : B_ok d) (ok' : am_okH h') (e0 : h'.1 211 0 = 0) (e1 : h'.1 1 1 = 0) (e2 : h'.1 213 0 = 0) (e3 : h'.1 1 2 = h'.1 214 0) (e4 : h'.1 1 3 = h'.1 215 0) (e5 : h'.1 3 2 = nI (max (A.2.1 2) (k + 1))) (e6 : h'.1 216 2 = nI (max (A.2.1 2) (k + 1))) (sc : B_cls g.1 165 d) (cp : (∀ c j, c < 6 → j < [3, 5, 5, 8, 8, 10].getD c 0 → h'.1 (13 + 16 * k + c) j = g.1 (165 + c) j)) (T : Nat → Int32) (sm : b_mm T d) (st : ∀ j, j < 39 → h'.1 219 (39 * k + j) = T j) (fc : ∀ x j, x < 159 → x ≠ 1 → ¬ (x = 3 ∧ j = 2) → ¬ (13 + 16 * k ≤ x ∧ x ≤ 18 + 16 * k) → h'.1 x j = h.1 x j) (fl : ∀ x j, x < 159 → ¬ (13 + 16 * k ≤ x ∧ x ≤ 18 + 16 * k) → h'.2.1 x j = h.2.1 x j) (fm : ∀ x j, 212 ≤ x → x ≤ 220 → ¬ (x = 213 ∧ j = 0) → ¬ (x = 214 ∧ j = 0) → ¬ (x = 215 ∧ j = 0) → ¬ (x = 216 ∧ j = 2) → ¬ (x = 219 ∧ 39 * k ≤ j ∧ j < 39 * k + 39) → h'.1 x j = h.1 x j) (f6 : ∀ j, h'.1 236 j = h.1 236 j) : am_Rel h' := by
  have qa : q_at 0 = 1 := rfl
  refine ⟨(0, (fun s => if s = 2 then max (A.2.1 2) (k + 1) else A.2.1 s), A.2.2.1, A.2.2.2.1, (fun i => if i = k then d else A.2.2.2.2.1 i), A.2.2.2.2.2), H.now ok' e0 ⟨⟨Nat.zero_le _, e1, ?_, fun k hk => absurd hk (Nat.not_lt_zero _)⟩, ?_⟩ (fun a k p1 p2 => ⟨fc a k (by omega) (by omega) (by omega) (by omega), fl a k (by omega) (by omega)⟩) (fun a k p1 p2 => ?_) f6⟩
  · rw [q_mv0]; exact e2
  · obtain ⟨b, c, d', e, f, g'⟩ := H.2.2.1.2
    refine ⟨⟨by rw [q_mv0]; exact e3, by rw [q_mv0]; exact e4⟩, fun s hs => ?_, fun i hi => ?_, fun i hi => ?_, fun i hi => ?_, fun i hi => ?_⟩
    · obtain ⟨c1, c2, c3⟩ := c s hs
      show (if s = 2 then max (A.2.1 2) (k + 1) else A.2.1 s) ≤ 2 ∧ h'.1 3 s = nI (if s = 2 then max (A.2.1 2) (k + 1) else A.2.1 s) ∧ q_mv h' 0 4 s = nI (if s = 2 then max (A.2.1 2) (k + 1) else A.2.1 s)
      rw [q_mv0] at c3 ⊢
      by_cases cs : s = 2
      · rw [if_pos cs, cs]
        rw [cs] at c1
        exact ⟨by omega, e5, e6⟩
      · rw [if_neg cs]
        exact ⟨c1, (fc 3 s (by decide) (by decide) (by omega) (by omega)).trans c2, (fm 216 s (by decide) (by decide) (by omega) (by omega) (by omega) (by omega) (by omega)).trans c3⟩
    · have hi2 : i < A.2.1 0 := hi
      have c0 : A.2.1 0 ≤ 2 := (c 0 (by decide)).1
      obtain ⟨d1, d2, d3⟩ := d' i hi2
      have n6 : F_n (A.2.2.1 i) ≤ 6 := d1.2.2.2.2.2.1
      exact ⟨d1, d2.cg n6 (fun k hk => fc _ k (by omega) (by omega) (by omega) (by omega)) (fun k hk => fc _ k (by omega) (by omega) (by omega) (by omega)) (fun k hk => fc _ k (by omega) (by omega) (by omega) (by omega)) (fl _ 6 (by omega) (by omega)), d3.cg n6 (fun k hk => by rw [q_mv0, q_mv0]; exact fm 217 _ (by decide) (by decide) (by omega) (by omega) (by omega) (by omega) (by omega))⟩
    · have hi2 : i < A.2.1 1 := hi
      have c0 : A.2.1 1 ≤ 2 := (c 1 (by decide)).1
      obtain ⟨d1, d2, d3⟩ := e i hi2
      exact ⟨d1, d2.cg d1.1 (fc _ 0 (by omega) (by omega) (by omega) (by omega)) (fun k hk => fc _ k (by omega) (by omega) (by omega) (by omega)), d3.cg d1.1 (fun k hk => by rw [q_mv0, q_mv0]; exact fm 218 _ (by decide) (by decide) (by omega) (by omega) (by omega) (by omega) (by omega))⟩
    · have hi2 : i < max (A.2.1 2) (k + 1) := hi
      have c0 : A.2.1 2 ≤ 2 := (c 2 (by decide)).1
      show B_ok (if i = k then d else A.2.2.2.2.1 i) ∧ B_cls (q_cv h' (q_at 0)) (12 + 16 * i) (if i = k then d else A.2.2.2.2.1 i) ∧ B_mod (q_mv h' 0) (39 * i) (if i = k then d else A.2.2.2.2.1 i)
      by_cases ci : i = k
      · rw [if_pos ci, ci]
        exact ⟨dk, sc.cg dk (fun j hj => by rw [q_cv1, show 1 + (12 + 16 * k) = 13 + 16 * k + 0 by omega]; exact cp 0 j (by decide) hj) (fun j hj => by rw [q_cv1, show 1 + (12 + 16 * k + 1) = 13 + 16 * k + 1 by omega]; exact cp 1 j (by decide) hj) (fun j hj => by rw [q_cv1, show 1 + (12 + 16 * k + 2) = 13 + 16 * k + 2 by omega]; exact cp 2 j (by decide) hj) (fun j hj => by rw [q_cv1, show 1 + (12 + 16 * k + 3) = 13 + 16 * k + 3 by omega]; exact cp 3 j (by decide) hj) (fun j hj => by rw [q_cv1, show 1 + (12 + 16 * k + 4) = 13 + 16 * k + 4 by omega]; exact cp 4 j (by decide) hj) (fun j hj => by rw [q_cv1, show 1 + (12 + 16 * k + 5) = 13 + 16 * k + 5 by omega]; exact cp 5 j (by decide) hj), B_mod_of dk sm (fun j hj => by rw [q_mv0]; exact st j hj)⟩
      · rw [if_neg ci]
        obtain ⟨d1, d2, d3⟩ := f i (by omega)
        exact ⟨d1, d2.cg d1 (fun k hk => fc _ k (by omega) (by omega) (by omega) (by omega)) (fun k hk => fc _ k (by omega) (by omega) (by omega) (by omega)) (fun k hk => fc _ k (by omega) (by omega) (by omega) (by omega)) (fun k hk => fc _ k (by omega) (by omega) (by omega) (by omega)) (fun k hk => fc _ k (by omega) (by omega) (by omega) (by omega)) (fun k hk => fc _ k (by omega) (by omega) (by omega) (by omega)), d3.cg d1 (fun k hk => by rw [q_mv0, q_mv0]; exact fm 219 _ (by decide) (by decide) (by omega) (by omega) (by omega) (by omega) (by omega))⟩
    · have hi2 : i < A.2.1 3 := hi
      have c0 : A.2.1 3 ≤ 2 := (c 3 (by decide)).1
      obtain ⟨d1, d2, d3⟩ := g' i hi2
      exact ⟨d1, d2.cg d1.1 (fc _ 0 (by omega) (by omega) (by omega) (by omega)) (fun k hk => fc _ k (by omega) (by omega) (by omega) (by omega)) (fun k hk => fc _ k (by omega) (by omega) (by omega) (by omega)) (fun k hk => fc _ k (by omega) (by omega) (by omega) (by omega)) (fun k hk => fc _ k (by omega) (by omega) (by omega) (by omega)), d3.cg d1.1 (fun k hk => by rw [q_mv0, q_mv0]; exact fm 220 _ (by decide) (by decide) (by omega) (by omega) (by omega) (by omega) (by omega))⟩
  · have w := q_wd_ge a p1
    exact fm (212 + a) k (by omega) (by omega) (by omega) (by omega) (by omega) (by omega) (by omega)
theorem x_ok_l {A : q_All} {h h' g : am_H} (H : q_Rel A h) (k : Nat) (k2 : k < 2) (kc : k ≤ A.2.1 3) (d : q_Lg) (dk : L_ok d) (ok' : am_okH h') (e0 : h'.1 211 0 = 0) (e1 : h'.1 1 1 = 0) (e2 : h'.1 213 0 = 0) (e3 : h'.1 1 2 = h'.1 214 0) (e4 : h'.1 1 3 = h'.1 215 0) (e5 : h'.1 3 3 = nI (max (A.2.1 3) (k + 1))) (e6 : h'.1 216 3 = nI (max (A.2.1 3) (k + 1))) (sc : L_cls g.1 171 d) (cp : (∀ c j, c < 5 → j < [1, 8, 8, 8, 8].getD c 0 → h'.1 (19 + 16 * k + c) j = g.1 (171 + c) j)) (T : Nat → Int32) (sm : l_mm T d) (st : ∀ j, j < 49 → h'.1 220 (49 * k + j) = T j) (fc : ∀ x j, x < 159 → x ≠ 1 → ¬ (x = 3 ∧ j = 3) → ¬ (19 + 16 * k ≤ x ∧ x ≤ 23 + 16 * k) → h'.1 x j = h.1 x j) (fl : ∀ x j, x < 159 → ¬ (19 + 16 * k ≤ x ∧ x ≤ 23 + 16 * k) → h'.2.1 x j = h.2.1 x j) (fm : ∀ x j, 212 ≤ x → x ≤ 220 → ¬ (x = 213 ∧ j = 0) → ¬ (x = 214 ∧ j = 0) → ¬ (x = 215 ∧ j = 0) → ¬ (x = 216 ∧ j = 3) → ¬ (x = 220 ∧ 49 * k ≤ j ∧ j < 49 * k + 49) → h'.1 x j = h.1 x j) (f6 : ∀ j, h'.1 236 j = h.1 236 j) : am_Rel h' := by
  have qa : q_at 0 = 1 := rfl
  refine ⟨(0, (fun s => if s = 3 then max (A.2.1 3) (k + 1) else A.2.1 s), A.2.2.1, A.2.2.2.1, A.2.2.2.2.1, (fun i => if i = k then d else A.2.2.2.2.2 i)), H.now ok' e0 ⟨⟨Nat.zero_le _, e1, ?_, fun k hk => absurd hk (Nat.not_lt_zero _)⟩, ?_⟩ (fun a k p1 p2 => ⟨fc a k (by omega) (by omega) (by omega) (by omega), fl a k (by omega) (by omega)⟩) (fun a k p1 p2 => ?_) f6⟩
  · rw [q_mv0]; exact e2
  · obtain ⟨b, c, d', e, f, g'⟩ := H.2.2.1.2
    refine ⟨⟨by rw [q_mv0]; exact e3, by rw [q_mv0]; exact e4⟩, fun s hs => ?_, fun i hi => ?_, fun i hi => ?_, fun i hi => ?_, fun i hi => ?_⟩
    · obtain ⟨c1, c2, c3⟩ := c s hs
      show (if s = 3 then max (A.2.1 3) (k + 1) else A.2.1 s) ≤ 2 ∧ h'.1 3 s = nI (if s = 3 then max (A.2.1 3) (k + 1) else A.2.1 s) ∧ q_mv h' 0 4 s = nI (if s = 3 then max (A.2.1 3) (k + 1) else A.2.1 s)
      rw [q_mv0] at c3 ⊢
      by_cases cs : s = 3
      · rw [if_pos cs, cs]
        rw [cs] at c1
        exact ⟨by omega, e5, e6⟩
      · rw [if_neg cs]
        exact ⟨c1, (fc 3 s (by decide) (by decide) (by omega) (by omega)).trans c2, (fm 216 s (by decide) (by decide) (by omega) (by omega) (by omega) (by omega) (by omega)).trans c3⟩
    · have hi2 : i < A.2.1 0 := hi
      have c0 : A.2.1 0 ≤ 2 := (c 0 (by decide)).1
      obtain ⟨d1, d2, d3⟩ := d' i hi2
      have n6 : F_n (A.2.2.1 i) ≤ 6 := d1.2.2.2.2.2.1
      exact ⟨d1, d2.cg n6 (fun k hk => fc _ k (by omega) (by omega) (by omega) (by omega)) (fun k hk => fc _ k (by omega) (by omega) (by omega) (by omega)) (fun k hk => fc _ k (by omega) (by omega) (by omega) (by omega)) (fl _ 6 (by omega) (by omega)), d3.cg n6 (fun k hk => by rw [q_mv0, q_mv0]; exact fm 217 _ (by decide) (by decide) (by omega) (by omega) (by omega) (by omega) (by omega))⟩
    · have hi2 : i < A.2.1 1 := hi
      have c0 : A.2.1 1 ≤ 2 := (c 1 (by decide)).1
      obtain ⟨d1, d2, d3⟩ := e i hi2
      exact ⟨d1, d2.cg d1.1 (fc _ 0 (by omega) (by omega) (by omega) (by omega)) (fun k hk => fc _ k (by omega) (by omega) (by omega) (by omega)), d3.cg d1.1 (fun k hk => by rw [q_mv0, q_mv0]; exact fm 218 _ (by decide) (by decide) (by omega) (by omega) (by omega) (by omega) (by omega))⟩
    · have hi2 : i < A.2.1 2 := hi
      have c0 : A.2.1 2 ≤ 2 := (c 2 (by decide)).1
      obtain ⟨d1, d2, d3⟩ := f i hi2
      exact ⟨d1, d2.cg d1 (fun k hk => fc _ k (by omega) (by omega) (by omega) (by omega)) (fun k hk => fc _ k (by omega) (by omega) (by omega) (by omega)) (fun k hk => fc _ k (by omega) (by omega) (by omega) (by omega)) (fun k hk => fc _ k (by omega) (by omega) (by omega) (by omega)) (fun k hk => fc _ k (by omega) (by omega) (by omega) (by omega)) (fun k hk => fc _ k (by omega) (by omega) (by omega) (by omega)), d3.cg d1 (fun k hk => by rw [q_mv0, q_mv0]; exact fm 219 _ (by decide) (by decide) (by omega) (by omega) (by omega) (by omega) (by omega))⟩
    · have hi2 : i < max (A.2.1 3) (k + 1) := hi
      have c0 : A.2.1 3 ≤ 2 := (c 3 (by decide)).1
      show L_ok (if i = k then d else A.2.2.2.2.2 i) ∧ L_cls (q_cv h' (q_at 0)) (18 + 16 * i) (if i = k then d else A.2.2.2.2.2 i) ∧ L_mod (q_mv h' 0) (49 * i) (if i = k then d else A.2.2.2.2.2 i)
      by_cases ci : i = k
      · rw [if_pos ci, ci]
        exact ⟨dk, sc.cg dk.1 (by rw [q_cv1, show 1 + (18 + 16 * k) = 19 + 16 * k + 0 by omega]; exact cp 0 0 (by decide) (by decide)) (fun j hj => by rw [q_cv1, show 1 + (18 + 16 * k + 1) = 19 + 16 * k + 1 by omega]; exact cp 1 j (by decide) hj) (fun j hj => by rw [q_cv1, show 1 + (18 + 16 * k + 2) = 19 + 16 * k + 2 by omega]; exact cp 2 j (by decide) hj) (fun j hj => by rw [q_cv1, show 1 + (18 + 16 * k + 3) = 19 + 16 * k + 3 by omega]; exact cp 3 j (by decide) hj) (fun j hj => by rw [q_cv1, show 1 + (18 + 16 * k + 4) = 19 + 16 * k + 4 by omega]; exact cp 4 j (by decide) hj), L_mod_of dk.1 sm (fun j hj => by rw [q_mv0]; exact st j hj)⟩
      · rw [if_neg ci]
        obtain ⟨d1, d2, d3⟩ := g' i (by omega)
        exact ⟨d1, d2.cg d1.1 (fc _ 0 (by omega) (by omega) (by omega) (by omega)) (fun k hk => fc _ k (by omega) (by omega) (by omega) (by omega)) (fun k hk => fc _ k (by omega) (by omega) (by omega) (by omega)) (fun k hk => fc _ k (by omega) (by omega) (by omega) (by omega)) (fun k hk => fc _ k (by omega) (by omega) (by omega) (by omega)), d3.cg d1.1 (fun k hk => by rw [q_mv0, q_mv0]; exact fm 220 _ (by decide) (by decide) (by omega) (by omega) (by omega) (by omega) (by omega))⟩
  · have w := q_wd_ge a p1
    exact fm (212 + a) k (by omega) (by omega) (by omega) (by omega) (by omega) (by omega) (by omega)
