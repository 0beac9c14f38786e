/-! part 23: what class and reference hold in common, cell by cell -/
/-- a fell: wide, high, pen, dog (8 times the row and the column), eye, beasts, walls, kinds, cells -/
abbrev q_Fl : Type := Nat × Nat × Nat × Nat × Nat × Nat × Int64 × (Nat → Nat) × (Nat → Nat)
def F_w (f : q_Fl) : Nat := f.1
def F_h (f : q_Fl) : Nat := f.2.1
def F_pen (f : q_Fl) : Nat := f.2.2.1
def F_dog (f : q_Fl) : Nat := f.2.2.2.1
def F_eye (f : q_Fl) : Nat := f.2.2.2.2.1
def F_n (f : q_Fl) : Nat := f.2.2.2.2.2.1
def F_walls (f : q_Fl) : Int64 := f.2.2.2.2.2.2.1
def F_kind (f : q_Fl) : Nat → Nat := f.2.2.2.2.2.2.2.1
def F_cell (f : q_Fl) : Nat → Nat := f.2.2.2.2.2.2.2.2
def q_bit (w : Int64) (c : Nat) : Bool := w.toBitVec.getLsbD c
def q_bt (w : Int32) (c : Nat) : Bool := w.toBitVec.getLsbD c
def F_wall (f : q_Fl) (c : Nat) : Bool := q_bit (F_walls f) c
def F_in (f : q_Fl) (c : Nat) : Prop := c < 64 ∧ c % 8 < F_w f ∧ c / 8 < F_h f
/-- a fell without a fault -/
def F_ok (f : q_Fl) : Prop := (2 ≤ F_w f ∧ F_w f ≤ 8) ∧ (2 ≤ F_h f ∧ F_h f ≤ 8) ∧ F_in f (F_pen f) ∧ F_in f (F_dog f) ∧ (1 ≤ F_eye f ∧ F_eye f ≤ 9) ∧ F_n f ≤ 6 ∧ (∀ c, c < 64 → F_wall f c = true → F_in f c) ∧ F_wall f (F_pen f) = false ∧ F_wall f (F_dog f) = false ∧ F_pen f ≠ F_dog f ∧
  (∀ b, b < F_n f → F_kind f b < 4 ∧ F_in f (F_cell f b) ∧ F_wall f (F_cell f b) = false ∧ F_cell f b ≠ F_pen f ∧ F_cell f b ≠ F_dog f) ∧ (∀ b c, b < F_n f → c < F_n f → F_cell f b = F_cell f c → b = c)
def F_cls (cv : Nat → Nat → Int32) (cl : Nat → Nat → Int64) (o : Nat) (f : q_Fl) : Prop := cv o 0 = nI (F_w f) ∧ cv o 1 = nI (F_h f) ∧ cv o 2 = nI (F_pen f) ∧ cv o 3 = nI (F_dog f) ∧ cv o 4 = nI (F_eye f) ∧ cv o 5 = nI (F_n f) ∧ cl o 6 = F_walls f ∧ (∀ b, b < F_n f → cv (o + 1) b = nI (F_kind f b)) ∧ (∀ b, b < F_n f → cv (o + 2) b = nI (F_cell f b))
def F_mod (mv : Nat → Nat → Int32) (o : Nat) (f : q_Fl) : Prop := mv 5 o = nI (F_w f) ∧ mv 5 (o + 1) = nI (F_h f) ∧ (mv 5 (o + 2) = nI (F_pen f % 8) ∧ mv 5 (o + 3) = nI (F_pen f / 8)) ∧ (mv 5 (o + 4) = nI (F_dog f % 8) ∧ mv 5 (o + 5) = nI (F_dog f / 8)) ∧ mv 5 (o + 6) = nI (F_eye f) ∧ mv 5 (o + 7) = nI (F_n f) ∧ (∀ b, b < F_n f → mv 5 (o + 8 + b) = nI (F_kind f b)) ∧ (∀ b, b < F_n f → mv 5 (o + 14 + b) = nI (F_cell f b % 8) ∧ mv 5 (o + 20 + b) = nI (F_cell f b / 8)) ∧ (∀ y x, y < 8 → x < 8 → q_bt (mv 5 (o + 26 + y)) x = F_wall f (8 * y + x))
/-- a drive: its whistles, one number each: a going as its direction, 4 lie, 5 stand, 6 back -/
abbrev q_Dr : Type := Nat × (Nat → Nat)
def D_cls (cv : Nat → Nat → Int32) (o : Nat) (d : q_Dr) : Prop := cv o 0 = nI d.1 ∧ (∀ k, k < d.1 → cv (o + 1) k = nI (d.2 k))
def D_mod (mv : Nat → Nat → Int32) (o : Nat) (d : q_Dr) : Prop := mv 6 o = nI d.1 ∧ (∀ k, k < d.1 → mv 6 (o + 1 + 2 * k) = nI (if d.2 k < 4 then 0 else d.2 k - 3) ∧ mv 6 (o + 2 + 2 * k) = if d.2 k < 4 then nI (d.2 k) else -1)
def D_ok (d : q_Dr) : Prop := d.1 ≤ 40 ∧ ∀ k, k < d.1 → d.2 k < 7
/-- a book: dogs, bargains, fields; eyes, turns, needs, worths, fields' worths -/
abbrev q_Bk : Type := Nat × Nat × Nat × (Nat → Nat) × (Nat → Nat) × (Nat → Nat) × (Nat → Nat) × (Nat → Nat)
def B_d (b : q_Bk) : Nat := b.1
def B_b (b : q_Bk) : Nat := b.2.1
def B_f (b : q_Bk) : Nat := b.2.2.1
def B_eye (b : q_Bk) : Nat → Nat := b.2.2.2.1
def B_turns (b : q_Bk) : Nat → Nat := b.2.2.2.2.1
def B_need (b : q_Bk) : Nat → Nat := b.2.2.2.2.2.1
def B_worth (b : q_Bk) : Nat → Nat := b.2.2.2.2.2.2.1
def B_field (b : q_Bk) : Nat → Nat := b.2.2.2.2.2.2.2
def B_ok (b : q_Bk) : Prop := B_d b ≤ 5 ∧ B_b b ≤ 8 ∧ B_f b ≤ 10 ∧ (∀ k, k < B_d b → (1 ≤ B_eye b k ∧ B_eye b k ≤ 9) ∧ B_turns b k ≤ 3) ∧ (∀ k, k < B_b b → (1 ≤ B_need b k ∧ B_need b k ≤ 9) ∧ B_worth b k ≤ 99) ∧ (∀ k, k < B_f b → B_field b k ≤ 99)
def B_cls (cv : Nat → Nat → Int32) (o : Nat) (b : q_Bk) : Prop := cv o 0 = nI (B_d b) ∧ cv o 1 = nI (B_b b) ∧ cv o 2 = nI (B_f b) ∧ (∀ k, k < B_d b → cv (o + 1) k = nI (B_eye b k) ∧ cv (o + 2) k = nI (B_turns b k)) ∧ (∀ k, k < B_b b → cv (o + 3) k = nI (B_need b k) ∧ cv (o + 4) k = nI (B_worth b k)) ∧ (∀ k, k < B_f b → cv (o + 5) k = nI (B_field b k))
def B_mod (mv : Nat → Nat → Int32) (o : Nat) (b : q_Bk) : Prop := mv 7 o = nI (B_d b) ∧ mv 7 (o + 1) = nI (B_b b) ∧ mv 7 (o + 2) = nI (B_f b) ∧ (∀ k, k < B_d b → mv 7 (o + 3 + k) = nI (B_eye b k) ∧ mv 7 (o + 8 + k) = nI (B_turns b k)) ∧ (∀ k, k < B_b b → mv 7 (o + 13 + k) = nI (B_need b k) ∧ mv 7 (o + 21 + k) = nI (B_worth b k)) ∧ (∀ k, k < B_f b → mv 7 (o + 29 + k) = nI (B_field b k))
/-- a log: its facts: what it did, the beast's cell, the dog's, the direction (4: none) -/
abbrev q_Lg : Type := Nat × (Nat → Nat) × (Nat → Nat) × (Nat → Nat) × (Nat → Nat)
def L_n (l : q_Lg) : Nat := l.1
def L_did (l : q_Lg) : Nat → Nat := l.2.1
def L_beast (l : q_Lg) : Nat → Nat := l.2.2.1
def L_dog (l : q_Lg) : Nat → Nat := l.2.2.2.1
def L_dir (l : q_Lg) : Nat → Nat := l.2.2.2.2
def L_way (l : q_Lg) (k : Nat) : Int32 := if L_did l k = 2 then -1 else nI (L_dir l k)
def L_ok (l : q_Lg) : Prop := L_n l ≤ 8 ∧ ∀ k, k < L_n l → L_did l k < 3 ∧ L_beast l k < 64 ∧ L_dog l k < 64 ∧ L_beast l k ≠ L_dog l k ∧ L_dir l k < 4
def L_cls (cv : Nat → Nat → Int32) (o : Nat) (l : q_Lg) : Prop := cv o 0 = nI (L_n l) ∧ (∀ k, k < L_n l → cv (o + 1) k = nI (L_did l k) ∧ cv (o + 2) k = nI (L_beast l k) ∧ cv (o + 3) k = nI (L_dog l k) ∧ cv (o + 4) k = L_way l k)
def L_mod (mv : Nat → Nat → Int32) (o : Nat) (l : q_Lg) : Prop := mv 8 o = nI (L_n l) ∧ (∀ k, k < L_n l → mv 8 (o + 1 + 6 * k) = nI (L_did l k) ∧ (mv 8 (o + 2 + 6 * k) = nI (L_beast l k % 8) ∧ mv 8 (o + 3 + 6 * k) = nI (L_beast l k / 8)) ∧ (mv 8 (o + 4 + 6 * k) = nI (L_dog l k % 8) ∧ mv 8 (o + 5 + 6 * k) = nI (L_dog l k / 8)) ∧ mv 8 (o + 6 + 6 * k) = L_way l k)
/-- all that an image has: how long the tape is, how many of each sort, the fells, drives, books, logs -/
abbrev q_All : Type := Nat × (Nat → Nat) × (Nat → q_Fl) × (Nat → q_Dr) × (Nat → q_Bk) × (Nat → q_Lg)
def q_RV (A : q_All) (cv : Nat → Nat → Int32) (cl : Nat → Nat → Int64) (mv : Nat → Nat → Int32) : Prop :=
  (A.1 ≤ 600 ∧ cv 0 1 = nI A.1 ∧ mv 1 0 = nI A.1 ∧ ∀ k, k < A.1 → am_byte (cv 1 k) = am_byte (mv 0 k)) ∧ (cv 0 2 = mv 2 0 ∧ cv 0 3 = mv 3 0) ∧
  (∀ s, s < 4 → A.2.1 s ≤ 2 ∧ cv 2 s = nI (A.2.1 s) ∧ mv 4 s = nI (A.2.1 s)) ∧
  (∀ i, i < A.2.1 0 → F_ok (A.2.2.1 i) ∧ F_cls cv cl (7 + 16 * i) (A.2.2.1 i) ∧ F_mod mv (34 * i) (A.2.2.1 i)) ∧
  (∀ i, i < A.2.1 1 → D_ok (A.2.2.2.1 i) ∧ D_cls cv (10 + 16 * i) (A.2.2.2.1 i) ∧ D_mod mv (81 * i) (A.2.2.2.1 i)) ∧
  (∀ i, i < A.2.1 2 → B_ok (A.2.2.2.2.1 i) ∧ B_cls cv (12 + 16 * i) (A.2.2.2.2.1 i) ∧ B_mod mv (39 * i) (A.2.2.2.2.1 i)) ∧
  (∀ i, i < A.2.1 3 → L_ok (A.2.2.2.2.2 i) ∧ L_cls cv (18 + 16 * i) (A.2.2.2.2.2 i) ∧ L_mod mv (49 * i) (A.2.2.2.2.2 i))
/-- how many elements one image takes in each of the reference's rows -/
def q_wd (a : Nat) : Nat := [600, 1, 1, 1, 4, 68, 162, 78, 98].getD a 0
def q_at (j : Nat) : Nat := [1, 41, 80, 119].getD j 0
def q_cv (h : am_H) (t : Nat) : Nat → Nat → Int32 := fun o k => h.1 (t + o) k
def q_cl (h : am_H) (t : Nat) : Nat → Nat → Int64 := fun o k => h.2.1 (t + o) k
def q_mv (h : am_H) (j : Nat) : Nat → Nat → Int32 := fun a k => h.1 (212 + a) (q_wd a * j + k)
def q_RS (A : q_All) (j : Nat) (h : am_H) : Prop := q_RV A (q_cv h (q_at j)) (q_cl h (q_at j)) (q_mv h j)
/-- the whole relation: A is what is told, B k the images -/
def q_Rel (A : q_All) (h : am_H) : Prop := am_okH h ∧ h.1 211 0 = 0 ∧ q_RS A 0 h ∧ ∀ k, k < 3 → h.1 158 k = h.1 236 k ∧ (h.1 158 k = 0 ∨ (h.1 158 k = 1 ∧ ∃ B : q_All, q_RS B (k + 1) h))
def am_Rel (h : am_H) : Prop := ∃ A : q_All, q_Rel A h
/-- at the beginning -/
theorem am_Rel_0 {h : am_H} (hc : am_chk h = true) : am_Rel h := by
  obtain ⟨h1, h2, h3⟩ := am_chk_spec hc
  have v := fun (q : Nat × Nat × Int32) (hq : q ∈ am_IL) => h3 q hq
  refine ⟨(0, fun _ => 0, fun _ => (0, 0, 0, 0, 0, 0, 0, fun _ => 0, fun _ => 0), fun _ => (0, fun _ => 0), fun _ => (0, 0, 0, fun _ => 0, fun _ => 0, fun _ => 0, fun _ => 0, fun _ => 0), fun _ => (0, fun _ => 0, fun _ => 0, fun _ => 0, fun _ => 0)), ⟨h1, fun q hq _ => h2 q hq⟩, v (211, 0, 0) (by decide +kernel), ?_, ?_⟩
  · refine ⟨⟨Nat.zero_le _, v (1, 1, 0) (by decide +kernel), v (213, 0, 0) (by decide +kernel), fun k hk => absurd hk (Nat.not_lt_zero _)⟩, ⟨(v (1, 2, 0) (by decide +kernel)).trans (v (214, 0, 0) (by decide +kernel)).symm, (v (1, 3, -1) (by decide +kernel)).trans (v (215, 0, -1) (by decide +kernel)).symm⟩, ?_, fun i hi => absurd hi (Nat.not_lt_zero _), fun i hi => absurd hi (Nat.not_lt_zero _), fun i hi => absurd hi (Nat.not_lt_zero _), fun i hi => absurd hi (Nat.not_lt_zero _)⟩
    intro s hs
    have hs4 : s = 0 ∨ s = 1 ∨ s = 2 ∨ s = 3 := by omega
    rcases hs4 with rfl | rfl | rfl | rfl
    · exact ⟨Nat.zero_le _, v (3, 0, 0) (by decide +kernel), v (216, 0, 0) (by decide +kernel)⟩
    · exact ⟨Nat.zero_le _, v (3, 1, 0) (by decide +kernel), v (216, 1, 0) (by decide +kernel)⟩
    · exact ⟨Nat.zero_le _, v (3, 2, 0) (by decide +kernel), v (216, 2, 0) (by decide +kernel)⟩
    · exact ⟨Nat.zero_le _, v (3, 3, 0) (by decide +kernel), v (216, 3, 0) (by decide +kernel)⟩
  · intro k hk
    have hk3 : k = 0 ∨ k = 1 ∨ k = 2 := by omega
    rcases hk3 with rfl | rfl | rfl
    · exact ⟨(v (158, 0, 0) (by decide +kernel)).trans (v (236, 0, 0) (by decide +kernel)).symm, Or.inl (v (158, 0, 0) (by decide +kernel))⟩
    · exact ⟨(v (158, 1, 0) (by decide +kernel)).trans (v (236, 1, 0) (by decide +kernel)).symm, Or.inl (v (158, 1, 0) (by decide +kernel))⟩
    · exact ⟨(v (158, 2, 0) (by decide +kernel)).trans (v (236, 2, 0) (by decide +kernel)).symm, Or.inl (v (158, 2, 0) (by decide +kernel))⟩
/-- cells that are told -/
def q_told (a k : Nat) : Prop := a ≤ 158 ∨ (212 ≤ a ∧ a ≤ 220) ∨ a = 236 ∨ (a = 211 ∧ k = 0)
/-- only the rest has changed -/
def q_wk (h h' : am_H) : Prop := am_okH h' ∧ h'.2.2.2.2 = h.2.2.2.2 ∧ ∀ a k, q_told a k → h'.1 a k = h.1 a k ∧ h'.2.1 a k = h.2.1 a k
theorem q_wk.rf {h : am_H} (ok : am_okH h) : q_wk h h := ⟨ok, rfl, fun _ _ _ => ⟨rfl, rfl⟩⟩
theorem q_wk.tr {h h' h'' : am_H} (a : q_wk h h') (b : q_wk h' h'') : q_wk h h'' := ⟨b.1, b.2.1.trans a.2.1, fun c k q => ⟨(b.2.2 c k q).1.trans (a.2.2 c k q).1, (b.2.2 c k q).2.trans (a.2.2 c k q).2⟩⟩
/-- a relation looks at its own cells only -/
theorem q_RV.cg {A : q_All} {cv cv' : Nat → Nat → Int32} {cl cl' : Nat → Nat → Int64} {mv mv' : Nat → Nat → Int32} (H : q_RV A cv cl mv) (hc : ∀ o k, o < 39 → o ≠ 1 → k < 64 → cv' o k = cv o k) (hb : ∀ k, k < 600 → am_byte (cv' 1 k) = am_byte (cv 1 k)) (hl : ∀ o k, o < 39 → cl' o k = cl o k) (hm : ∀ a k, 1 ≤ a → a < 9 → k < q_wd a → mv' a k = mv a k) (hm0 : ∀ k, k < 600 → am_byte (mv' 0 k) = am_byte (mv 0 k)) : q_RV A cv' cl' mv' := by
  obtain ⟨⟨a1, a2, a3, a4⟩, ⟨b1, b2⟩, c, d, e, f, g⟩ := H
  have c0 := (c 0 (by decide)).1
  have c1 := (c 1 (by decide)).1
  have c2 := (c 2 (by decide)).1
  have c3 := (c 3 (by decide)).1
  refine ⟨⟨a1, ?_, ?_, fun k hk => ?_⟩, ⟨?_, ?_⟩, fun s hs => ?_, fun i hi => ?_, fun i hi => ?_, fun i hi => ?_, fun i hi => ?_⟩
  · rw [hc 0 1 (by decide) (by decide) (by decide)]; exact a2
  · rw [hm 1 0 (by decide) (by decide) (by decide)]; exact a3
  · rw [hb k (by omega), hm0 k (by omega)]; exact a4 k hk
  · rw [hc 0 2 (by decide) (by decide) (by decide), hm 2 0 (by decide) (by decide) (by decide)]; exact b1
  · rw [hc 0 3 (by decide) (by decide) (by decide), hm 3 0 (by decide) (by decide) (by decide)]; exact b2
  · rw [hc 2 s (by decide) (by decide) (by omega), hm 4 s (by decide) (by decide) (by show s < 4; omega)]; exact c s hs
  · obtain ⟨d1, ⟨e0, e1, e2, e3, e4, e5, e6, e7, e8⟩, ⟨f0, f1, f2, f3, f4, f5, f6, f7, f8⟩⟩ := d i hi
    have n6 : F_n (A.2.2.1 i) ≤ 6 := d1.2.2.2.2.2.1
    have q5 : ∀ k, k < 34 → mv' 5 (34 * i + k) = mv 5 (34 * i + k) := fun k hk => hm 5 _ (by decide) (by decide) (by show _ < 68; omega)
    refine ⟨d1, ⟨?_, ?_, ?_, ?_, ?_, ?_, ?_, fun b hb => ?_, fun b hb => ?_⟩, ⟨?_, ?_, ⟨?_, ?_⟩, ⟨?_, ?_⟩, ?_, ?_, fun b hb => ?_, fun b hb => ⟨?_, ?_⟩, fun y x hy hx => ?_⟩⟩
    · rw [hc _ _ (by omega) (by omega) (by decide)]; exact e0
    · rw [hc _ _ (by omega) (by omega) (by decide)]; exact e1
    · rw [hc _ _ (by omega) (by omega) (by decide)]; exact e2
    · rw [hc _ _ (by omega) (by omega) (by decide)]; exact e3
    · rw [hc _ _ (by omega) (by omega) (by decide)]; exact e4
    · rw [hc _ _ (by omega) (by omega) (by decide)]; exact e5
    · rw [hl _ _ (by omega)]; exact e6
    · rw [hc _ _ (by omega) (by omega) (by omega)]; exact e7 b hb
    · rw [hc _ _ (by omega) (by omega) (by omega)]; exact e8 b hb
    · rw [show 34 * i = 34 * i + 0 from rfl, q5 0 (by decide)]; exact f0
    · rw [q5 1 (by decide)]; exact f1
    · rw [q5 2 (by decide)]; exact f2.1
    · rw [q5 3 (by decide)]; exact f2.2
    · rw [q5 4 (by decide)]; exact f3.1
    · rw [q5 5 (by decide)]; exact f3.2
    · rw [q5 6 (by decide)]; exact f4
    · rw [q5 7 (by decide)]; exact f5
    · rw [Nat.add_assoc, q5 (8 + b) (by omega), ← Nat.add_assoc]; exact f6 b hb
    · rw [Nat.add_assoc, q5 (14 + b) (by omega), ← Nat.add_assoc]; exact (f7 b hb).1
    · rw [Nat.add_assoc, q5 (20 + b) (by omega), ← Nat.add_assoc]; exact (f7 b hb).2
    · rw [Nat.add_assoc, q5 (26 + y) (by omega), ← Nat.add_assoc]; exact f8 y x hy hx
  · obtain ⟨d1, ⟨e0, e1⟩, ⟨f0, f1⟩⟩ := e i hi
    have n6 : (A.2.2.2.1 i).1 ≤ 40 := d1.1
    have q5 : ∀ k, k < 81 → mv' 6 (81 * i + k) = mv 6 (81 * i + k) := fun k hk => hm 6 _ (by decide) (by decide) (by show _ < 162; omega)
    refine ⟨d1, ⟨?_, fun b hb => ?_⟩, ⟨?_, fun b hb => ⟨?_, ?_⟩⟩⟩
    · rw [hc _ _ (by omega) (by omega) (by decide)]; exact e0
    · rw [hc _ _ (by omega) (by omega) (by omega)]; exact e1 b hb
    · rw [show 81 * i = 81 * i + 0 from rfl, q5 0 (by decide)]; exact f0
    · rw [Nat.add_assoc, q5 (1 + 2 * b) (by omega), ← Nat.add_assoc]; exact (f1 b hb).1
    · rw [Nat.add_assoc, q5 (2 + 2 * b) (by omega), ← Nat.add_assoc]; exact (f1 b hb).2
  · obtain ⟨d1, ⟨e0, e1, e2, e3, e4, e5⟩, ⟨f0, f1, f2, f3, f4, f5⟩⟩ := f i hi
    obtain ⟨n1, n2, n3, -⟩ := d1
    have d1 := (f i hi).1
    have q5 : ∀ k, k < 39 → mv' 7 (39 * i + k) = mv 7 (39 * i + k) := fun k hk => hm 7 _ (by decide) (by decide) (by show _ < 78; omega)
    refine ⟨d1, ⟨?_, ?_, ?_, fun b hb => ⟨?_, ?_⟩, fun b hb => ⟨?_, ?_⟩, fun b hb => ?_⟩, ⟨?_, ?_, ?_, fun b hb => ⟨?_, ?_⟩, fun b hb => ⟨?_, ?_⟩, fun b hb => ?_⟩⟩
    · rw [hc _ _ (by omega) (by omega) (by decide)]; exact e0
    · rw [hc _ _ (by omega) (by omega) (by decide)]; exact e1
    · rw [hc _ _ (by omega) (by omega) (by decide)]; exact e2
    · rw [hc _ _ (by omega) (by omega) (by omega)]; exact (e3 b hb).1
    · rw [hc _ _ (by omega) (by omega) (by omega)]; exact (e3 b hb).2
    · rw [hc _ _ (by omega) (by omega) (by omega)]; exact (e4 b hb).1
    · rw [hc _ _ (by omega) (by omega) (by omega)]; exact (e4 b hb).2
    · rw [hc _ _ (by omega) (by omega) (by omega)]; exact e5 b hb
    · rw [show 39 * i = 39 * i + 0 from rfl, q5 0 (by decide)]; exact f0
    · rw [q5 1 (by decide)]; exact f1
    · rw [q5 2 (by decide)]; exact f2
    · rw [Nat.add_assoc, q5 (3 + b) (by omega), ← Nat.add_assoc]; exact (f3 b hb).1
    · rw [Nat.add_assoc, q5 (8 + b) (by omega), ← Nat.add_assoc]; exact (f3 b hb).2
    · rw [Nat.add_assoc, q5 (13 + b) (by omega), ← Nat.add_assoc]; exact (f4 b hb).1
    · rw [Nat.add_assoc, q5 (21 + b) (by omega), ← Nat.add_assoc]; exact (f4 b hb).2
    · rw [Nat.add_assoc, q5 (29 + b) (by omega), ← Nat.add_assoc]; exact f5 b hb
  · obtain ⟨d1, ⟨e0, e1⟩, ⟨f0, f1⟩⟩ := g i hi
    have n6 : L_n (A.2.2.2.2.2 i) ≤ 8 := d1.1
    have q5 : ∀ k, k < 49 → mv' 8 (49 * i + k) = mv 8 (49 * i + k) := fun k hk => hm 8 _ (by decide) (by decide) (by show _ < 98; omega)
    refine ⟨d1, ⟨?_, fun b hb => ⟨?_, ?_, ?_, ?_⟩⟩, ⟨?_, fun b hb => ⟨?_, ⟨?_, ?_⟩, ⟨?_, ?_⟩, ?_⟩⟩⟩
    · rw [hc _ _ (by omega) (by omega) (by decide)]; exact e0
    · rw [hc _ _ (by omega) (by omega) (by omega)]; exact (e1 b hb).1
    · rw [hc _ _ (by omega) (by omega) (by omega)]; exact (e1 b hb).2.1
    · rw [hc _ _ (by omega) (by omega) (by omega)]; exact (e1 b hb).2.2.1
    · rw [hc _ _ (by omega) (by omega) (by omega)]; exact (e1 b hb).2.2.2
    · rw [show 49 * i = 49 * i + 0 from rfl, q5 0 (by decide)]; exact f0
    · rw [Nat.add_assoc, q5 (1 + 6 * b) (by omega), ← Nat.add_assoc]; exact (f1 b hb).1
    · rw [Nat.add_assoc, q5 (2 + 6 * b) (by omega), ← Nat.add_assoc]; exact (f1 b hb).2.1.1
    · rw [Nat.add_assoc, q5 (3 + 6 * b) (by omega), ← Nat.add_assoc]; exact (f1 b hb).2.1.2
    · rw [Nat.add_assoc, q5 (4 + 6 * b) (by omega), ← Nat.add_assoc]; exact (f1 b hb).2.2.1.1
    · rw [Nat.add_assoc, q5 (5 + 6 * b) (by omega), ← Nat.add_assoc]; exact (f1 b hb).2.2.1.2
    · rw [Nat.add_assoc, q5 (6 + 6 * b) (by omega), ← Nat.add_assoc]; exact (f1 b hb).2.2.2
theorem q_at_le {j : Nat} (hj : j < 4) : q_at j ≤ 119 := by
  have : j = 0 ∨ j = 1 ∨ j = 2 ∨ j = 3 := by omega
  rcases this with rfl | rfl | rfl | rfl <;> decide
theorem q_RS.cg {A : q_All} {j : Nat} {h h' : am_H} (hj : j < 4) (H : q_RS A j h) (e : ∀ a k, q_told a k → h'.1 a k = h.1 a k ∧ h'.2.1 a k = h.2.1 a k) : q_RS A j h' := by
  have ht := q_at_le hj
  refine q_RV.cg H (fun o k ho _ _ => (e _ _ (Or.inl (by omega))).1) (fun k _ => congrArg am_byte (e _ _ (Or.inl (by omega))).1) (fun o k ho => (e _ _ (Or.inl (by omega))).2) (fun a k h1 h9 _ => (e _ _ (Or.inr (Or.inl ⟨by omega, by omega⟩))).1) (fun k _ => congrArg am_byte (e _ _ (Or.inr (Or.inl ⟨by omega, by omega⟩))).1)
theorem q_Rel.wk {A : q_All} {h h' : am_H} (H : q_Rel A h) (e : q_wk h h') : q_Rel A h' := by
  obtain ⟨h1, h2, h3, h4⟩ := H
  obtain ⟨e1, -, e3⟩ := e
  refine ⟨e1, ((e3 211 0 (Or.inr (Or.inr (Or.inr ⟨rfl, rfl⟩)))).1).trans h2, h3.cg (by decide) e3, fun k hk => ?_⟩
  have r1 := (e3 158 k (Or.inl (Nat.le_refl _))).1
  have r2 := (e3 236 k (Or.inr (Or.inr (Or.inl rfl)))).1
  rw [r1, r2]
  obtain ⟨g1, g2⟩ := h4 k hk
  refine ⟨g1, g2.imp_right (fun q => ⟨q.1, ?_⟩)⟩
  obtain ⟨B, hB⟩ := q.2
  exact ⟨B, hB.cg (by omega) e3⟩
/-- a call on both objects, with the same answer -/
def am_prI (kc km : Nat) (as : List Value) : Prop := ∀ h : am_H, am_Rel h → ∃ (v : Int32) (h1 h2 : am_H), am_okH h1 ∧ h1.2.2.2.2 = h.2.2.2.2 ∧ am_den kc (.ref 0 :: as) h = some (some (.int v), h1) ∧ am_den km (.ref 211 :: as) h1 = some (some (.int v), h2) ∧ am_Rel h2 ∧ h2.2.2.2.2 = h.2.2.2.2
def am_prL (kc km : Nat) (as : List Value) : Prop := ∀ h : am_H, am_Rel h → ∃ (v : Int64) (h1 h2 : am_H), am_okH h1 ∧ h1.2.2.2.2 = h.2.2.2.2 ∧ am_den kc (.ref 0 :: as) h = some (some (.long v), h1) ∧ am_den km (.ref 211 :: as) h1 = some (some (.long v), h2) ∧ am_Rel h2 ∧ h2.2.2.2.2 = h.2.2.2.2
