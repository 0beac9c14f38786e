/-! part 9K: constant objects: the lines of the reader, their texts (by wip/whole/gen9K.py) -/
def am_ob {α β : Type} (a : Option α) (f : α → Option β) : Option β := match a with
  | some v => f v
  | none => none
theorem am_ob_some {α β : Type} (v : α) (f : α → Option β) : am_ob (some v) f = f v := rfl
def kOv (o cf : Nat) : Option Value := match am_kO.find? (fun q => q.1 == o && q.2.1 == cf) with
  | some q => some q.2.2
  | none => none
def kAo (a : Nat) : Option (List Value) := match am_kA.find? (fun q => q.1 == a) with
  | some (_, .object _, f) => some f
  | _ => none
def kAb (a : Nat) : Option (List Value) := match am_kA.find? (fun q => q.1 == a) with
  | some (_, .byte, f) => some f
  | _ => none
def kAl (a : Nat) : Option Nat := match am_kA.find? (fun q => q.1 == a) with
  | some q => some q.2.2.length
  | none => none
section AMK
variable {k pc : Nat} {ls : List (Option Value)} {st : List Value} {h : am_H} {y : am_M}
theorem am_u_gfK {idx cf wn o : Nat} (hy : am_ms[k]? = some y) (hd : decode y.2.1 pc = .ok (.getfield idx, 3)) (hl : am_lk am_flt (am_own y) idx = none) (hc : am_lk am_fct (am_own y) idx = some (cf, wn)) : am_ev k pc ls (.ref o :: st) h = am_ob (kOv o cf) (fun v => am_ev k (pc + 3) ls (v :: st) h) := by
  unfold kOv
  cases hf : am_kO.find? (fun q => q.1 == o && q.2.1 == cf) with
  | some q =>
    refine am_ev_step (q := (pc + 3, ls, q.2.2 :: st, h)) y _ 3 hy hd ?_
    show am_gf y idx pc ls (.ref o :: st) h = _
    unfold am_gf
    simp only [hl, hc, hf]
    rfl
  | none =>
    refine am_ev_stuck y _ 3 hy hd ?_
    show am_gf y idx pc ls (.ref o :: st) h = _
    unfold am_gf
    simp only [hl, hc, hf]
theorem am_u_gsN {idx : Nat} (hy : am_ms[k]? = some y) (hd : decode y.2.1 pc = .ok (.getstatic idx, 3)) (hn : am_own y = 7 ∧ idx = 136) : am_ev k pc ls st h = am_ev k (pc + 3) ls (.ref 1048577 :: st) h := by
  refine am_ev_step (q := (pc + 3, ls, .ref 1048577 :: st, h)) y _ 3 hy hd ?_
  show am_gs y idx pc ls st h = _
  unfold am_gs
  rw [if_pos hn]
  rfl
theorem am_u_gs {idx z wn : Nat} {q : String × String × String × Value} (hy : am_ms[k]? = some y) (hd : decode y.2.1 pc = .ok (.getstatic idx, 3)) (hn : ¬ (am_own y = 7 ∧ idx = 136)) (hl : am_lk am_gst (am_own y) idx = some (z, wn)) (hz : am_kZ[z]? = some q) : am_ev k pc ls st h = am_ev k (pc + 3) ls (q.2.2.2 :: st) h := by
  refine am_ev_step (q := (pc + 3, ls, q.2.2.2 :: st, h)) y _ 3 hy hd ?_
  show am_gs y idx pc ls st h = _
  unfold am_gs
  rw [if_neg hn]
  simp only [hl, hz]
  rfl
theorem am_u_rAK {i : Int32} {a : Nat} (hy : am_ms[k]? = some y) (hd : decode y.2.1 pc = .ok (.aaload, 1)) (ht : am_tc h a = none) : am_ev k pc ls (.int i :: .ref a :: st) h = am_ob (kAo a) (fun f => if am_ix i f.length = true then am_ev k (pc + 1) ls (f.getD i.toNatClampNeg .null :: st) h else none) := by
  have e : am_act y .aaload 1 pc ls (.int i :: .ref a :: st) h = am_ob (kAo a) (fun f => if am_ix i f.length = true then am_go (pc + 1) ls (f.getD i.toNatClampNeg .null :: st) h else none) := by
    show am_rA (pc + 1) ls (.int i :: .ref a :: st) h = _
    unfold am_rA kAo
    simp only [ht]
    generalize am_kA.find? (fun q => q.1 == a) = w
    cases w with
    | none => rfl
    | some q =>
      obtain ⟨q1, q2, q3⟩ := q
      cases q2 <;> rfl
  cases hf : kAo a with
  | none => exact am_ev_stuck y _ 1 hy hd (by rw [e, hf]; rfl)
  | some f =>
    rw [hf] at e
    show _ = (if am_ix i f.length = true then am_ev k (pc + 1) ls (f.getD i.toNatClampNeg .null :: st) h else none)
    by_cases c : am_ix i f.length = true
    · rw [if_pos c]
      exact am_ev_step (q := (pc + 1, ls, f.getD i.toNatClampNeg .null :: st, h)) y _ 1 hy hd (by rw [e, am_ob_some, if_pos c]; rfl)
    · rw [if_neg c]
      exact am_ev_stuck y _ 1 hy hd (by rw [e, am_ob_some, if_neg c])
theorem am_u_rBK {i : Int32} {a : Nat} (hy : am_ms[k]? = some y) (hd : decode y.2.1 pc = .ok (.baload, 1)) (ht : am_tc h a = none) : am_ev k pc ls (.int i :: .ref a :: st) h = am_ob (kAb a) (fun f => if am_ix i f.length = true then am_ev k (pc + 1) ls (f.getD i.toNatClampNeg .null :: st) h else none) := by
  have e : am_act y .baload 1 pc ls (.int i :: .ref a :: st) h = am_ob (kAb a) (fun f => if am_ix i f.length = true then am_go (pc + 1) ls (f.getD i.toNatClampNeg .null :: st) h else none) := by
    show am_rB (pc + 1) ls (.int i :: .ref a :: st) h = _
    unfold am_rB kAb
    simp only [ht]
    rw [if_neg (by intro q; cases q), if_neg (by intro q; cases q)]
    generalize am_kA.find? (fun q => q.1 == a) = w
    cases w with
    | none => rfl
    | some q =>
      obtain ⟨q1, q2, q3⟩ := q
      cases q2 <;> rfl
  cases hf : kAb a with
  | none => exact am_ev_stuck y _ 1 hy hd (by rw [e, hf]; rfl)
  | some f =>
    rw [hf] at e
    show _ = (if am_ix i f.length = true then am_ev k (pc + 1) ls (f.getD i.toNatClampNeg .null :: st) h else none)
    by_cases c : am_ix i f.length = true
    · rw [if_pos c]
      exact am_ev_step (q := (pc + 1, ls, f.getD i.toNatClampNeg .null :: st, h)) y _ 1 hy hd (by rw [e, am_ob_some, if_pos c]; rfl)
    · rw [if_neg c]
      exact am_ev_stuck y _ 1 hy hd (by rw [e, am_ob_some, if_neg c])
theorem am_u_alK {a : Nat} (hy : am_ms[k]? = some y) (hd : decode y.2.1 pc = .ok (.arraylength, 1)) (ht : am_tc h a = none) (hc : ¬ a = am_CB) : am_ev k pc ls (.ref a :: st) h = am_ob (kAl a) (fun n => am_ev k (pc + 1) ls (.int (Int32.ofNat n) :: st) h) := by
  have e : am_act y .arraylength 1 pc ls (.ref a :: st) h = am_ob (kAl a) (fun n => am_go (pc + 1) ls (.int (Int32.ofNat n) :: st) h) := by
    show am_al (pc + 1) ls (.ref a :: st) h = _
    unfold am_al kAl
    simp only [ht]
    rw [if_neg (fun q => hc q.1)]
    generalize am_kA.find? (fun q => q.1 == a) = w
    cases w <;> rfl
  cases hf : kAl a with
  | none => exact am_ev_stuck y _ 1 hy hd (by rw [e, hf]; rfl)
  | some n => exact am_ev_step (q := (pc + 1, ls, .int (Int32.ofNat n) :: st, h)) y _ 1 hy hd (by rw [e, hf]; rfl)
theorem am_u_cK {idx n wn o : Nat} {y1 : am_M} {as : List Value} (hy : am_ms[k]? = some y) (hd : decode y.2.1 pc = .ok (.invokevirtual idx, 3)) (hl : am_lk am_mlt (am_own y) idx = some (0, n, wn)) (hy1 : am_ms[n]? = some y1) (hr : am_rf y1 + 1 ≤ am_rf y ∧ 8 + (y1.2.2.1 + 11) + am_rl y1 ≤ am_rl y) (hn : as.length + 1 = am_np y1) (ha : (am_args (.ref o :: as)).length ≤ y1.2.2.1 ∧ (Value.ref o :: as).all am_okv = true) (hs : y1.1.cls = "java/lang/String") (hw : am_w8 st ≤ 8) (ho : o ∈ am_kS) :
    am_ev k pc ls (as.reverse ++ .ref o :: st) h = am_bd (am_den n (.ref o :: as) h) (fun v h' => am_ev k (pc + 3) ls (v.toList ++ st) h') := by
  have e1 : (as.reverse ++ Value.ref o :: st).take (am_np y1) = (Value.ref o :: as).reverse := by
    rw [← hn, List.reverse_cons, show as.reverse ++ Value.ref o :: st = (as.reverse ++ [Value.ref o]) ++ st by simp]
    rw [List.take_append_of_le_length (by simp), List.take_of_length_le (by simp)]
  have e2 : (as.reverse ++ Value.ref o :: st).drop (am_np y1) = st := by
    rw [← hn, show as.reverse ++ Value.ref o :: st = (as.reverse ++ [Value.ref o]) ++ st by simp]
    rw [List.drop_append_of_le_length (by simp), List.drop_of_length_le (by simp)]
    rfl
  have key : am_call y 0 n pc (as.reverse ++ .ref o :: st) h = some (.inr (.inl (n, .ref o :: as, pc + 3, st))) := by
    unfold am_call
    simp only [hy1, e1, e2, List.reverse_reverse]
    rw [if_pos ⟨hr.1, hr.2, by rw [← hn]; simp, hw, ha.1, ha.2⟩, if_neg (by omega), if_pos (Or.inr (Or.inr ⟨trivial, ho, hs⟩))]
  refine am_ev_call (q := (n, .ref o :: as, pc + 3, st)) y _ 3 hy hd ?_
  show am_inv y (fun k => k == 0 || k == 5) idx pc ls (as.reverse ++ .ref o :: st) h = _
  unfold am_inv
  simp only [hl]
  exact key
theorem am_u_rtC {v : Int32} (hy : am_ms[k]? = some y) (hd : decode y.2.1 pc = .ok (.ireturn, 1)) (ht : y.2.2.2.1 = some .char) (hv : narrow .char (.int v) = .int v) : am_ev k pc ls [.int v] h = some (some (.int v), h) := by
  refine am_ev_ret y _ 1 hy hd ?_
  show am_rt y [.int v] = _
  unfold am_rt
  simp only [ht]
  rw [if_pos ⟨hv, Or.inr (Or.inr (Or.inr trivial))⟩]
theorem am_u_rtB {v : Int32} (hy : am_ms[k]? = some y) (hd : decode y.2.1 pc = .ok (.ireturn, 1)) (ht : y.2.2.2.1 = some .byte) (hv : narrow .byte (.int v) = .int v) : am_ev k pc ls [.int v] h = some (some (.int v), h) := by
  refine am_ev_ret y _ 1 hy hd ?_
  show am_rt y [.int v] = _
  unfold am_rt
  simp only [ht]
  rw [if_pos ⟨hv, Or.inr (Or.inr (Or.inl trivial))⟩]
theorem am_u_rtA {v : Value} {c : String} (hy : am_ms[k]? = some y) (hd : decode y.2.1 pc = .ok (.areturn, 1)) (ht : y.2.2.2.1 = some (.object c)) (hv : (∃ a : Nat, v = .ref a) ∨ v = .null) : am_ev k pc ls [v] h = some (some v, h) := by
  refine am_ev_ret y _ 1 hy hd ?_
  show am_rtA y [v] = _
  unfold am_rtA
  simp only [ht]
  rcases hv with ⟨a, rfl⟩ | rfl <;> rfl
end AMK
/-- no cell of the heap -/
theorem okT_far {h : am_H} (ok : am_okH h) {a : Nat} (ha : am_CB ≤ a) : am_tc h a = none := by
  unfold am_tc
  rw [ok.kd]
  have : am_KA[a]? = none := List.getElem?_eq_none (Nat.le_trans (by decide +kernel : am_KA.length ≤ am_CB) ha)
  rw [this]
/-- sort, code, word, ranges; the cells of the two texts and of their bytes -/
def ln_t : List (Nat × Nat × List Nat × List Nat × Nat × Nat × Nat × Nat) := [
  (0, 0, [101, 119, 101], [99, 99], 1048607, 1048603, 1048647, 1048643),
  (0, 1, [114, 97, 109], [99, 99], 1048608, 1048603, 1048648, 1048643),
  (0, 2, [98, 111, 108, 116, 101, 114], [99, 99], 1048609, 1048603, 1048649, 1048643),
  (0, 3, [103, 111, 111, 115, 101], [99, 99], 1048610, 1048603, 1048650, 1048643),
  (0, 4, [119, 97, 108, 108], [99, 99], 1048602, 1048603, 1048642, 1048643),
  (0, 5, [112, 101, 110], [99, 99], 1048604, 1048603, 1048644, 1048643),
  (0, 6, [115, 105, 122, 101], [115, 115], 1048600, 1048601, 1048640, 1048641),
  (0, 7, [100, 111, 103], [99, 99, 101], 1048596, 1048611, 1048636, 1048651),
  (1, 0, [103, 111], [100], 1048612, 1048613, 1048652, 1048653),
  (1, 4, [108, 105, 101], [], 1048614, 1048615, 1048654, 1048655),
  (1, 5, [115, 116, 97, 110, 100], [], 1048616, 1048615, 1048656, 1048655),
  (1, 6, [98, 97, 99, 107], [], 1048617, 1048615, 1048657, 1048655),
  (2, 0, [100, 111, 103], [101, 100], 1048596, 1048597, 1048636, 1048637),
  (2, 1, [98, 97, 114, 103, 97, 105, 110], [101, 119], 1048598, 1048599, 1048638, 1048639),
  (2, 2, [102, 105, 101, 108, 100], [119], 1048605, 1048606, 1048645, 1048646),
  (3, 0, [119, 101, 110, 116], [99, 99, 99, 114, 100], 1048618, 1048619, 1048658, 1048659),
  (3, 1, [116, 119, 105, 99, 101], [99, 99, 99, 114, 100], 1048620, 1048619, 1048660, 1048659),
  (3, 2, [115, 116, 97, 121, 101, 100], [99, 99, 99, 114], 1048621, 1048622, 1048661, 1048662)]
def ln (i : Nat) : Nat × Nat × List Nat × List Nat × Nat × Nat × Nat × Nat := ln_t.getD i (0, 0, [], [], 0, 0, 0, 0)
def ln_s (i : Nat) : Nat := (ln i).1
def ln_c (i : Nat) : Nat := (ln i).2.1
def ln_w (i : Nat) : List Nat := (ln i).2.2.1
def ln_r (i : Nat) : List Nat := (ln i).2.2.2.1
def ln_ws (i : Nat) : Nat := (ln i).2.2.2.2.1
def ln_rs (i : Nat) : Nat := (ln i).2.2.2.2.2.1
def ks_b (s b : Nat) (w : List Nat) : Bool := decide (s ∈ am_kS) && (decide (kOv s 14 = some (.int 0)) && (decide (kOv s 13 = some (.ref b)) && (decide (kAb b = some (w.map (fun c => Value.int (nI c)))) && (decide (kAl b = some w.length) && (decide (am_CB < b) && (w.all (fun c => decide (c < 128)) && decide (w.length < 9)))))))
def ks (s : Nat) (w : List Nat) : Prop := s ∈ am_kS ∧ kOv s 14 = some (.int 0) ∧ (∃ b : Nat, kOv s 13 = some (.ref b) ∧ kAb b = some (w.map (fun c => Value.int (nI c))) ∧ kAl b = some w.length ∧ am_CB < b) ∧ (∀ c ∈ w, c < 128) ∧ w.length < 9
theorem ks_of {s b : Nat} {w : List Nat} (h : ks_b s b w = true) : ks s w := by
  unfold ks_b at h
  simp only [Bool.and_eq_true, decide_eq_true_eq, List.all_eq_true] at h
  obtain ⟨h1, h2, h3, h4, h5, h6, h7, h8⟩ := h
  exact ⟨h1, h2, ⟨b, h3, h4, h5, h6⟩, h7, h8⟩
theorem ln_chk : (List.range 18).all (fun i => decide (kOv (1048578 + i) 11 = some (.int (nI (ln_s i)))) && (decide (kOv (1048578 + i) 15 = some (.int (nI (ln_c i)))) && (decide (kOv (1048578 + i) 12 = some (.ref (ln_ws i))) && (decide (kOv (1048578 + i) 16 = some (.ref (ln_rs i))) && (ks_b (ln_ws i) (ln i).2.2.2.2.2.2.1 (ln_w i) && ks_b (ln_rs i) (ln i).2.2.2.2.2.2.2 (ln_r i)))))) = true := by decide +kernel
theorem ln_ok {i : Nat} (hi : i < 18) : kOv (1048578 + i) 11 = some (.int (nI (ln_s i))) ∧ kOv (1048578 + i) 15 = some (.int (nI (ln_c i))) ∧ kOv (1048578 + i) 12 = some (.ref (ln_ws i)) ∧ kOv (1048578 + i) 16 = some (.ref (ln_rs i)) ∧ ks (ln_ws i) (ln_w i) ∧ ks (ln_rs i) (ln_r i) := by
  have h := List.all_eq_true.mp ln_chk i (List.mem_range.mpr hi)
  simp only [Bool.and_eq_true, decide_eq_true_eq] at h
  obtain ⟨h1, h2, h3, h4, h5, h6⟩ := h
  exact ⟨h1, h2, h3, h4, ks_of h5, ks_of h6⟩
theorem ln_all : kAo 1048577 = some ((List.range 18).map (fun i => Value.ref (1048578 + i))) := by decide +kernel
theorem ln_all_l : kAl 1048577 = some 18 := by decide +kernel
