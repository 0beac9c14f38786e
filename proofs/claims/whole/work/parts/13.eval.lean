/-! part 13: the small machine's answer, as a function; how it goes on, instruction by instruction -/
noncomputable def am_ev (k pc : Nat) (ls : List (Option Value)) (st : List Value) (h : am_H) : Option (Option Value × am_H) := @dite _ (∃ r, ∃ n, am_run n k pc ls st h = some r) (Classical.propDecidable _) (fun e => some (Classical.choose e)) (fun _ => none)
theorem am_run_eq {n n' k pc : Nat} {ls : List (Option Value)} {st : List Value} {h : am_H} {r r' : Option Value × am_H} (h1 : am_run n k pc ls st h = some r) (h2 : am_run n' k pc ls st h = some r') : r = r' := by
  have a1 := am_mono_le (Nat.le_max_left n n') h1
  have a2 := am_mono_le (Nat.le_max_right n n') h2
  exact Option.some.inj (a1.symm.trans a2)
theorem am_ev_iff {k pc : Nat} {ls : List (Option Value)} {st : List Value} {h : am_H} {r : Option Value × am_H} : am_ev k pc ls st h = some r ↔ ∃ n, am_run n k pc ls st h = some r := by
  unfold am_ev
  constructor
  · intro q
    split at q
    · rename_i e
      have h1 := Option.some.inj q
      have h2 := Classical.choose_spec e
      rw [h1] at h2
      exact h2
    · cases q
  · intro ⟨n, hn⟩
    split
    · rename_i e
      obtain ⟨n', hn'⟩ := Classical.choose_spec e
      rw [am_run_eq hn' hn]
    · rename_i e
      exact absurd ⟨r, n, hn⟩ e
theorem am_ev_ext {k pc k' pc' : Nat} {ls ls' : List (Option Value)} {st st' : List Value} {h h' : am_H} (q : ∀ r, (∃ n, am_run n k pc ls st h = some r) ↔ ∃ n, am_run n k' pc' ls' st' h' = some r) : am_ev k pc ls st h = am_ev k' pc' ls' st' h' := by
  cases h1 : am_ev k pc ls st h with
  | some r => exact (am_ev_iff.mpr ((q r).mp (am_ev_iff.mp h1))).symm
  | none =>
    cases h2 : am_ev k' pc' ls' st' h' with
    | none => rfl
    | some r =>
      have := am_ev_iff.mpr ((q r).mpr (am_ev_iff.mp h2))
      rw [h1] at this
      cases this
/-- one step -/
theorem am_ev_step {k pc : Nat} {ls : List (Option Value)} {st : List Value} {h : am_H} (y : am_M) (i : Instr) (len : Nat) {q : am_C} (hy : am_ms[k]? = some y) (hd : decode y.2.1 pc = .ok (i, len)) (ha : am_act y i len pc ls st h = some (.inl q)) : am_ev k pc ls st h = am_ev k q.1 q.2.1 q.2.2.1 q.2.2.2 := by
  have e : ∀ n, am_run (n + 1) k pc ls st h = am_run n k q.1 q.2.1 q.2.2.1 q.2.2.2 := fun n => by
    rw [am_run, hy]
    dsimp only
    rw [hd]
    dsimp only
    rw [ha]
  refine am_ev_ext (fun r => ⟨fun ⟨n, hn⟩ => ?_, fun ⟨n, hn⟩ => ⟨n + 1, by rw [e]; exact hn⟩⟩)
  cases n with
  | zero => cases hn
  | succ n => exact ⟨n, by rw [← e]; exact hn⟩
/-- no step -/
theorem am_ev_stuck {k pc : Nat} {ls : List (Option Value)} {st : List Value} {h : am_H} (y : am_M) (i : Instr) (len : Nat) (hy : am_ms[k]? = some y) (hd : decode y.2.1 pc = .ok (i, len)) (ha : am_act y i len pc ls st h = none) : am_ev k pc ls st h = none := by
  cases h1 : am_ev k pc ls st h with
  | none => rfl
  | some r =>
    obtain ⟨n, hn⟩ := am_ev_iff.mp h1
    cases n with
    | zero => cases hn
    | succ n =>
      rw [am_run, hy] at hn
      dsimp only at hn
      rw [hd] at hn
      dsimp only at hn
      rw [ha] at hn
      cases hn
/-- the end -/
theorem am_ev_ret {k pc : Nat} {ls : List (Option Value)} {st : List Value} {h : am_H} (y : am_M) (i : Instr) (len : Nat) {v : Option Value} (hy : am_ms[k]? = some y) (hd : decode y.2.1 pc = .ok (i, len)) (ha : am_act y i len pc ls st h = some (.inr (.inr v))) : am_ev k pc ls st h = some (v, h) := by
  refine am_ev_iff.mpr ⟨1, ?_⟩
  rw [am_run, hy]
  dsimp only
  rw [hd]
  dsimp only
  rw [ha]
/-- a call's answer, by the method's number -/
noncomputable def am_den (k : Nat) (as : List Value) (h : am_H) : Option (Option Value × am_H) := match am_ms[k]? with
  | some y => am_ev k 0 (am_ent y.2.2.1 as) [] h
  | none => none
noncomputable def am_bd (a : Option (Option Value × am_H)) (f : Option Value → am_H → Option (Option Value × am_H)) : Option (Option Value × am_H) := match a with
  | some r => f r.1 r.2
  | none => none
theorem am_bd_some (v : Option Value) (h : am_H) (f : Option Value → am_H → Option (Option Value × am_H)) : am_bd (some (v, h)) f = f v h := rfl
theorem am_ev_call {k pc : Nat} {ls : List (Option Value)} {st : List Value} {h : am_H} (y : am_M) (i : Instr) (len : Nat) {q : Nat × List Value × Nat × List Value} (hy : am_ms[k]? = some y) (hd : decode y.2.1 pc = .ok (i, len)) (ha : am_act y i len pc ls st h = some (.inr (.inl q))) : am_ev k pc ls st h = am_bd (am_den q.1 q.2.1 h) (fun v h' => am_ev k q.2.2.1 ls (v.toList ++ q.2.2.2) h') := by
  have e : ∀ n, am_run (n + 1) k pc ls st h = (match am_ms[q.1]? with
          | none => none
          | some y1 => (match am_run n q.1 0 (am_ent y1.2.2.1 q.2.1) [] h with
            | none => none
            | some r => am_run n k q.2.2.1 ls (r.1.toList ++ q.2.2.2) r.2)) := fun n => by
    rw [am_run, hy]
    dsimp only
    rw [hd]
    dsimp only
    rw [ha]
    rfl
  unfold am_den
  cases hy1 : am_ms[q.1]? with
  | none =>
    show am_ev k pc ls st h = none
    cases h1 : am_ev k pc ls st h with
    | none => rfl
    | some r =>
      obtain ⟨n, hn⟩ := am_ev_iff.mp h1
      cases n with
      | zero => cases hn
      | succ n =>
        rw [e, hy1] at hn
        cases hn
  | some y1 =>
    dsimp only
    cases h2 : am_ev q.1 0 (am_ent y1.2.2.1 q.2.1) [] h with
    | none =>
      show am_ev k pc ls st h = none
      cases h1 : am_ev k pc ls st h with
      | none => rfl
      | some r =>
        obtain ⟨n, hn⟩ := am_ev_iff.mp h1
        cases n with
        | zero => cases hn
        | succ n =>
          rw [e, hy1] at hn
          dsimp only at hn
          split at hn
          · cases hn
          · rename_i r1 hr1
            rw [am_ev_iff.mpr ⟨n, hr1⟩] at h2
            cases h2
    | some r1 =>
      obtain ⟨n1, hn1⟩ := am_ev_iff.mp h2
      show am_ev k pc ls st h = am_ev k q.2.2.1 ls (r1.1.toList ++ q.2.2.2) r1.2
      refine am_ev_ext (fun r => ⟨fun ⟨n, hn⟩ => ?_, fun ⟨n, hn⟩ => ⟨max n1 n + 1, ?_⟩⟩)
      · cases n with
        | zero => cases hn
        | succ n =>
          rw [e, hy1] at hn
          dsimp only at hn
          split at hn
          · cases hn
          · rename_i r2 hr2
            rw [am_run_eq hr2 hn1] at hn
            exact ⟨n, hn⟩
      · rw [e, hy1]
        dsimp only
        rw [am_mono_le (Nat.le_max_left n1 n) hn1]
        exact am_mono_le (Nat.le_max_right n1 n) hn
