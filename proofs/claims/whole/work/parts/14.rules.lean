/-! part 14: rules of evaluation with conditions -/
section AMU
variable {k pc : Nat} {ls : List (Option Value)} {st : List Value} {h : am_H} {y : am_M}
theorem am_u_gfI {idx ci f wn o : Nat} (hy : am_ms[k]? = some y) (hd : decode y.2.1 pc = .ok (.getfield idx, 3)) (hl : am_lk am_flt (am_own y) idx = some (ci, f, wn)) (ht : am_ty ci f = .int ∨ am_ty ci f = .boolean) (hk : am_kd h o = some (.inl ci)) : am_ev k pc ls (.ref o :: st) h = am_ev k (pc + 3) ls (.int (h.1 o f) :: st) h := by
  refine am_ev_step (q := (pc + 3, ls, .int (h.1 o f) :: st, h)) y _ 3 hy hd ?_
  show am_gf y idx pc ls (.ref o :: st) h = _
  unfold am_gf
  simp only [hl, hk, if_true]
  rcases ht with e | e <;> rw [e] <;> rfl
theorem am_u_gfL {idx ci f wn o : Nat} (hy : am_ms[k]? = some y) (hd : decode y.2.1 pc = .ok (.getfield idx, 3)) (hl : am_lk am_flt (am_own y) idx = some (ci, f, wn)) (ht : am_ty ci f = .long) (hk : am_kd h o = some (.inl ci)) : am_ev k pc ls (.ref o :: st) h = am_ev k (pc + 3) ls (.long (h.2.1 o f) :: st) h := by
  refine am_ev_step (q := (pc + 3, ls, .long (h.2.1 o f) :: st, h)) y _ 3 hy hd ?_
  show am_gf y idx pc ls (.ref o :: st) h = _
  unfold am_gf
  simp only [hl, hk, if_true]
  rw [ht]
  rfl
theorem am_u_gfR {idx ci f wn o a : Nat} (hy : am_ms[k]? = some y) (hd : decode y.2.1 pc = .ok (.getfield idx, 3)) (hl : am_lk am_flt (am_own y) idx = some (ci, f, wn)) (ht : (match am_ty ci f with
  | .object _ => true
  | .array _ => true
  | _ => false) = true) (hk : am_kd h o = some (.inl ci)) : am_ev k pc ls (.ref o :: st) h = am_ev k (pc + 3) ls (va_rf (h.2.2.1 o f) :: st) h := by
  refine am_ev_step (q := (pc + 3, ls, va_rf (h.2.2.1 o f) :: st, h)) y _ 3 hy hd ?_
  show am_gf y idx pc ls (.ref o :: st) h = _
  unfold am_gf
  simp only [hl, hk, if_true]
  split at ht
  · rename_i e; rw [e]; rfl
  · rename_i e; rw [e]; rfl
  · cases ht
theorem am_u_pf {idx ci f wn o : Nat} {v : Value} {h' : am_H} (hy : am_ms[k]? = some y) (hd : decode y.2.1 pc = .ok (.putfield idx, 3)) (hl : am_lk am_flt (am_own y) idx = some (ci, f, wn)) (hf : (am_T ci f).2.2.2 = false ∨ (y.1.name = "<init>" ∧ (am_T ci f).1 = am_on.getD (am_own y) "")) (hk : am_kd h o = some (.inl ci)) (hp : am_pv (am_ty ci f) h o f v = some h') : am_ev k pc ls (v :: .ref o :: st) h = am_ev k (pc + 3) ls st h' := by
  refine am_ev_step (q := (pc + 3, ls, st, h')) y _ 3 hy hd ?_
  show am_pf y idx pc ls (v :: .ref o :: st) h = _
  unfold am_pf
  simp only [hl]
  rw [if_pos ⟨hk, hf⟩]
  simp only [hp]
  rfl
theorem am_u_pfI {idx ci f wn o : Nat} {v : Int32} (hy : am_ms[k]? = some y) (hd : decode y.2.1 pc = .ok (.putfield idx, 3)) (hl : am_lk am_flt (am_own y) idx = some (ci, f, wn)) (hf : (am_T ci f).2.2.2 = false ∨ (y.1.name = "<init>" ∧ (am_T ci f).1 = am_on.getD (am_own y) "")) (ht : am_ty ci f = .int) (hk : am_kd h o = some (.inl ci)) : am_ev k pc ls (.int v :: .ref o :: st) h = am_ev k (pc + 3) ls st (am_sI h o f v) := am_u_pf hy hd hl hf hk (by rw [ht]; rfl)
theorem am_u_pfZ {idx ci f wn o : Nat} {v : Int32} (hy : am_ms[k]? = some y) (hd : decode y.2.1 pc = .ok (.putfield idx, 3)) (hl : am_lk am_flt (am_own y) idx = some (ci, f, wn)) (hf : (am_T ci f).2.2.2 = false ∨ (y.1.name = "<init>" ∧ (am_T ci f).1 = am_on.getD (am_own y) "")) (ht : am_ty ci f = .boolean) (hk : am_kd h o = some (.inl ci)) (hv : v = 0 ∨ v = 1) : am_ev k pc ls (.int v :: .ref o :: st) h = am_ev k (pc + 3) ls st (am_sI h o f v) := am_u_pf hy hd hl hf hk (by rw [ht]; exact if_pos hv)
theorem am_u_pfL {idx ci f wn o : Nat} {v : Int64} (hy : am_ms[k]? = some y) (hd : decode y.2.1 pc = .ok (.putfield idx, 3)) (hl : am_lk am_flt (am_own y) idx = some (ci, f, wn)) (hf : (am_T ci f).2.2.2 = false ∨ (y.1.name = "<init>" ∧ (am_T ci f).1 = am_on.getD (am_own y) "")) (ht : am_ty ci f = .long) (hk : am_kd h o = some (.inl ci)) : am_ev k pc ls (.long v :: .ref o :: st) h = am_ev k (pc + 3) ls st (am_sL h o f v) := am_u_pf hy hd hl hf hk (by rw [ht]; rfl)
theorem am_u_pfR {idx ci f wn o a : Nat} (hy : am_ms[k]? = some y) (hd : decode y.2.1 pc = .ok (.putfield idx, 3)) (hl : am_lk am_flt (am_own y) idx = some (ci, f, wn)) (hf : (am_T ci f).2.2.2 = false ∨ (y.1.name = "<init>" ∧ (am_T ci f).1 = am_on.getD (am_own y) "")) (ht : (match am_ty ci f with
  | .object _ => true
  | .array _ => true
  | _ => false) = true) (hk : am_kd h o = some (.inl ci)) : am_ev k pc ls (.ref a :: .ref o :: st) h = am_ev k (pc + 3) ls st (am_sR h o f (some a)) := am_u_pf hy hd hl hf hk (by
  split at ht
  · rename_i e; rw [e]; rfl
  · rename_i e; rw [e]; rfl
  · cases ht)
theorem am_u_if {α : Type} {c : Prop} [d : Decidable c] {f : Nat → α} {a b : Nat} : f (if c then a else b) = if c then f a else f b := by
  split <;> rfl
theorem am_u_rI {i : Int32} {a : Nat} (hy : am_ms[k]? = some y) (hd : decode y.2.1 pc = .ok (.iaload, 1)) (ht : am_tc h a = some 0) : am_ev k pc ls (.int i :: .ref a :: st) h = if am_ix i (am_len h a) = true then am_ev k (pc + 1) ls (.int (h.1 a i.toNatClampNeg) :: st) h else none := by
  split
  · rename_i hi
    refine am_ev_step (q := (pc + 1, ls, .int (h.1 a i.toNatClampNeg) :: st, h)) y _ 1 hy hd ?_
    show am_rI (pc + 1) ls (.int i :: .ref a :: st) h = _
    unfold am_rI
    simp only [ht, if_true, hi]
    rfl
  · rename_i hi
    refine am_ev_stuck y _ 1 hy hd ?_
    show am_rI (pc + 1) ls (.int i :: .ref a :: st) h = _
    unfold am_rI
    simp only [ht, if_true]
    rw [if_neg hi]
theorem am_u_rB {i : Int32} {a : Nat} (hy : am_ms[k]? = some y) (hd : decode y.2.1 pc = .ok (.baload, 1)) (ht : am_tc h a = some 1) : am_ev k pc ls (.int i :: .ref a :: st) h = if am_ix i (am_len h a) = true then am_ev k (pc + 1) ls (.int (am_byte (h.1 a i.toNatClampNeg)) :: st) h else none := by
  split
  · rename_i hi
    refine am_ev_step (q := (pc + 1, ls, .int (am_byte (h.1 a i.toNatClampNeg)) :: st, h)) y _ 1 hy hd ?_
    show am_rB (pc + 1) ls (.int i :: .ref a :: st) h = _
    unfold am_rB
    simp only [ht, if_true, hi]
    rfl
  · rename_i hi
    refine am_ev_stuck y _ 1 hy hd ?_
    show am_rB (pc + 1) ls (.int i :: .ref a :: st) h = _
    unfold am_rB
    simp only [ht, if_true]
    rw [if_neg hi]
theorem am_u_rZ {i : Int32} {a : Nat} (hy : am_ms[k]? = some y) (hd : decode y.2.1 pc = .ok (.baload, 1)) (ht : am_tc h a = some 2) : am_ev k pc ls (.int i :: .ref a :: st) h = if am_ix i (am_len h a) = true then am_ev k (pc + 1) ls (.int (h.1 a i.toNatClampNeg) :: st) h else none := by
  have e1 : ¬ (some 2 = some 1) := by decide
  split
  · rename_i hi
    refine am_ev_step (q := (pc + 1, ls, .int (h.1 a i.toNatClampNeg) :: st, h)) y _ 1 hy hd ?_
    show am_rB (pc + 1) ls (.int i :: .ref a :: st) h = _
    unfold am_rB
    simp only [ht, if_true, hi]
    rfl
  · rename_i hi
    refine am_ev_stuck y _ 1 hy hd ?_
    show am_rB (pc + 1) ls (.int i :: .ref a :: st) h = _
    unfold am_rB
    simp only [ht]
    rw [if_neg (by decide), if_pos trivial, if_neg hi]
theorem am_u_rL {i : Int32} {a : Nat} (hy : am_ms[k]? = some y) (hd : decode y.2.1 pc = .ok (.laload, 1)) (ht : am_tc h a = some 3) : am_ev k pc ls (.int i :: .ref a :: st) h = if am_ix i (am_len h a) = true then am_ev k (pc + 1) ls (.long (h.2.1 a i.toNatClampNeg) :: st) h else none := by
  split
  · rename_i hi
    refine am_ev_step (q := (pc + 1, ls, .long (h.2.1 a i.toNatClampNeg) :: st, h)) y _ 1 hy hd ?_
    show am_rL (pc + 1) ls (.int i :: .ref a :: st) h = _
    unfold am_rL
    simp only [ht, if_true, hi]
    rfl
  · rename_i hi
    refine am_ev_stuck y _ 1 hy hd ?_
    show am_rL (pc + 1) ls (.int i :: .ref a :: st) h = _
    unfold am_rL
    simp only [ht, if_true]
    rw [if_neg hi]
theorem am_u_rA {i : Int32} {a tc : Nat} (hy : am_ms[k]? = some y) (hd : decode y.2.1 pc = .ok (.aaload, 1)) (ht : am_tc h a = some tc) (h4 : 4 ≤ tc ∧ tc ≤ 8) : am_ev k pc ls (.int i :: .ref a :: st) h = if am_ix i (am_len h a) = true then am_ev k (pc + 1) ls (va_rf (h.2.2.1 a i.toNatClampNeg) :: st) h else none := by
  split
  · rename_i hi
    refine am_ev_step (q := (pc + 1, ls, va_rf (h.2.2.1 a i.toNatClampNeg) :: st, h)) y _ 1 hy hd ?_
    show am_rA (pc + 1) ls (.int i :: .ref a :: st) h = _
    unfold am_rA
    simp only [ht, h4, hi]
    rfl
  · rename_i hi
    refine am_ev_stuck y _ 1 hy hd ?_
    show am_rA (pc + 1) ls (.int i :: .ref a :: st) h = _
    unfold am_rA
    simp only [ht]
    rw [if_pos h4, if_neg hi]
theorem am_u_wI {v i : Int32} {a : Nat} (hy : am_ms[k]? = some y) (hd : decode y.2.1 pc = .ok (.iastore, 1)) (ht : am_tc h a = some 0) : am_ev k pc ls (.int v :: .int i :: .ref a :: st) h = if am_ix i (am_len h a) = true then am_ev k (pc + 1) ls st (am_sI h a i.toNatClampNeg v) else none := by
  split
  · rename_i hi
    refine am_ev_step (q := (pc + 1, ls, st, am_sI h a i.toNatClampNeg v)) y _ 1 hy hd ?_
    show am_wI (pc + 1) ls (.int v :: .int i :: .ref a :: st) h = _
    unfold am_wI
    simp only [ht, if_true, hi]
    rfl
  · rename_i hi
    refine am_ev_stuck y _ 1 hy hd ?_
    show am_wI (pc + 1) ls (.int v :: .int i :: .ref a :: st) h = _
    unfold am_wI
    simp only [ht, if_true]
    rw [if_neg hi]
theorem am_u_wB {v i : Int32} {a : Nat} (hy : am_ms[k]? = some y) (hd : decode y.2.1 pc = .ok (.bastore, 1)) (ht : am_tc h a = some 1) : am_ev k pc ls (.int v :: .int i :: .ref a :: st) h = if am_ix i (am_len h a) = true then am_ev k (pc + 1) ls st (am_sI h a i.toNatClampNeg (am_byte v)) else none := by
  split
  · rename_i hi
    refine am_ev_step (q := (pc + 1, ls, st, am_sI h a i.toNatClampNeg (am_byte v))) y _ 1 hy hd ?_
    show am_wB (pc + 1) ls (.int v :: .int i :: .ref a :: st) h = _
    unfold am_wB
    simp only [ht, if_true, hi]
    rfl
  · rename_i hi
    refine am_ev_stuck y _ 1 hy hd ?_
    show am_wB (pc + 1) ls (.int v :: .int i :: .ref a :: st) h = _
    unfold am_wB
    simp only [ht, if_true]
    rw [if_neg hi]
theorem am_u_wZ {v i : Int32} {a : Nat} (hy : am_ms[k]? = some y) (hd : decode y.2.1 pc = .ok (.bastore, 1)) (ht : am_tc h a = some 2) (hv : v = 0 ∨ v = 1) : am_ev k pc ls (.int v :: .int i :: .ref a :: st) h = if am_ix i (am_len h a) = true then am_ev k (pc + 1) ls st (am_sI h a i.toNatClampNeg v) else none := by
  split
  · rename_i hi
    refine am_ev_step (q := (pc + 1, ls, st, am_sI h a i.toNatClampNeg v)) y _ 1 hy hd ?_
    show am_wB (pc + 1) ls (.int v :: .int i :: .ref a :: st) h = _
    unfold am_wB
    simp only [ht]
    rw [if_neg (by decide), if_pos trivial, if_pos ⟨hi, hv⟩]
    rfl
  · rename_i hi
    refine am_ev_stuck y _ 1 hy hd ?_
    show am_wB (pc + 1) ls (.int v :: .int i :: .ref a :: st) h = _
    unfold am_wB
    simp only [ht]
    rw [if_neg (by decide), if_pos trivial, if_neg (fun q => hi q.1)]
theorem am_u_wL {v : Int64} {i : Int32} {a : Nat} (hy : am_ms[k]? = some y) (hd : decode y.2.1 pc = .ok (.lastore, 1)) (ht : am_tc h a = some 3) : am_ev k pc ls (.long v :: .int i :: .ref a :: st) h = if am_ix i (am_len h a) = true then am_ev k (pc + 1) ls st (am_sL h a i.toNatClampNeg v) else none := by
  split
  · rename_i hi
    refine am_ev_step (q := (pc + 1, ls, st, am_sL h a i.toNatClampNeg v)) y _ 1 hy hd ?_
    show am_wL (pc + 1) ls (.long v :: .int i :: .ref a :: st) h = _
    unfold am_wL
    simp only [ht, if_true, hi]
    rfl
  · rename_i hi
    refine am_ev_stuck y _ 1 hy hd ?_
    show am_wL (pc + 1) ls (.long v :: .int i :: .ref a :: st) h = _
    unfold am_wL
    simp only [ht, if_true]
    rw [if_neg hi]
theorem am_u_al {a tc : Nat} (hy : am_ms[k]? = some y) (hd : decode y.2.1 pc = .ok (.arraylength, 1)) (ht : am_tc h a = some tc) (h8 : tc ≤ 8) : am_ev k pc ls (.ref a :: st) h = am_ev k (pc + 1) ls (.int (Int32.ofNat (am_len h a)) :: st) h := by
  refine am_ev_step (q := (pc + 1, ls, .int (Int32.ofNat (am_len h a)) :: st, h)) y _ 1 hy hd ?_
  show am_al (pc + 1) ls (.ref a :: st) h = _
  unfold am_al
  simp only [ht, h8, if_true]
  rfl
theorem am_u_iz {f : Int32 → Int32 → Int32} {i : Instr} {a b : Int32} (hy : am_ms[k]? = some y) (hd : decode y.2.1 pc = .ok (i, 1)) (hi : ∀ st, am_act y i 1 pc ls st h = am_iz f (pc + 1) ls st h) : am_ev k pc ls (.int b :: .int a :: st) h = if b = 0 then none else am_ev k (pc + 1) ls (.int (f a b) :: st) h := by
  split
  · rename_i hb
    refine am_ev_stuck y _ 1 hy hd ?_
    rw [hi]
    unfold am_iz
    simp only [hb, if_true]
  · rename_i hb
    refine am_ev_step (q := (pc + 1, ls, .int (f a b) :: st, h)) y _ 1 hy hd ?_
    rw [hi]
    unfold am_iz
    simp only [hb, if_false]
    rfl
theorem am_u_lz {f : Int64 → Int64 → Int64} {i : Instr} {a b : Int64} (hy : am_ms[k]? = some y) (hd : decode y.2.1 pc = .ok (i, 1)) (hi : ∀ st, am_act y i 1 pc ls st h = am_lz f (pc + 1) ls st h) : am_ev k pc ls (.long b :: .long a :: st) h = if b = 0 then none else am_ev k (pc + 1) ls (.long (f a b) :: st) h := by
  split
  · rename_i hb
    refine am_ev_stuck y _ 1 hy hd ?_
    rw [hi]
    unfold am_lz
    simp only [hb, if_true]
  · rename_i hb
    refine am_ev_step (q := (pc + 1, ls, .long (f a b) :: st, h)) y _ 1 hy hd ?_
    rw [hi]
    unfold am_lz
    simp only [hb, if_false]
    rfl
/-- a call of an object's method -/
theorem am_u_cV {idx n wn o : Nat} {y1 : am_M} {as : List Value} (hy : am_ms[k]? = some y) (hd : decode y.2.1 pc = .ok (.invokevirtual idx, 3)) (hl : am_lk am_mlt (am_own y) idx = some (0, n, wn) ∨ am_lk am_mlt (am_own y) idx = some (5, n, wn)) (hy1 : am_ms[n]? = some y1) (hr : am_rf y1 + 1 ≤ am_rf y ∧ 8 + (y1.2.2.1 + 11) + am_rl y1 ≤ am_rl y) (hn : as.length + 1 = am_np y1) (ha : (am_args (.ref o :: as)).length ≤ y1.2.2.1 ∧ (Value.ref o :: as).all am_okv = true) (ho : am_own y1 < 12) (hw : am_w8 st ≤ 8) (hk : am_kd h o = some (.inl (am_own y1))) :
    am_ev k pc ls (as.reverse ++ .ref o :: st) h = am_bd (am_den n (.ref o :: as) h) (fun v h' => am_ev k (pc + 3) ls (v.toList ++ st) h') := by
  have e1 : (as.reverse ++ Value.ref o :: st).take (am_np y1) = (Value.ref o :: as).reverse := by
    rw [← hn, List.reverse_cons, show as.reverse ++ Value.ref o :: st = (as.reverse ++ [Value.ref o]) ++ st by simp]
    rw [List.take_append_of_le_length (by simp), List.take_of_length_le (by simp)]
  have e2 : (as.reverse ++ Value.ref o :: st).drop (am_np y1) = st := by
    rw [← hn, show as.reverse ++ Value.ref o :: st = (as.reverse ++ [Value.ref o]) ++ st by simp]
    rw [List.drop_append_of_le_length (by simp), List.drop_of_length_le (by simp)]
    rfl
  have key : ∀ kind, (kind = 0 ∨ kind = 5) → am_call y kind n pc (as.reverse ++ .ref o :: st) h = some (.inr (.inl (n, .ref o :: as, pc + 3, st))) := by
    intro kind hkk
    unfold am_call
    simp only [hy1, e1, e2, List.reverse_reverse]
    rw [if_pos ⟨hr.1, hr.2, by rw [← hn]; simp, hw, ha.1, ha.2⟩, if_neg (by omega), if_pos (Or.inr (Or.inl ⟨ho, hk⟩))]
  refine am_ev_call (q := (n, .ref o :: as, pc + 3, st)) y _ 3 hy hd ?_
  show am_inv y (fun k => k == 0 || k == 5) idx pc ls (as.reverse ++ .ref o :: st) h = _
  unfold am_inv
  rcases hl with hl | hl
  · simp only [hl]
    exact key 0 (Or.inl rfl)
  · simp only [hl]
    exact key 5 (Or.inr rfl)
/-- a call of a class's method -/
theorem am_u_cS {idx n wn : Nat} {y1 : am_M} {as : List Value} (hy : am_ms[k]? = some y) (hd : decode y.2.1 pc = .ok (.invokestatic idx, 3)) (hl : am_lk am_mlt (am_own y) idx = some (1, n, wn)) (hy1 : am_ms[n]? = some y1) (hr : am_rf y1 + 1 ≤ am_rf y ∧ 8 + (y1.2.2.1 + 11) + am_rl y1 ≤ am_rl y) (hn : as.length = am_np y1) (ha : (am_args as).length ≤ y1.2.2.1 ∧ as.all am_okv = true) (hw : am_w8 st ≤ 8) :
    am_ev k pc ls (as.reverse ++ st) h = am_bd (am_den n as h) (fun v h' => am_ev k (pc + 3) ls (v.toList ++ st) h') := by
  have e1 : (as.reverse ++ st).take (am_np y1) = as.reverse := by
    rw [← hn, List.take_append_of_le_length (by simp), List.take_of_length_le (by simp)]
  have e2 : (as.reverse ++ st).drop (am_np y1) = st := by
    rw [← hn, List.drop_append_of_le_length (by simp), List.drop_of_length_le (by simp)]
    rfl
  refine am_ev_call (q := (n, as, pc + 3, st)) y _ 3 hy hd ?_
  show am_inv y (fun k => k == 1 || k == 4 || k == 6 || k == 7 || k == 8) idx pc ls (as.reverse ++ st) h = _
  unfold am_inv
  simp only [hl]
  show am_call y 1 n pc (as.reverse ++ st) h = _
  unfold am_call
  simp only [hy1, e1, e2, List.reverse_reverse]
  rw [if_pos ⟨hr.1, hr.2, by rw [← hn]; simp, hw, ha.1, ha.2⟩]
  rfl
/-- a call of a maker -/
theorem am_u_cI {idx n wn o : Nat} {y1 : am_M} {as : List Value} (hy : am_ms[k]? = some y) (hd : decode y.2.1 pc = .ok (.invokespecial idx, 3)) (hl : am_lk am_mlt (am_own y) idx = some (2, n, wn)) (hy1 : am_ms[n]? = some y1) (hr : am_rf y1 + 1 ≤ am_rf y ∧ 8 + (y1.2.2.1 + 11) + am_rl y1 ≤ am_rl y) (hn : as.length + 1 = am_np y1) (ha : (am_args (.ref o :: as)).length ≤ y1.2.2.1 ∧ (Value.ref o :: as).all am_okv = true) (hw : am_w8 st ≤ 8) :
    am_ev k pc ls (as.reverse ++ .ref o :: st) h = am_bd (am_den n (.ref o :: as) h) (fun v h' => am_ev k (pc + 3) ls (v.toList ++ st) h') := by
  have e1 : (as.reverse ++ Value.ref o :: st).take (am_np y1) = (Value.ref o :: as).reverse := by
    rw [← hn, List.reverse_cons, show as.reverse ++ Value.ref o :: st = (as.reverse ++ [Value.ref o]) ++ st by simp]
    rw [List.take_append_of_le_length (by simp), List.take_of_length_le (by simp)]
  have e2 : (as.reverse ++ Value.ref o :: st).drop (am_np y1) = st := by
    rw [← hn, show as.reverse ++ Value.ref o :: st = (as.reverse ++ [Value.ref o]) ++ st by simp]
    rw [List.drop_append_of_le_length (by simp), List.drop_of_length_le (by simp)]
    rfl
  refine am_ev_call (q := (n, .ref o :: as, pc + 3, st)) y _ 3 hy hd ?_
  show am_inv y (fun k => k == 2 || k == 3) idx pc ls (as.reverse ++ .ref o :: st) h = _
  unfold am_inv
  simp only [hl]
  show am_call y 2 n pc (as.reverse ++ .ref o :: st) h = _
  unfold am_call
  simp only [hy1, e1, e2, List.reverse_reverse]
  rw [if_pos ⟨hr.1, hr.2, by rw [← hn]; simp, hw, ha.1, ha.2⟩]
  rfl
theorem am_u_rtI {v : Int32} (hy : am_ms[k]? = some y) (hd : decode y.2.1 pc = .ok (.ireturn, 1)) (ht : y.2.2.2.1 = some .int) : am_ev k pc ls [.int v] h = some (some (.int v), h) := by
  refine am_ev_ret y _ 1 hy hd ?_
  show am_rt y [.int v] = _
  unfold am_rt
  simp only [ht]
  rw [if_pos ⟨rfl, Or.inl trivial⟩]
theorem am_u_rtZ {v : Int32} (hy : am_ms[k]? = some y) (hd : decode y.2.1 pc = .ok (.ireturn, 1)) (ht : y.2.2.2.1 = some .boolean) (hv : v = 0 ∨ v = 1) : am_ev k pc ls [.int v] h = some (some (.int v), h) := by
  refine am_ev_ret y _ 1 hy hd ?_
  show am_rt y [.int v] = _
  unfold am_rt
  simp only [ht]
  rw [if_pos ⟨by rcases hv with rfl | rfl <;> rfl, Or.inr (Or.inl trivial)⟩]
theorem am_u_rtL {v : Int64} (hy : am_ms[k]? = some y) (hd : decode y.2.1 pc = .ok (.lreturn, 1)) (ht : y.2.2.2.1 = some .long) : am_ev k pc ls [.long v] h = some (some (.long v), h) := by
  refine am_ev_ret y _ 1 hy hd ?_
  show am_rtL y [.long v] = _
  unfold am_rtL
  simp only [ht, if_true]
theorem am_u_rtV (hy : am_ms[k]? = some y) (hd : decode y.2.1 pc = .ok (.return_, 1)) (ht : y.2.2.2.1 = none) : am_ev k pc ls [] h = some (none, h) := by
  refine am_ev_ret y _ 1 hy hd ?_
  show am_rtV y [] = _
  unfold am_rtV
  simp only [ht, if_true]
end AMU
section AMU2
variable {k pc : Nat} {ls : List (Option Value)} {st : List Value} {h : am_H} {y : am_M}
theorem am_u_ldc {idx n : Nat} {v : Int32} (hy : am_ms[k]? = some y) (hd : decode y.2.1 pc = .ok (.ldc idx, 2)) (hl : (am_lk am_kit (am_own y) idx).map (fun q => q.1) = some v) : am_ev k pc ls st h = am_ev k (pc + 2) ls (.int v :: st) h := by
  refine am_ev_step (q := (pc + 2, ls, .int v :: st, h)) y _ 2 hy hd ?_
  cases hq : am_lk am_kit (am_own y) idx with
  | none => rw [hq] at hl; cases hl
  | some q =>
    rw [hq] at hl
    cases hl
    show (if 2 = 2 then (match am_lk am_kit (am_own y) idx with
      | some (v, _) => am_go (pc + 2) ls (.int v :: st) h
      | none => none) else none) = _
    rw [hq]
    rfl
theorem am_u_ldc_w {idx : Nat} {v : Int32} (hy : am_ms[k]? = some y) (hd : decode y.2.1 pc = .ok (.ldc_w idx, 3)) (hl : (am_lk am_kit (am_own y) idx).map (fun q => q.1) = some v) : am_ev k pc ls st h = am_ev k (pc + 3) ls (.int v :: st) h := by
  refine am_ev_step (q := (pc + 3, ls, .int v :: st, h)) y _ 3 hy hd ?_
  cases hq : am_lk am_kit (am_own y) idx with
  | none => rw [hq] at hl; cases hl
  | some q =>
    rw [hq] at hl
    cases hl
    show (if 3 = 3 then (match am_lk am_kit (am_own y) idx with
      | some (v, _) => am_go (pc + 3) ls (.int v :: st) h
      | none => none) else none) = _
    rw [hq]
    rfl
theorem am_u_ldc2 {idx : Nat} {v : Int64} (hy : am_ms[k]? = some y) (hd : decode y.2.1 pc = .ok (.ldc2_w idx, 3)) (hl : (am_lk am_klt (am_own y) idx).map (fun q => q.1) = some v) : am_ev k pc ls st h = am_ev k (pc + 3) ls (.long v :: st) h := by
  refine am_ev_step (q := (pc + 3, ls, .long v :: st, h)) y _ 3 hy hd ?_
  cases hq : am_lk am_klt (am_own y) idx with
  | none => rw [hq] at hl; cases hl
  | some q =>
    rw [hq] at hl
    cases hl
    show (if 3 = 3 then (match am_lk am_klt (am_own y) idx with
      | some (v, _) => am_go (pc + 3) ls (.long v :: st) h
      | none => none) else none) = _
    rw [hq]
    rfl
theorem am_u_i1 {c : ClassFile.Cond} {off : Int} {a : Int32} {d1 : Decidable (am_c1 c a)} {t : Nat} (h0 : (0 : Int) ≤ (pc : Int) + off) (ht : am_jt pc off = t) : am_if1 c off pc ls (.int a :: st) h = some (.inl (@ite _ (am_c1 c a) d1 t (pc + 3), ls, st, h)) := by
  unfold am_if1
  dsimp only
  rw [if_pos h0, ← ht]
  unfold am_go
  congr 3
  congr 1
theorem am_u_i2 {c : ClassFile.Cond} {off : Int} {a b : Int32} {d1 : Decidable (am_c2 c a b)} {t : Nat} (h0 : (0 : Int) ≤ (pc : Int) + off) (ht : am_jt pc off = t) : am_if2 c off pc ls (.int b :: .int a :: st) h = some (.inl (@ite _ (am_c2 c a b) d1 t (pc + 3), ls, st, h)) := by
  unfold am_if2
  dsimp only
  rw [if_pos h0, ← ht]
  unfold am_go
  congr 3
  congr 1
theorem am_u_if1 {c : ClassFile.Cond} {off : Int} {a : Int32} {d : Decidable (am_c1 c a)} {t : Nat} (hy : am_ms[k]? = some y) (hd : decode y.2.1 pc = .ok (.ifCond c off, 3)) (h0 : (0 : Int) ≤ (pc : Int) + off ∧ am_jt pc off = t) : am_ev k pc ls (.int a :: st) h = @ite _ (am_c1 c a) d (am_ev k t ls st h) (am_ev k (pc + 3) ls st h) := by
  have e : am_act y (.ifCond c off) 3 pc ls (.int a :: st) h = some (.inl (@ite _ (am_c1 c a) d t (pc + 3), ls, st, h)) := am_u_i1 h0.1 h0.2
  rw [am_ev_step y _ 3 hy hd e]
  dsimp only
  split <;> rfl
theorem am_u_if2 {c : ClassFile.Cond} {off : Int} {a b : Int32} {d : Decidable (am_c2 c a b)} {t : Nat} (hy : am_ms[k]? = some y) (hd : decode y.2.1 pc = .ok (.if_icmp c off, 3)) (h0 : (0 : Int) ≤ (pc : Int) + off ∧ am_jt pc off = t) : am_ev k pc ls (.int b :: .int a :: st) h = @ite _ (am_c2 c a b) d (am_ev k t ls st h) (am_ev k (pc + 3) ls st h) := by
  have e : am_act y (.if_icmp c off) 3 pc ls (.int b :: .int a :: st) h = some (.inl (@ite _ (am_c2 c a b) d t (pc + 3), ls, st, h)) := am_u_i2 h0.1 h0.2
  rw [am_ev_step y _ 3 hy hd e]
  dsimp only
  split <;> rfl
theorem am_u_m2 {idx kind : Nat} {wn : Nat × Nat} {a b : Int32} (hy : am_ms[k]? = some y) (hd : decode y.2.1 pc = .ok (.invokestatic idx, 3)) (hl : am_lk am_mlt (am_own y) idx = some (kind, wn)) (hk : kind = 6 ∨ kind = 7) (hr : 1 ≤ am_rf y ∧ 21 ≤ am_rl y) (hw : am_w8 st ≤ 8) : am_ev k pc ls (.int b :: .int a :: st) h = am_ev k (pc + 3) ls (.int (if kind = 6 then (if b < a then b else a) else (if a < b then b else a)) :: st) h := by
  refine am_ev_step (q := (pc + 3, ls, .int (if kind = 6 then (if b < a then b else a) else (if a < b then b else a)) :: st, h)) y _ 3 hy hd ?_
  show am_inv y (fun k => k == 1 || k == 4 || k == 6 || k == 7 || k == 8) idx pc ls (.int b :: .int a :: st) h = _
  unfold am_inv
  rcases hk with rfl | rfl
  · simp only [hl]
    show am_mt y 6 pc ls (.int b :: .int a :: st) h = _
    unfold am_mt
    rw [if_neg (by decide)]
    dsimp only
    rw [if_pos ⟨hr.1, by omega⟩]
    rfl
  · simp only [hl]
    show am_mt y 7 pc ls (.int b :: .int a :: st) h = _
    unfold am_mt
    rw [if_neg (by decide)]
    dsimp only
    rw [if_pos ⟨hr.1, by omega⟩]
    rfl
theorem am_u_m1 {idx : Nat} {wn : Nat × Nat} {a : Int32} (hy : am_ms[k]? = some y) (hd : decode y.2.1 pc = .ok (.invokestatic idx, 3)) (hl : am_lk am_mlt (am_own y) idx = some (8, wn)) (hr : 1 ≤ am_rf y ∧ 21 ≤ am_rl y) (hw : am_w8 st ≤ 8) : am_ev k pc ls (.int a :: st) h = am_ev k (pc + 3) ls (.int (if 0 ≤ a then a else 0 - a) :: st) h := by
  refine am_ev_step (q := (pc + 3, ls, .int (if 0 ≤ a then a else 0 - a) :: st, h)) y _ 3 hy hd ?_
  show am_inv y (fun k => k == 1 || k == 4 || k == 6 || k == 7 || k == 8) idx pc ls (.int a :: st) h = _
  unfold am_inv
  simp only [hl]
  show am_mt y 8 pc ls (.int a :: st) h = _
  unfold am_mt
  rw [if_pos rfl]
  dsimp only
  rw [if_pos ⟨hr.1, by omega⟩]
  rfl
end AMU2
