/-! part 05: plain instructions (by wip/whole/steps1.py) -/
def am_Fx (w : am_Wd) (X : Nat × (Nat → Int32)) (y : am_M) (p : Program) (s : State) (m : MethodId) (args : Array Value) (meth : Method) (c : Code) : Prop :=
  p.tables.exec = Jvm.exec ∧ c.code = y.2.1 ∧ meth.sig.returnType = y.2.2.2.1 ∧ c.maxLocals = y.2.2.1 ∧ s.vm.findClass (am_on.getD (am_own y) "") = some m.cls ∧ (∀ t ∈ am_tb, t.before args s = true) ∧ meth.locks = false ∧ (y.1.name = "<init>" → meth.name = "<init>") ∧ va_K w.1 am_cl (am_tys w) s ∧ am_Cf w X s s.heap ∧ w.2.2.1 ≤ s.heap.size
def am_G (p : Program) (l : Launch) (e : Env) (R : Room) (s : State) (m : MethodId) (args : Array Value) (below : List Frame) (meth : Method) (c : Code) (Q : State → Prop) (w : am_Wd) (X : Nat × (Nat → Int32)) (y : am_M) (n0 z0 : Nat) (k : am_C) : Prop :=
  ∀ (H : Heap) (locs : List Loc) (lsC : Array Slot), am_Rep w k.2.2.2 H → va_S (am_A0 w) s.heap H locs → am_LR w k.2.1 lsC y.2.2.1 → k.2.2.2.2.2.2.2 = X →
    W p l e R s m args below meth c H locs (am_n k.2.2.2 - n0) (am_z k.2.2.2 - z0) Q (F0 m k.1 lsC (k.2.2.1.map (am_v w)))
section AMS
variable {p : Program} {l : Launch} {e : Env} {R : Room} {s : State} {m : MethodId} {args : Array Value} {below : List Frame} {meth : Method} {c : Code} {Q : State → Prop} {w : am_Wd} {X : Nat × (Nat → Int32)} {y : am_M} {n0 z0 : Nat}
variable {pc : Nat} {ls : List (Option Value)} {st : List Value} {h : am_H} {k : am_C}
theorem am_go_inv {pc : Nat} {ls : List (Option Value)} {st : List Value} {h : am_H} {k : am_C} (ha : am_go pc ls st h = some (.inl k)) : k = (pc, ls, st, h) := by
  have := Sum.inl.inj (Option.some.inj ha)
  exact this.symm
theorem am_x_iconst {n : Int} (F : am_Fx w X y p s m args meth c) (hd : decode y.2.1 pc = .ok (.iconst n, 1)) (ha : am_go (pc + 1) ls (.int (Int32.ofInt n) :: st) h = some (.inl k)) (G : am_G p l e R s m args below meth c Q w X y n0 z0 k) : am_G p l e R s m args below meth c Q w X y n0 z0 (pc, ls, st, h) := by
  obtain rfl := am_go_inv ha
  intro H locs lsC hR hS hL hX
  exact lv_iconst F.1 F.2.1 hd rfl (G H locs lsC hR hS hL hX)
theorem am_x_bipush {n : Int} (F : am_Fx w X y p s m args meth c) (hd : decode y.2.1 pc = .ok (.bipush n, 2)) (ha : am_go (pc + 2) ls (.int (Int8.ofInt n).toInt32 :: st) h = some (.inl k)) (G : am_G p l e R s m args below meth c Q w X y n0 z0 k) : am_G p l e R s m args below meth c Q w X y n0 z0 (pc, ls, st, h) := by
  obtain rfl := am_go_inv ha
  intro H locs lsC hR hS hL hX
  exact lv_bipush F.1 F.2.1 hd rfl (G H locs lsC hR hS hL hX)
theorem am_x_sipush {n : Int} (F : am_Fx w X y p s m args meth c) (hd : decode y.2.1 pc = .ok (.sipush n, 3)) (ha : am_go (pc + 3) ls (.int (Int16.ofInt n).toInt32 :: st) h = some (.inl k)) (G : am_G p l e R s m args below meth c Q w X y n0 z0 k) : am_G p l e R s m args below meth c Q w X y n0 z0 (pc, ls, st, h) := by
  obtain rfl := am_go_inv ha
  intro H locs lsC hR hS hL hX
  exact lv_sipush F.1 F.2.1 hd rfl (G H locs lsC hR hS hL hX)
theorem am_x_lconst {n : Fin 2} (F : am_Fx w X y p s m args meth c) (hd : decode y.2.1 pc = .ok (.lconst n, 1)) (ha : am_go (pc + 1) ls (.long (Int64.ofNat (n : Nat)) :: st) h = some (.inl k)) (G : am_G p l e R s m args below meth c Q w X y n0 z0 k) : am_G p l e R s m args below meth c Q w X y n0 z0 (pc, ls, st, h) := by
  obtain rfl := am_go_inv ha
  intro H locs lsC hR hS hL hX
  exact lv_lconst F.1 F.2.1 hd rfl (G H locs lsC hR hS hL hX)
theorem am_x_null (F : am_Fx w X y p s m args meth c) (hd : decode y.2.1 pc = .ok (.aconst_null, 1)) (ha : am_go (pc + 1) ls (.null :: st) h = some (.inl k)) (G : am_G p l e R s m args below meth c Q w X y n0 z0 k) : am_G p l e R s m args below meth c Q w X y n0 z0 (pc, ls, st, h) := by
  obtain rfl := am_go_inv ha
  intro H locs lsC hR hS hL hX
  exact lv_null F.1 F.2.1 hd (G H locs lsC hR hS hL hX)
theorem am_lI_inv {i : Nat} (ha : am_lI i pc ls st h = some (.inl k)) : ∃ a, am_ld ls i = some (.int a) ∧ k = (pc, ls, .int a :: st, h) := by
  unfold am_lI at ha
  split at ha
  · rename_i a h1
    exact ⟨a, h1, am_go_inv ha⟩
  · cases ha
theorem am_x_iload {i : Nat} (F : am_Fx w X y p s m args meth c) (hd : decode y.2.1 pc = .ok (.iload i, 2)) (ha : am_lI i (pc + 2) ls st h = some (.inl k)) (G : am_G p l e R s m args below meth c Q w X y n0 z0 k) : am_G p l e R s m args below meth c Q w X y n0 z0 (pc, ls, st, h) := by
  obtain ⟨a, h1, rfl⟩ := am_lI_inv ha
  intro H locs lsC hR hS hL hX
  exact lv_iload F.1 F.2.1 hd (hL.2.2.2 _ _ h1) (G H locs lsC hR hS hL hX)
theorem am_x_iload_n {i : Fin 4} (F : am_Fx w X y p s m args meth c) (hd : decode y.2.1 pc = .ok (.iload_n i, 1)) (ha : am_lI i (pc + 1) ls st h = some (.inl k)) (G : am_G p l e R s m args below meth c Q w X y n0 z0 k) : am_G p l e R s m args below meth c Q w X y n0 z0 (pc, ls, st, h) := by
  obtain ⟨a, h1, rfl⟩ := am_lI_inv ha
  intro H locs lsC hR hS hL hX
  exact lv_iload_n F.1 F.2.1 hd rfl (hL.2.2.2 _ _ h1) (G H locs lsC hR hS hL hX)
theorem am_lL_inv {i : Nat} (ha : am_lL i pc ls st h = some (.inl k)) : ∃ a, am_ld ls i = some (.long a) ∧ k = (pc, ls, .long a :: st, h) := by
  unfold am_lL at ha
  split at ha
  · rename_i a h1
    exact ⟨a, h1, am_go_inv ha⟩
  · cases ha
theorem am_x_lload {i : Nat} (F : am_Fx w X y p s m args meth c) (hd : decode y.2.1 pc = .ok (.lload i, 2)) (ha : am_lL i (pc + 2) ls st h = some (.inl k)) (G : am_G p l e R s m args below meth c Q w X y n0 z0 k) : am_G p l e R s m args below meth c Q w X y n0 z0 (pc, ls, st, h) := by
  obtain ⟨a, h1, rfl⟩ := am_lL_inv ha
  intro H locs lsC hR hS hL hX
  exact lv_lload F.1 F.2.1 hd (hL.2.2.2 _ _ h1) (G H locs lsC hR hS hL hX)
theorem am_x_lload_n {i : Fin 4} (F : am_Fx w X y p s m args meth c) (hd : decode y.2.1 pc = .ok (.lload_n i, 1)) (ha : am_lL i (pc + 1) ls st h = some (.inl k)) (G : am_G p l e R s m args below meth c Q w X y n0 z0 k) : am_G p l e R s m args below meth c Q w X y n0 z0 (pc, ls, st, h) := by
  obtain ⟨a, h1, rfl⟩ := am_lL_inv ha
  intro H locs lsC hR hS hL hX
  exact lv_lload_n F.1 F.2.1 hd rfl (hL.2.2.2 _ _ h1) (G H locs lsC hR hS hL hX)
theorem am_lA_inv {i : Nat} (ha : am_lA i pc ls st h = some (.inl k)) : (∃ a, am_ld ls i = some (.ref a) ∧ k = (pc, ls, .ref a :: st, h)) ∨ (am_ld ls i = some .null ∧ k = (pc, ls, .null :: st, h)) := by
  unfold am_lA at ha
  split at ha
  · rename_i a h1
    exact Or.inl ⟨a, h1, am_go_inv ha⟩
  · rename_i h1
    exact Or.inr ⟨h1, am_go_inv ha⟩
  · cases ha
theorem am_x_aload {i : Nat} (F : am_Fx w X y p s m args meth c) (hd : decode y.2.1 pc = .ok (.aload i, 2)) (ha : am_lA i (pc + 2) ls st h = some (.inl k)) (G : am_G p l e R s m args below meth c Q w X y n0 z0 k) : am_G p l e R s m args below meth c Q w X y n0 z0 (pc, ls, st, h) := by
  rcases am_lA_inv ha with ⟨a, h1, rfl⟩ | ⟨h1, rfl⟩
  · intro H locs lsC hR hS hL hX
    exact lv_aload F.1 F.2.1 hd (hL.2.2.2 _ _ h1) (G H locs lsC hR hS hL hX)
  · intro H locs lsC hR hS hL hX
    exact lv_aloadN F.1 F.2.1 hd (hL.2.2.2 _ _ h1) (G H locs lsC hR hS hL hX)
theorem am_x_aload_n {i : Fin 4} (F : am_Fx w X y p s m args meth c) (hd : decode y.2.1 pc = .ok (.aload_n i, 1)) (ha : am_lA i (pc + 1) ls st h = some (.inl k)) (G : am_G p l e R s m args below meth c Q w X y n0 z0 k) : am_G p l e R s m args below meth c Q w X y n0 z0 (pc, ls, st, h) := by
  rcases am_lA_inv ha with ⟨a, h1, rfl⟩ | ⟨h1, rfl⟩
  · intro H locs lsC hR hS hL hX
    exact lv_aload_n F.1 F.2.1 hd rfl (hL.2.2.2 _ _ h1) (G H locs lsC hR hS hL hX)
  · intro H locs lsC hR hS hL hX
    exact lv_aload_nN F.1 F.2.1 hd rfl (hL.2.2.2 _ _ h1) (G H locs lsC hR hS hL hX)
theorem am_s1_lt {i : Nat} {v : Value} {ls' : List (Option Value)} (hs : am_s1 ls i v = some ls') : i < ls.length := by
  unfold am_s1 at hs
  split at hs
  · assumption
  · cases hs
theorem am_s2_lt {i : Nat} {v : Value} {ls' : List (Option Value)} (hs : am_s2 ls i v = some ls') : i + 1 < ls.length := by
  unfold am_s2 at hs
  split at hs
  · assumption
  · cases hs
theorem am_tI_inv {i : Nat} (ha : am_tI i pc ls st h = some (.inl k)) : ∃ a r ls', st = .int a :: r ∧ am_s1 ls i (.int a) = some ls' ∧ k = (pc, ls', r, h) := by
  unfold am_tI at ha
  split at ha
  · split at ha
    · rename_i ls' h1
      exact ⟨_, _, _, rfl, h1, am_go_inv ha⟩
    · cases ha
  · cases ha
theorem am_tL_inv {i : Nat} (ha : am_tL i pc ls st h = some (.inl k)) : ∃ a r ls', st = .long a :: r ∧ am_s2 ls i (.long a) = some ls' ∧ k = (pc, ls', r, h) := by
  unfold am_tL at ha
  split at ha
  · split at ha
    · rename_i ls' h1
      exact ⟨_, _, _, rfl, h1, am_go_inv ha⟩
    · cases ha
  · cases ha
theorem am_tA_inv {i : Nat} (ha : am_tA i pc ls st h = some (.inl k)) : (∃ a r ls', st = .ref a :: r ∧ am_s1 ls i (.ref a) = some ls' ∧ k = (pc, ls', r, h)) ∨ ∃ r ls', st = .null :: r ∧ am_s1 ls i .null = some ls' ∧ k = (pc, ls', r, h) := by
  unfold am_tA at ha
  split at ha
  · split at ha
    · rename_i ls' h1
      exact Or.inl ⟨_, _, _, rfl, h1, am_go_inv ha⟩
    · cases ha
  · split at ha
    · rename_i ls' h1
      exact Or.inr ⟨_, _, rfl, h1, am_go_inv ha⟩
    · cases ha
  · cases ha
theorem am_x_istore {i : Nat} (F : am_Fx w X y p s m args meth c) (hd : decode y.2.1 pc = .ok (.istore i, 2)) (ha : am_tI i (pc + 2) ls st h = some (.inl k)) (G : am_G p l e R s m args below meth c Q w X y n0 z0 k) : am_G p l e R s m args below meth c Q w X y n0 z0 (pc, ls, st, h) := by
  obtain ⟨a, r, ls', rfl, h1, rfl⟩ := am_tI_inv ha
  intro H locs lsC hR hS hL hX
  exact lv_istore F.1 F.2.1 hd hL.has (by rw [← hL.1]; exact am_s1_lt h1) rfl (fun lsD hn => G H locs lsD hR hS (hL.s1 h1 rfl (fun _ q => by cases q) hn) hX)
theorem am_x_istore_n {i : Fin 4} (F : am_Fx w X y p s m args meth c) (hd : decode y.2.1 pc = .ok (.istore_n i, 1)) (ha : am_tI i (pc + 1) ls st h = some (.inl k)) (G : am_G p l e R s m args below meth c Q w X y n0 z0 k) : am_G p l e R s m args below meth c Q w X y n0 z0 (pc, ls, st, h) := by
  obtain ⟨a, r, ls', rfl, h1, rfl⟩ := am_tI_inv ha
  intro H locs lsC hR hS hL hX
  exact lv_istore_n F.1 F.2.1 hd rfl hL.has (by rw [← hL.1]; exact am_s1_lt h1) rfl (fun lsD hn => G H locs lsD hR hS (hL.s1 h1 rfl (fun _ q => by cases q) hn) hX)
theorem am_x_lstore {i : Nat} (F : am_Fx w X y p s m args meth c) (hd : decode y.2.1 pc = .ok (.lstore i, 2)) (ha : am_tL i (pc + 2) ls st h = some (.inl k)) (G : am_G p l e R s m args below meth c Q w X y n0 z0 k) : am_G p l e R s m args below meth c Q w X y n0 z0 (pc, ls, st, h) := by
  obtain ⟨a, r, ls', rfl, h1, rfl⟩ := am_tL_inv ha
  intro H locs lsC hR hS hL hX
  exact lv_lstore F.1 F.2.1 hd hL.has (by rw [← hL.1]; exact am_s2_lt h1) rfl (fun lsD hn => G H locs lsD hR hS (hL.s2 h1 hn) hX)
theorem am_x_lstore_n {i : Fin 4} (F : am_Fx w X y p s m args meth c) (hd : decode y.2.1 pc = .ok (.lstore_n i, 1)) (ha : am_tL i (pc + 1) ls st h = some (.inl k)) (G : am_G p l e R s m args below meth c Q w X y n0 z0 k) : am_G p l e R s m args below meth c Q w X y n0 z0 (pc, ls, st, h) := by
  obtain ⟨a, r, ls', rfl, h1, rfl⟩ := am_tL_inv ha
  intro H locs lsC hR hS hL hX
  exact lv_lstore_n F.1 F.2.1 hd rfl hL.has (by rw [← hL.1]; exact am_s2_lt h1) rfl (fun lsD hn => G H locs lsD hR hS (hL.s2 h1 hn) hX)
theorem am_x_astore {i : Nat} (F : am_Fx w X y p s m args meth c) (hd : decode y.2.1 pc = .ok (.astore i, 2)) (ha : am_tA i (pc + 2) ls st h = some (.inl k)) (G : am_G p l e R s m args below meth c Q w X y n0 z0 k) : am_G p l e R s m args below meth c Q w X y n0 z0 (pc, ls, st, h) := by
  rcases am_tA_inv ha with ⟨a, r, ls', rfl, h1, rfl⟩ | ⟨r, ls', rfl, h1, rfl⟩
  · intro H locs lsC hR hS hL hX
    exact lv_astore F.1 F.2.1 hd hL.has (by rw [← hL.1]; exact am_s1_lt h1) rfl (fun lsD hn => G H locs lsD hR hS (hL.s1 h1 rfl (fun _ q => by cases q) hn) hX)
  · intro H locs lsC hR hS hL hX
    exact lv_astoreN F.1 F.2.1 hd hL.has (by rw [← hL.1]; exact am_s1_lt h1) rfl (fun lsD hn => G H locs lsD hR hS (hL.s1 h1 rfl (fun _ q => by cases q) hn) hX)
theorem am_x_astore_n {i : Fin 4} (F : am_Fx w X y p s m args meth c) (hd : decode y.2.1 pc = .ok (.astore_n i, 1)) (ha : am_tA i (pc + 1) ls st h = some (.inl k)) (G : am_G p l e R s m args below meth c Q w X y n0 z0 k) : am_G p l e R s m args below meth c Q w X y n0 z0 (pc, ls, st, h) := by
  rcases am_tA_inv ha with ⟨a, r, ls', rfl, h1, rfl⟩ | ⟨r, ls', rfl, h1, rfl⟩
  · intro H locs lsC hR hS hL hX
    exact lv_astore_n F.1 F.2.1 hd rfl hL.has (by rw [← hL.1]; exact am_s1_lt h1) rfl (fun lsD hn => G H locs lsD hR hS (hL.s1 h1 rfl (fun _ q => by cases q) hn) hX)
  · intro H locs lsC hR hS hL hX
    exact lv_astore_nN F.1 F.2.1 hd rfl hL.has (by rw [← hL.1]; exact am_s1_lt h1) rfl (fun lsD hn => G H locs lsD hR hS (hL.s1 h1 rfl (fun _ q => by cases q) hn) hX)
theorem am_inc_inv {i : Nat} {n : Int} (ha : am_inc i n pc ls st h = some (.inl k)) : ∃ a ls', am_ld ls i = some (.int a) ∧ am_s1 ls i (.int (a + Int32.ofInt n)) = some ls' ∧ k = (pc, ls', st, h) := by
  unfold am_inc at ha
  split at ha
  · rename_i a h1
    split at ha
    · rename_i ls' h2
      exact ⟨_, _, h1, h2, am_go_inv ha⟩
    · cases ha
  · cases ha
theorem am_x_iinc {i : Nat} {n : Int} (F : am_Fx w X y p s m args meth c) (hd : decode y.2.1 pc = .ok (.iinc i n, 3)) (ha : am_inc i n (pc + 3) ls st h = some (.inl k)) (G : am_G p l e R s m args below meth c Q w X y n0 z0 k) : am_G p l e R s m args below meth c Q w X y n0 z0 (pc, ls, st, h) := by
  obtain ⟨a, ls', h1, h2, rfl⟩ := am_inc_inv ha
  intro H locs lsC hR hS hL hX
  obtain ⟨q, hq⟩ := List.getElem?_of_mem (am_lvs_mem (w := w) h1)
  exact lv_iinc F.1 F.2.1 hd hL.has hq rfl (by rw [← hL.1]; exact am_s1_lt h2) rfl (fun lsD hn => G H locs lsD hR hS (hL.s1 h2 rfl (fun _ q => by cases q) hn) hX)
theorem am_ii_inv {f : Int32 → Int32 → Int32} (ha : am_ii f pc ls st h = some (.inl k)) : ∃ a b r, st = .int b :: .int a :: r ∧ k = (pc, ls, .int (f a b) :: r, h) := by
  unfold am_ii at ha
  split at ha
  · exact ⟨_, _, _, rfl, am_go_inv ha⟩
  · cases ha
theorem am_iz_inv {f : Int32 → Int32 → Int32} (ha : am_iz f pc ls st h = some (.inl k)) : ∃ a b r, st = .int b :: .int a :: r ∧ ¬ b = 0 ∧ k = (pc, ls, .int (f a b) :: r, h) := by
  unfold am_iz at ha
  split at ha
  · split at ha
    · cases ha
    · rename_i h1
      exact ⟨_, _, _, rfl, h1, am_go_inv ha⟩
  · cases ha
theorem am_ll_inv {f : Int64 → Int64 → Int64} (ha : am_ll f pc ls st h = some (.inl k)) : ∃ a b r, st = .long b :: .long a :: r ∧ k = (pc, ls, .long (f a b) :: r, h) := by
  unfold am_ll at ha
  split at ha
  · exact ⟨_, _, _, rfl, am_go_inv ha⟩
  · cases ha
theorem am_lz_inv {f : Int64 → Int64 → Int64} (ha : am_lz f pc ls st h = some (.inl k)) : ∃ a b r, st = .long b :: .long a :: r ∧ ¬ b = 0 ∧ k = (pc, ls, .long (f a b) :: r, h) := by
  unfold am_lz at ha
  split at ha
  · split at ha
    · cases ha
    · rename_i h1
      exact ⟨_, _, _, rfl, h1, am_go_inv ha⟩
  · cases ha
theorem am_li_inv {f : Int64 → Int32 → Int64} (ha : am_li f pc ls st h = some (.inl k)) : ∃ a b r, st = .int b :: .long a :: r ∧ k = (pc, ls, .long (f a b) :: r, h) := by
  unfold am_li at ha
  split at ha
  · exact ⟨_, _, _, rfl, am_go_inv ha⟩
  · cases ha
theorem am_x_iadd (F : am_Fx w X y p s m args meth c) (hd : decode y.2.1 pc = .ok (.iadd, 1)) (ha : am_ii (fun a b => a + b) (pc + 1) ls st h = some (.inl k)) (G : am_G p l e R s m args below meth c Q w X y n0 z0 k) : am_G p l e R s m args below meth c Q w X y n0 z0 (pc, ls, st, h) := by
  obtain ⟨a, b, r, rfl, rfl⟩ := am_ii_inv ha
  intro H locs lsC hR hS hL hX
  exact lv_iadd F.1 F.2.1 hd (G H locs lsC hR hS hL hX)
theorem am_x_isub (F : am_Fx w X y p s m args meth c) (hd : decode y.2.1 pc = .ok (.isub, 1)) (ha : am_ii (fun a b => a - b) (pc + 1) ls st h = some (.inl k)) (G : am_G p l e R s m args below meth c Q w X y n0 z0 k) : am_G p l e R s m args below meth c Q w X y n0 z0 (pc, ls, st, h) := by
  obtain ⟨a, b, r, rfl, rfl⟩ := am_ii_inv ha
  intro H locs lsC hR hS hL hX
  exact lv_isub F.1 F.2.1 hd (G H locs lsC hR hS hL hX)
theorem am_x_imul (F : am_Fx w X y p s m args meth c) (hd : decode y.2.1 pc = .ok (.imul, 1)) (ha : am_ii (fun a b => a * b) (pc + 1) ls st h = some (.inl k)) (G : am_G p l e R s m args below meth c Q w X y n0 z0 k) : am_G p l e R s m args below meth c Q w X y n0 z0 (pc, ls, st, h) := by
  obtain ⟨a, b, r, rfl, rfl⟩ := am_ii_inv ha
  intro H locs lsC hR hS hL hX
  exact lv_imul F.1 F.2.1 hd (G H locs lsC hR hS hL hX)
theorem am_x_iand (F : am_Fx w X y p s m args meth c) (hd : decode y.2.1 pc = .ok (.iand, 1)) (ha : am_ii (fun a b => a &&& b) (pc + 1) ls st h = some (.inl k)) (G : am_G p l e R s m args below meth c Q w X y n0 z0 k) : am_G p l e R s m args below meth c Q w X y n0 z0 (pc, ls, st, h) := by
  obtain ⟨a, b, r, rfl, rfl⟩ := am_ii_inv ha
  intro H locs lsC hR hS hL hX
  exact lv_iand F.1 F.2.1 hd (G H locs lsC hR hS hL hX)
theorem am_x_ior (F : am_Fx w X y p s m args meth c) (hd : decode y.2.1 pc = .ok (.ior, 1)) (ha : am_ii (fun a b => a ||| b) (pc + 1) ls st h = some (.inl k)) (G : am_G p l e R s m args below meth c Q w X y n0 z0 k) : am_G p l e R s m args below meth c Q w X y n0 z0 (pc, ls, st, h) := by
  obtain ⟨a, b, r, rfl, rfl⟩ := am_ii_inv ha
  intro H locs lsC hR hS hL hX
  exact lv_ior F.1 F.2.1 hd (G H locs lsC hR hS hL hX)
theorem am_x_ixor (F : am_Fx w X y p s m args meth c) (hd : decode y.2.1 pc = .ok (.ixor, 1)) (ha : am_ii (fun a b => a ^^^ b) (pc + 1) ls st h = some (.inl k)) (G : am_G p l e R s m args below meth c Q w X y n0 z0 k) : am_G p l e R s m args below meth c Q w X y n0 z0 (pc, ls, st, h) := by
  obtain ⟨a, b, r, rfl, rfl⟩ := am_ii_inv ha
  intro H locs lsC hR hS hL hX
  exact lv_ixor F.1 F.2.1 hd (G H locs lsC hR hS hL hX)
theorem am_x_ishl (F : am_Fx w X y p s m args meth c) (hd : decode y.2.1 pc = .ok (.ishl, 1)) (ha : am_ii (fun a b => a <<< (b &&& 31)) (pc + 1) ls st h = some (.inl k)) (G : am_G p l e R s m args below meth c Q w X y n0 z0 k) : am_G p l e R s m args below meth c Q w X y n0 z0 (pc, ls, st, h) := by
  obtain ⟨a, b, r, rfl, rfl⟩ := am_ii_inv ha
  intro H locs lsC hR hS hL hX
  exact lv_ishl F.1 F.2.1 hd (G H locs lsC hR hS hL hX)
theorem am_x_ishr (F : am_Fx w X y p s m args meth c) (hd : decode y.2.1 pc = .ok (.ishr, 1)) (ha : am_ii (fun a b => a >>> (b &&& 31)) (pc + 1) ls st h = some (.inl k)) (G : am_G p l e R s m args below meth c Q w X y n0 z0 k) : am_G p l e R s m args below meth c Q w X y n0 z0 (pc, ls, st, h) := by
  obtain ⟨a, b, r, rfl, rfl⟩ := am_ii_inv ha
  intro H locs lsC hR hS hL hX
  exact lv_ishr F.1 F.2.1 hd (G H locs lsC hR hS hL hX)
theorem am_x_iushr (F : am_Fx w X y p s m args meth c) (hd : decode y.2.1 pc = .ok (.iushr, 1)) (ha : am_ii (fun a b => (a.toUInt32 >>> (b.toUInt32 &&& Int32.toUInt32 31)).toInt32) (pc + 1) ls st h = some (.inl k)) (G : am_G p l e R s m args below meth c Q w X y n0 z0 k) : am_G p l e R s m args below meth c Q w X y n0 z0 (pc, ls, st, h) := by
  obtain ⟨a, b, r, rfl, rfl⟩ := am_ii_inv ha
  intro H locs lsC hR hS hL hX
  exact lv_iushr F.1 F.2.1 hd rfl (G H locs lsC hR hS hL hX)
theorem am_x_idiv (F : am_Fx w X y p s m args meth c) (hd : decode y.2.1 pc = .ok (.idiv, 1)) (ha : am_iz (fun a b => a / b) (pc + 1) ls st h = some (.inl k)) (G : am_G p l e R s m args below meth c Q w X y n0 z0 k) : am_G p l e R s m args below meth c Q w X y n0 z0 (pc, ls, st, h) := by
  obtain ⟨a, b, r, rfl, h1, rfl⟩ := am_iz_inv ha
  intro H locs lsC hR hS hL hX
  exact lv_idiv F.1 F.2.1 hd h1 (G H locs lsC hR hS hL hX)
theorem am_x_irem (F : am_Fx w X y p s m args meth c) (hd : decode y.2.1 pc = .ok (.irem, 1)) (ha : am_iz (fun a b => a - a / b * b) (pc + 1) ls st h = some (.inl k)) (G : am_G p l e R s m args below meth c Q w X y n0 z0 k) : am_G p l e R s m args below meth c Q w X y n0 z0 (pc, ls, st, h) := by
  obtain ⟨a, b, r, rfl, h1, rfl⟩ := am_iz_inv ha
  intro H locs lsC hR hS hL hX
  exact lv_irem F.1 F.2.1 hd h1 (G H locs lsC hR hS hL hX)
theorem am_x_ladd (F : am_Fx w X y p s m args meth c) (hd : decode y.2.1 pc = .ok (.ladd, 1)) (ha : am_ll (fun a b => a + b) (pc + 1) ls st h = some (.inl k)) (G : am_G p l e R s m args below meth c Q w X y n0 z0 k) : am_G p l e R s m args below meth c Q w X y n0 z0 (pc, ls, st, h) := by
  obtain ⟨a, b, r, rfl, rfl⟩ := am_ll_inv ha
  intro H locs lsC hR hS hL hX
  exact lv_ladd F.1 F.2.1 hd (G H locs lsC hR hS hL hX)
theorem am_x_lsub (F : am_Fx w X y p s m args meth c) (hd : decode y.2.1 pc = .ok (.lsub, 1)) (ha : am_ll (fun a b => a - b) (pc + 1) ls st h = some (.inl k)) (G : am_G p l e R s m args below meth c Q w X y n0 z0 k) : am_G p l e R s m args below meth c Q w X y n0 z0 (pc, ls, st, h) := by
  obtain ⟨a, b, r, rfl, rfl⟩ := am_ll_inv ha
  intro H locs lsC hR hS hL hX
  exact lv_lsub F.1 F.2.1 hd (G H locs lsC hR hS hL hX)
theorem am_x_lmul (F : am_Fx w X y p s m args meth c) (hd : decode y.2.1 pc = .ok (.lmul, 1)) (ha : am_ll (fun a b => a * b) (pc + 1) ls st h = some (.inl k)) (G : am_G p l e R s m args below meth c Q w X y n0 z0 k) : am_G p l e R s m args below meth c Q w X y n0 z0 (pc, ls, st, h) := by
  obtain ⟨a, b, r, rfl, rfl⟩ := am_ll_inv ha
  intro H locs lsC hR hS hL hX
  exact lv_lmul F.1 F.2.1 hd (G H locs lsC hR hS hL hX)
theorem am_x_land (F : am_Fx w X y p s m args meth c) (hd : decode y.2.1 pc = .ok (.land, 1)) (ha : am_ll (fun a b => a &&& b) (pc + 1) ls st h = some (.inl k)) (G : am_G p l e R s m args below meth c Q w X y n0 z0 k) : am_G p l e R s m args below meth c Q w X y n0 z0 (pc, ls, st, h) := by
  obtain ⟨a, b, r, rfl, rfl⟩ := am_ll_inv ha
  intro H locs lsC hR hS hL hX
  exact lv_land F.1 F.2.1 hd (G H locs lsC hR hS hL hX)
theorem am_x_lor (F : am_Fx w X y p s m args meth c) (hd : decode y.2.1 pc = .ok (.lor, 1)) (ha : am_ll (fun a b => a ||| b) (pc + 1) ls st h = some (.inl k)) (G : am_G p l e R s m args below meth c Q w X y n0 z0 k) : am_G p l e R s m args below meth c Q w X y n0 z0 (pc, ls, st, h) := by
  obtain ⟨a, b, r, rfl, rfl⟩ := am_ll_inv ha
  intro H locs lsC hR hS hL hX
  exact lv_lor F.1 F.2.1 hd (G H locs lsC hR hS hL hX)
theorem am_x_ldiv (F : am_Fx w X y p s m args meth c) (hd : decode y.2.1 pc = .ok (.ldiv, 1)) (ha : am_lz (fun a b => a / b) (pc + 1) ls st h = some (.inl k)) (G : am_G p l e R s m args below meth c Q w X y n0 z0 k) : am_G p l e R s m args below meth c Q w X y n0 z0 (pc, ls, st, h) := by
  obtain ⟨a, b, r, rfl, h1, rfl⟩ := am_lz_inv ha
  intro H locs lsC hR hS hL hX
  exact lv_ldiv F.1 F.2.1 hd h1 (G H locs lsC hR hS hL hX)
theorem am_x_lrem (F : am_Fx w X y p s m args meth c) (hd : decode y.2.1 pc = .ok (.lrem, 1)) (ha : am_lz (fun a b => a - a / b * b) (pc + 1) ls st h = some (.inl k)) (G : am_G p l e R s m args below meth c Q w X y n0 z0 k) : am_G p l e R s m args below meth c Q w X y n0 z0 (pc, ls, st, h) := by
  obtain ⟨a, b, r, rfl, h1, rfl⟩ := am_lz_inv ha
  intro H locs lsC hR hS hL hX
  exact lv_lrem F.1 F.2.1 hd h1 (G H locs lsC hR hS hL hX)
theorem am_x_lshl (F : am_Fx w X y p s m args meth c) (hd : decode y.2.1 pc = .ok (.lshl, 1)) (ha : am_li (fun a b => a <<< (b.toInt64 &&& 63)) (pc + 1) ls st h = some (.inl k)) (G : am_G p l e R s m args below meth c Q w X y n0 z0 k) : am_G p l e R s m args below meth c Q w X y n0 z0 (pc, ls, st, h) := by
  obtain ⟨a, b, r, rfl, rfl⟩ := am_li_inv ha
  intro H locs lsC hR hS hL hX
  exact lv_lshl F.1 F.2.1 hd rfl (G H locs lsC hR hS hL hX)
theorem am_x_lshr (F : am_Fx w X y p s m args meth c) (hd : decode y.2.1 pc = .ok (.lshr, 1)) (ha : am_li (fun a b => a >>> (b.toInt64 &&& 63)) (pc + 1) ls st h = some (.inl k)) (G : am_G p l e R s m args below meth c Q w X y n0 z0 k) : am_G p l e R s m args below meth c Q w X y n0 z0 (pc, ls, st, h) := by
  obtain ⟨a, b, r, rfl, rfl⟩ := am_li_inv ha
  intro H locs lsC hR hS hL hX
  exact lv_lshr F.1 F.2.1 hd rfl (G H locs lsC hR hS hL hX)
theorem am_x_lushr (F : am_Fx w X y p s m args meth c) (hd : decode y.2.1 pc = .ok (.lushr, 1)) (ha : am_li (fun a b => (a.toUInt64 >>> (b.toInt64.toUInt64 &&& Int64.toUInt64 63)).toInt64) (pc + 1) ls st h = some (.inl k)) (G : am_G p l e R s m args below meth c Q w X y n0 z0 k) : am_G p l e R s m args below meth c Q w X y n0 z0 (pc, ls, st, h) := by
  obtain ⟨a, b, r, rfl, rfl⟩ := am_li_inv ha
  intro H locs lsC hR hS hL hX
  exact lv_lushr F.1 F.2.1 hd rfl (G H locs lsC hR hS hL hX)
theorem am_i1_inv {f : Int32 → Value} (ha : am_i1 f pc ls st h = some (.inl k)) : ∃ a r, st = .int a :: r ∧ k = (pc, ls, f a :: r, h) := by
  unfold am_i1 at ha
  split at ha
  · exact ⟨_, _, rfl, am_go_inv ha⟩
  · cases ha
theorem am_l1_inv {f : Int64 → Value} (ha : am_l1 f pc ls st h = some (.inl k)) : ∃ a r, st = .long a :: r ∧ k = (pc, ls, f a :: r, h) := by
  unfold am_l1 at ha
  split at ha
  · exact ⟨_, _, rfl, am_go_inv ha⟩
  · cases ha
theorem am_x_ineg (F : am_Fx w X y p s m args meth c) (hd : decode y.2.1 pc = .ok (.ineg, 1)) (ha : am_i1 (fun a => .int (-a)) (pc + 1) ls st h = some (.inl k)) (G : am_G p l e R s m args below meth c Q w X y n0 z0 k) : am_G p l e R s m args below meth c Q w X y n0 z0 (pc, ls, st, h) := by
  obtain ⟨a, r, rfl, rfl⟩ := am_i1_inv ha
  intro H locs lsC hR hS hL hX
  exact lv_ineg F.1 F.2.1 hd (G H locs lsC hR hS hL hX)
theorem am_x_i2b (F : am_Fx w X y p s m args meth c) (hd : decode y.2.1 pc = .ok (.i2b, 1)) (ha : am_i1 (fun a => .int a.toInt8.toInt32) (pc + 1) ls st h = some (.inl k)) (G : am_G p l e R s m args below meth c Q w X y n0 z0 k) : am_G p l e R s m args below meth c Q w X y n0 z0 (pc, ls, st, h) := by
  obtain ⟨a, r, rfl, rfl⟩ := am_i1_inv ha
  intro H locs lsC hR hS hL hX
  exact lv_i2b F.1 F.2.1 hd rfl (G H locs lsC hR hS hL hX)
theorem am_x_i2c (F : am_Fx w X y p s m args meth c) (hd : decode y.2.1 pc = .ok (.i2c, 1)) (ha : am_i1 (fun a => .int (a.toUInt32 % 65536).toInt32) (pc + 1) ls st h = some (.inl k)) (G : am_G p l e R s m args below meth c Q w X y n0 z0 k) : am_G p l e R s m args below meth c Q w X y n0 z0 (pc, ls, st, h) := by
  obtain ⟨a, r, rfl, rfl⟩ := am_i1_inv ha
  intro H locs lsC hR hS hL hX
  exact lv_i2c F.1 F.2.1 hd rfl (G H locs lsC hR hS hL hX)
theorem am_x_i2l (F : am_Fx w X y p s m args meth c) (hd : decode y.2.1 pc = .ok (.i2l, 1)) (ha : am_i1 (fun a => .long a.toInt64) (pc + 1) ls st h = some (.inl k)) (G : am_G p l e R s m args below meth c Q w X y n0 z0 k) : am_G p l e R s m args below meth c Q w X y n0 z0 (pc, ls, st, h) := by
  obtain ⟨a, r, rfl, rfl⟩ := am_i1_inv ha
  intro H locs lsC hR hS hL hX
  exact lv_i2l F.1 F.2.1 hd rfl (G H locs lsC hR hS hL hX)
theorem am_x_l2i (F : am_Fx w X y p s m args meth c) (hd : decode y.2.1 pc = .ok (.l2i, 1)) (ha : am_l1 (fun a => .int a.toInt32) (pc + 1) ls st h = some (.inl k)) (G : am_G p l e R s m args below meth c Q w X y n0 z0 k) : am_G p l e R s m args below meth c Q w X y n0 z0 (pc, ls, st, h) := by
  obtain ⟨a, r, rfl, rfl⟩ := am_l1_inv ha
  intro H locs lsC hR hS hL hX
  exact lv_l2i F.1 F.2.1 hd rfl (G H locs lsC hR hS hL hX)
theorem am_x_lcmp {a b : Int64} {r : List Value} (F : am_Fx w X y p s m args meth c) (hd : decode y.2.1 pc = .ok (.lcmp, 1)) (ha : am_go (pc + 1) ls (.int (lg_cmp a b) :: r) h = some (.inl k)) (G : am_G p l e R s m args below meth c Q w X y n0 z0 k) : am_G p l e R s m args below meth c Q w X y n0 z0 (pc, ls, .long b :: .long a :: r, h) := by
  obtain rfl := am_go_inv ha
  intro H locs lsC hR hS hL hX
  exact W.lcmp F.1 F.2.1 hd (G H locs lsC hR hS hL hX)
theorem am_x_dup (F : am_Fx w X y p s m args meth c) (hd : decode y.2.1 pc = .ok (.dup, 1)) (ha : am_dup (pc + 1) ls st h = some (.inl k)) (G : am_G p l e R s m args below meth c Q w X y n0 z0 k) : am_G p l e R s m args below meth c Q w X y n0 z0 (pc, ls, st, h) := by
  unfold am_dup at ha
  split at ha
  · split at ha
    · rename_i h1
      obtain rfl := am_go_inv ha
      intro H locs lsC hR hS hL hX
      exact lv_dup F.1 F.2.1 hd (by rw [am_v_cat]; exact h1) (G H locs lsC hR hS hL hX)
    · cases ha
  · cases ha
theorem am_x_pop (F : am_Fx w X y p s m args meth c) (hd : decode y.2.1 pc = .ok (.pop, 1)) (ha : am_pop (pc + 1) ls st h = some (.inl k)) (G : am_G p l e R s m args below meth c Q w X y n0 z0 k) : am_G p l e R s m args below meth c Q w X y n0 z0 (pc, ls, st, h) := by
  unfold am_pop at ha
  split at ha
  · split at ha
    · rename_i h1
      obtain rfl := am_go_inv ha
      intro H locs lsC hR hS hL hX
      exact lv_pop F.1 F.2.1 hd (by rw [am_v_cat]; exact h1) (G H locs lsC hR hS hL hX)
    · cases ha
  · cases ha
theorem am_x_dup2 (F : am_Fx w X y p s m args meth c) (hd : decode y.2.1 pc = .ok (.dup2, 1)) (ha : am_dup2 (pc + 1) ls st h = some (.inl k)) (G : am_G p l e R s m args below meth c Q w X y n0 z0 k) : am_G p l e R s m args below meth c Q w X y n0 z0 (pc, ls, st, h) := by
  unfold am_dup2 at ha
  split at ha
  · split at ha
    · rename_i h1
      obtain rfl := am_go_inv ha
      intro H locs lsC hR hS hL hX
      exact lv_dup2_11 F.1 F.2.1 hd (by rw [am_v_cat]; exact h1.1) (by rw [am_v_cat]; exact h1.2) (G H locs lsC hR hS hL hX)
    · cases ha
  · cases ha
theorem am_jt_ok {pc : Nat} {off : Int} (h0 : 0 ≤ (pc : Int) + off) : (pc : Int) + off = (am_jt pc off : Int) := by
  unfold am_jt
  omega
theorem am_x_if1 {cd : ClassFile.Cond} {off : Int} (F : am_Fx w X y p s m args meth c) (hd : decode y.2.1 pc = .ok (.ifCond cd off, 3)) (ha : am_if1 cd off pc ls st h = some (.inl k)) (G : am_G p l e R s m args below meth c Q w X y n0 z0 k) : am_G p l e R s m args below meth c Q w X y n0 z0 (pc, ls, st, h) := by
  unfold am_if1 at ha
  split at ha
  · rename_i a r
    split at ha
    · rename_i h0
      obtain rfl := am_go_inv ha
      intro H locs lsC hR hS hL hX
      have ht := am_jt_ok h0
      have gt : am_c1 cd a → W p l e R s m args below meth c H locs (am_n h - n0) (am_z h - z0) Q (F0 m (am_jt pc off) lsC (r.map (am_v w))) := fun hc => by
        have g := G H locs lsC hR hS hL hX
        rw [if_pos hc] at g
        exact g
      have gf : ¬ am_c1 cd a → W p l e R s m args below meth c H locs (am_n h - n0) (am_z h - z0) Q (F0 m (pc + 3) lsC (r.map (am_v w))) := fun hc => by
        have g := G H locs lsC hR hS hL hX
        rw [if_neg hc] at g
        exact g
      cases cd with
      | eq => exact lv_if_eq F.1 F.2.1 hd ht gt gf
      | ne => exact lv_if_ne F.1 F.2.1 hd ht gt (fun q => gf (fun n => n q))
      | lt => exact lv_if_lt F.1 F.2.1 hd ht gt gf
      | ge => exact lv_if_ge F.1 F.2.1 hd ht gt gf
      | gt => exact lv_if_gt F.1 F.2.1 hd ht gt gf
      | le => exact lv_if_le F.1 F.2.1 hd ht gt gf
    · cases ha
  · cases ha
theorem am_x_if2 {cd : ClassFile.Cond} {off : Int} (F : am_Fx w X y p s m args meth c) (hd : decode y.2.1 pc = .ok (.if_icmp cd off, 3)) (ha : am_if2 cd off pc ls st h = some (.inl k)) (G : am_G p l e R s m args below meth c Q w X y n0 z0 k) : am_G p l e R s m args below meth c Q w X y n0 z0 (pc, ls, st, h) := by
  unfold am_if2 at ha
  split at ha
  · rename_i b a r
    split at ha
    · rename_i h0
      obtain rfl := am_go_inv ha
      intro H locs lsC hR hS hL hX
      have ht := am_jt_ok h0
      have gt : am_c2 cd a b → W p l e R s m args below meth c H locs (am_n h - n0) (am_z h - z0) Q (F0 m (am_jt pc off) lsC (r.map (am_v w))) := fun hc => by
        have g := G H locs lsC hR hS hL hX
        rw [if_pos hc] at g
        exact g
      have gf : ¬ am_c2 cd a b → W p l e R s m args below meth c H locs (am_n h - n0) (am_z h - z0) Q (F0 m (pc + 3) lsC (r.map (am_v w))) := fun hc => by
        have g := G H locs lsC hR hS hL hX
        rw [if_neg hc] at g
        exact g
      cases cd with
      | eq => exact lv_icmp_eq F.1 F.2.1 hd ht gt gf
      | ne => exact lv_icmp_ne F.1 F.2.1 hd ht gt (fun q => gf (fun n => n q))
      | lt => exact lv_icmp_lt F.1 F.2.1 hd ht gt gf
      | ge => exact lv_icmp_ge F.1 F.2.1 hd ht gt gf
      | gt => exact lv_icmp_gt F.1 F.2.1 hd ht gt gf
      | le => exact lv_icmp_le F.1 F.2.1 hd ht gt gf
    · cases ha
  · cases ha
theorem am_x_goto {off : Int} (F : am_Fx w X y p s m args meth c) (hd : decode y.2.1 pc = .ok (.goto off, 3)) (h0 : 0 ≤ (pc : Int) + off) (ha : am_go (am_jt pc off) ls st h = some (.inl k)) (G : am_G p l e R s m args below meth c Q w X y n0 z0 k) : am_G p l e R s m args below meth c Q w X y n0 z0 (pc, ls, st, h) := by
  obtain rfl := am_go_inv ha
  intro H locs lsC hR hS hL hX
  exact lv_goto F.1 F.2.1 hd (am_jt_ok h0) (G H locs lsC hR hS hL hX)
theorem am_x_nn {off : Int} (F : am_Fx w X y p s m args meth c) (hd : decode y.2.1 pc = .ok (.ifnonnull off, 3)) (ha : am_nn off pc ls st h = some (.inl k)) (G : am_G p l e R s m args below meth c Q w X y n0 z0 k) : am_G p l e R s m args below meth c Q w X y n0 z0 (pc, ls, st, h) := by
  unfold am_nn at ha
  split at ha
  · split at ha
    · rename_i h0
      obtain rfl := am_go_inv ha
      intro H locs lsC hR hS hL hX
      exact lv_ifnonnull F.1 F.2.1 hd (am_jt_ok h0) (G H locs lsC hR hS hL hX)
    · cases ha
  · obtain rfl := am_go_inv ha
    intro H locs lsC hR hS hL hX
    exact lv_ifnonnullN F.1 F.2.1 hd (G H locs lsC hR hS hL hX)
  · cases ha
theorem am_x_sw {d lo hi : Int} {offs : Array Int} {len : Nat} (F : am_Fx w X y p s m args meth c) (hd : decode y.2.1 pc = .ok (.tableswitch d lo hi offs, len)) (ha : am_sw d lo hi offs pc ls st h = some (.inl k)) (G : am_G p l e R s m args below meth c Q w X y n0 z0 k) : am_G p l e R s m args below meth c Q w X y n0 z0 (pc, ls, st, h) := by
  unfold am_sw at ha
  split at ha
  · split at ha
    · rename_i h1
      split at ha
      · rename_i h0
        obtain rfl := am_go_inv ha
        intro H locs lsC hR hS hL hX
        exact lv_tableOut F.1 F.2.1 hd h1 (am_jt_ok h0) (G H locs lsC hR hS hL hX)
      · cases ha
    · rename_i h1
      split at ha
      · rename_i off h2
        split at ha
        · rename_i h0
          obtain rfl := am_go_inv ha
          intro H locs lsC hR hS hL hX
          exact lv_tableIn F.1 F.2.1 hd (fun q => h1 (Or.inl q)) (fun q => h1 (Or.inr q)) h2 (am_jt_ok h0) (G H locs lsC hR hS hL hX)
        · cases ha
      · cases ha
  · cases ha
end AMS
