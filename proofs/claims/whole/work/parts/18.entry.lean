-- ===== end of PART A; then your names; then what follows =====
/-! THE CLAIM OUT OF ONE WALK OF THE LAW'S BODY. Your part is whole_start (and what it stands on); all else here is the same for every law, but numbers. -/
def R_law : String := "DogNotaryLaw"
def lw_P (b : Addr) (xs : List Int32) (args : Array Value) (s : State) : Prop := args = #[.ref b] ∧ s.IntsAt b xs ∧ xs.length ≤ 3072 ∧ (Jvm.Cond.and given_1 narrow_1).before args s = true
def lw_Q (_ : Array Value) (s : State) (o : Outcome) (t : State) : Prop := o = .returned (some (.int 1)) ∧ Framed s o t [] 600000 7302250
def lw_Z (below : List Frame) (a : Array Value) (s : State) : State → Prop := fun t => ∃ o, t.status = .running ∧ Ended t below o ∧ lw_Q a s o t
/-- the law's own end, with 1 on the stack, nothing written that was there before, its room as the claim has it -/
theorem lw_ret {p : Program} {l : Launch} {e : Env} {s : State} {m : MethodId} {below : List Frame} {meth : Method} {c : Code} {b : Nat} (hx : p.tables.exec = Jvm.exec) (hb : c.code = code) (hr : meth.sig.returnType = ret) (hlocks : meth.locks = false) {pc : Nat} {H : Heap} {ls : Array Slot} (hdg : decode code pc = .ok (.ireturn, 1)) : W p l e room_1 s m #[Value.ref b] below meth c H [] 600000 7302250 (lw_Z below #[Value.ref b] s) (F0 m pc ls [.int 1]) := by
  intro T hT X
  obtain ⟨fs, hret, hrun, hended, hW, hframe⟩ := X.leave (v := some (.int 1)) (hlocks := hlocks) (fun h => by rw [hr] at h; cases h)
  have hmeth' : T.vm.method? m = some meth := X.method'
  refine ⟨T.setFrames fs, ?_, .returned (some (.int 1)), hrun, hended, rfl, ⟨_, rfl⟩, hW, hframe⟩
  jvm_step X.here [X.here.top, hx, hb, hdg, hmeth', hr, ret, narrow_b1]
  (try refine ⟨rfl, ?_⟩); (try refine ⟨rfl, ?_⟩)
  first | (intro acts; rw [hret _ acts rfl rfl rfl]) | rw [hret _ _ rfl rfl rfl]
  exact Steps.refl _
/-- what holds at the law's entry: the machine, the code, the tables' words (any of lw_tbl by 'hts w (by decide +kernel)'), the script of L ints xs at the cell b, what the Statement gives of the start (any of its parts by flat_of_before) -/
def lw_At (p : Program) (s : State) (m : MethodId) (meth : Method) (c : Code) (b L : Nat) (xs : Nat → Int32) : Prop :=
  p.tables.exec = Jvm.exec ∧ c.code = code ∧ meth.sig.returnType = ret ∧ c.maxLocals = 4 ∧ s.vm.findClass R_law = some m.cls ∧ (∀ w ∈ lw_tbl, w.before #[Value.ref b] s = true) ∧ va_X b L xs s s.heap ∧ b < s.heap.size ∧ meth.locks = false ∧ (Jvm.Cond.and given_1 narrow_1).before #[Value.ref b] s = true
/-! part 18: from the law's entry to its loop -/
def am_inw : List Nat := [1112, 2092, 1095, 1046, 2037, 1152, 2121, 1216, 1033, 2078, 1025, 5124]
theorem am_in_all : (List.range 12).all (fun ci => am_isW (am_inw.getD ci 0) (.instantiable (am_cn ci) (am_nf ci))) = true := by decide +kernel
def am_lawM : am_M := (x, code, maxLocals, ret, 12, 1, 14, 546)
theorem am_lawM_at : am_ms[298]? = some am_lawM := rfl
theorem am_K_at {args : Array Value} {s : State} (hts : ∀ t ∈ lw_tbl, t.before args s = true) : ∃ (D : va_G) (dA : Nat → ClassId), ∀ (z : Nat) (ad : Nat → Nat) (vF : Option Nat), va_K D am_cl (am_tys (D, dA, z, ad, vF)) s := by
  have htb : ∀ t ∈ am_tb, t.before args s = true := fun t ht => hts t (List.mem_filter.mp ht).1
  have h1 : ∀ ci : Nat, ∃ q : ClassId × (Nat → Nat), ci < 12 → u_Kn s (am_cn ci) (am_T ci) (am_nf ci) q.1 q.2 := by
    intro ci
    by_cases hc : ci < 12
    · obtain ⟨cC, iS, hq⟩ := u_known (n := am_nf ci) htb (am_lay_ok hc) (htb _ (am_isW_in (List.all_eq_true.mp am_in_all ci (List.mem_range.mpr hc))))
      exact ⟨(cC, iS), fun _ => hq⟩
    · exact ⟨(0, fun _ => 0), fun h => absurd h hc⟩
  obtain ⟨f, hf⟩ := Classical.axiomOfChoice h1
  have prim : ∀ ty : FieldType, Cond.arrayClass ty ∈ am_tb → (∀ C, ty ≠ .object C) → ∃ cA : ClassId, ArrOfT s cA ty ∧ va_RA s cA ty := by
    intro ty hm hn
    obtain ⟨c0, k0, comp, q1, q2, q3⟩ := Cond.arrayClass_spec (args := args) (first := s) (o := none) (s := s) (idx := []) (type := ty) (htb _ hm)
    refine ⟨c0, fun n z => ⟨fun k h => (by cases h), k0, q2, comp, q3⟩, ?_⟩
    cases ty with
    | object C => exact absurd rfl (hn C)
    | _ => exact q1
  have obj : ∀ C : String, Cond.arrayOver (.object C) ∈ lw_tbl → ∃ cA : ClassId, ArrOfT s cA (.object C) ∧ va_RA s cA (.object C) := by
    intro C hm
    obtain ⟨comp, c0, k0, q1, q2, q3, q4, q5⟩ := Cond.arrayOver_spec (args := args) (first := s) (o := none) (s := s) (idx := []) (n := C) (hts _ hm)
    exact ⟨c0, fun n z => ⟨fun k h => (by cases h), k0, q3, comp, q4⟩, k0, comp, q3, q4, q1, q5⟩
  obtain ⟨p1, p2, p3, p4⟩ := am_arr_all
  have h2 : ∀ tc : Nat, ∃ cA : ClassId, tc ≤ 8 → ArrOfT s cA (am_at tc) ∧ va_RA s cA (am_at tc) := by
    intro tc
    match tc with
    | 0 => obtain ⟨cA, q⟩ := prim _ (am_isW_in p1) (fun _ h => by cases h); exact ⟨cA, fun _ => q⟩
    | 1 => obtain ⟨cA, q⟩ := prim _ (am_isW_in p2) (fun _ h => by cases h); exact ⟨cA, fun _ => q⟩
    | 2 => obtain ⟨cA, q⟩ := prim _ (am_isW_in p3) (fun _ h => by cases h); exact ⟨cA, fun _ => q⟩
    | 3 => obtain ⟨cA, q⟩ := prim _ (am_isW_in p4) (fun _ h => by cases h); exact ⟨cA, fun _ => q⟩
    | 4 => obtain ⟨cA, q⟩ := obj "DogNotary$Fell" (am_tbc_in (n := 1) (List.mem_of_getElem? (i := 39) (by decide +kernel))); exact ⟨cA, fun _ => q⟩
    | 5 => obtain ⟨cA, q⟩ := obj "DogNotary$Drive" (am_tbc_in (n := 1) (List.mem_of_getElem? (i := 41) (by decide +kernel))); exact ⟨cA, fun _ => q⟩
    | 6 => obtain ⟨cA, q⟩ := obj "DogNotary$Book" (am_tbc_in (n := 1) (List.mem_of_getElem? (i := 43) (by decide +kernel))); exact ⟨cA, fun _ => q⟩
    | 7 => obtain ⟨cA, q⟩ := obj "DogNotary$Log" (am_tbc_in (n := 1) (List.mem_of_getElem? (i := 45) (by decide +kernel))); exact ⟨cA, fun _ => q⟩
    | 8 => obtain ⟨cA, q⟩ := obj "DogNotary$Told" (am_tbc_in (n := 1) (List.mem_of_getElem? (i := 214) (by decide +kernel))); exact ⟨cA, fun _ => q⟩
    | n + 9 => exact ⟨0, fun h => absurd h (by omega)⟩
  obtain ⟨g, hg⟩ := Classical.axiomOfChoice h2
  refine ⟨(fun ci => (f ci).1, fun ci => (f ci).2), g, fun z ad vF => ⟨fun ci q hq => ?_, fun k q hq => ?_⟩⟩
  · have hl : ci < 12 := by
      have := (List.getElem?_eq_some_iff.mp hq).1
      unfold am_cl at this
      rw [List.length_map, List.length_range] at this
      exact this
    rw [am_cl_at hl] at hq
    cases hq
    exact hf ci hl
  · have hl : k < 9 := by
      have := (List.getElem?_eq_some_iff.mp hq).1
      unfold am_tys at this
      rw [List.length_map, List.length_range] at this
      exact this
    rw [am_tys_at (by omega)] at hq
    cases hq
    exact hg k (by omega)
def am_wx (h : am_H) (X : Nat × (Nat → Int32)) : am_H := (h.1, h.2.1, h.2.2.1, h.2.2.2.1, X)
theorem am_entry {p : Program} {s : State} {m : MethodId} {meth : Method} {c : Code} {b L : Nat} {xs : Nat → Int32} (C0 : lw_At p s m meth c b L xs) : ∃ w : am_Wd, w.2.2.1 = s.heap.size ∧ am_a w am_CB = b ∧ am_Fx w (L + 1, xs) am_lawM p s m #[Value.ref b] meth c := by
  obtain ⟨hx, hb, hr, hml, hown, hts, hX, hbl, hlocks, hgv⟩ := C0
  obtain ⟨D, dA, hK⟩ := am_K_at hts
  obtain ⟨ad, vF, hab, hC⟩ := am_consts hts hgv hX hbl D dA
  exact ⟨(D, dA, s.heap.size, ad, vF), rfl, hab, hx, hb, hr, hml, hown, fun t ht => hts t (List.mem_filter.mp ht).1, hlocks, fun q => absurd q (by decide +kernel), hK _ _ _, hC, Nat.le_refl _⟩
