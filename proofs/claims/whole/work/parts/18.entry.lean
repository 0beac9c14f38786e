-- ===== end of PART A; then your names; then what follows =====
/-! THE CLAIM OUT OF ONE WALK OF THE LAW'S BODY. Your part is whole_start (and what it stands on); all else here is the same for every law, but numbers. -/
def R_law : String := "DogNotaryLaw"
def lw_P (b : Addr) (xs : List Int32) (args : Array Value) (s : State) : Prop := args = #[.ref b] ∧ s.IntsAt b xs ∧ xs.length ≤ 3072 ∧ (Jvm.Cond.and given_1 narrow_1).before args s = true
def lw_Q (_ : Array Value) (s : State) (o : Outcome) (t : State) : Prop := o = .returned (some (.int 1)) ∧ Framed s o t [] 600000 7302250
def lw_Z (below : List Frame) (a : Array Value) (s : State) : State → Prop := fun t => ∃ o, t.status = .running ∧ Ended t below o ∧ lw_Q a s o t
/-- the law's own end, with 1 on the stack, nothing written that was there before, its room as the claim has it -/
theorem lw_ret {p : Program} {l : Launch} {e : Env} {s : State} {m : MethodId} {below : List Frame} {meth : Method} {c : Code} {b : Nat} (hx : p.tables.exec = Jvm.exec) (hb : c.code = code) (hr : meth.sig.returnType = ret) (hlocks : meth.locks = false) {pc : Nat} {H : Heap} {ls : Array Slot} (hdg : decode code pc = .ok (.ireturn, 1)) : W p l e room_1 s m #[Value.ref b] below meth c H [] 600000 7302250 (lw_Z below #[Value.ref b] s) (F0 m pc ls [.int 1]) := by
  intro T hT X
  obtain ⟨fs, hret, hrun, hended, hW, hframe⟩ := X.leave (v := some (.int 1)) (hlocks := hlocks) (fun h => by rw [hr] at h; cases h)
  have hmeth' : T.vm.method? m = some meth := X.method'
  refine ⟨T.setFrames fs, ?_, .returned (some (.int 1)), hrun, hended, rfl, ⟨_, rfl⟩, hW, hframe⟩
  jvm_step X.here [X.here.top, hx, hb, hdg, hmeth', hr, ret, narrow_b1]
  (try refine ⟨rfl, ?_⟩); (try refine ⟨rfl, ?_⟩)
  first | (intro acts; rw [hret _ acts rfl rfl rfl]) | rw [hret _ _ rfl rfl rfl]
  exact Steps.refl _
/-- what holds at the law's entry: the machine, the code, the tables' words (any of lw_tbl by 'hts w (by decide +kernel)'), the script of L ints xs at the cell b, what the Statement gives of the start (any of its parts by flat_of_before) -/
def lw_At (p : Program) (s : State) (m : MethodId) (meth : Method) (c : Code) (b L : Nat) (xs : Nat → Int32) : Prop :=
  p.tables.exec = Jvm.exec ∧ c.code = code ∧ meth.sig.returnType = ret ∧ c.maxLocals = 4 ∧ s.vm.findClass R_law = some m.cls ∧ (∀ w ∈ lw_tbl, w.before #[Value.ref b] s = true) ∧ va_X b L xs s s.heap ∧ b < s.heap.size ∧ meth.locks = false ∧ (Jvm.Cond.and given_1 narrow_1).before #[Value.ref b] s = true
/-! part 18: from the law's entry to its loop -/
def am_inw : List Nat := [1115, 2095, 1098, 1046, 2040, 1155, 2124, 1219, 1033, 2081, 1025, 5127]
theorem am_in_all : (List.range 12).all (fun ci => am_isW (am_inw.getD ci 0) (.instantiable (am_cn ci) (am_nf ci))) = true := by decide +kernel
def am_lawM : am_M := (x, code, maxLocals, ret, 12, 1, 14, 546)
set_option maxRecDepth 20000 in
theorem am_lawM_at : am_ms[298]? = some am_lawM := rfl
theorem am_K_at {args : Array Value} {s : State} (hts : ∀ t ∈ lw_tbl, t.before args s = true) : ∃ (D : va_G) (dA : Nat → ClassId), ∀ (z : Nat) (ad : Nat → Nat) (vF : Option Nat), va_K D am_cl (am_tys (D, dA, z, ad, vF)) s := by
  have htb : ∀ t ∈ am_tb, t.before args s = true := fun t ht => hts t (List.mem_filter.mp ht).1
  have h1 : ∀ ci : Nat, ∃ q : ClassId × (Nat → Nat), ci < 12 → u_Kn s (am_cn ci) (am_T ci) (am_nf ci) q.1 q.2 := by
    intro ci
    by_cases hc : ci < 12
    · obtain ⟨cC, iS, hq⟩ := u_known (n := am_nf ci) htb (am_lay_ok hc) (htb _ (am_isW_in (List.all_eq_true.mp am_in_all ci (List.mem_range.mpr hc))))
      exact ⟨(cC, iS), fun _ => hq⟩
    · exact ⟨(0, fun _ => 0), fun h => absurd h hc⟩
  obtain ⟨f, hf⟩ := Classical.axiomOfChoice h1
  have prim : ∀ ty : FieldType, Cond.arrayClass ty ∈ am_tb → (∀ C, ty ≠ .object C) → ∃ cA : ClassId, ArrOfT s cA ty ∧ va_RA s cA ty := by
    intro ty hm hn
    obtain ⟨c0, k0, comp, q1, q2, q3⟩ := Cond.arrayClass_spec (args := args) (first := s) (o := none) (s := s) (idx := []) (type := ty) (htb _ hm)
    refine ⟨c0, fun n z => ⟨fun k h => (by cases h), k0, q2, comp, q3⟩, ?_⟩
    cases ty with
    | object C => exact absurd rfl (hn C)
    | _ => exact q1
  have obj : ∀ C : String, Cond.arrayOver (.object C) ∈ lw_tbl → ∃ cA : ClassId, ArrOfT s cA (.object C) ∧ va_RA s cA (.object C) := by
    intro C hm
    obtain ⟨comp, c0, k0, q1, q2, q3, q4, q5⟩ := Cond.arrayOver_spec (args := args) (first := s) (o := none) (s := s) (idx := []) (n := C) (hts _ hm)
    exact ⟨c0, fun n z => ⟨fun k h => (by cases h), k0, q3, comp, q4⟩, k0, comp, q3, q4, q1, q5⟩
  obtain ⟨p1, p2, p3, p4⟩ := am_arr_all
  have h2 : ∀ tc : Nat, ∃ cA : ClassId, tc ≤ 8 → ArrOfT s cA (am_at tc) ∧ va_RA s cA (am_at tc) := by
    intro tc
    match tc with
    | 0 => obtain ⟨cA, q⟩ := prim _ (am_isW_in p1) (fun _ h => by cases h); exact ⟨cA, fun _ => q⟩
    | 1 => obtain ⟨cA, q⟩ := prim _ (am_isW_in p2) (fun _ h => by cases h); exact ⟨cA, fun _ => q⟩
    | 2 => obtain ⟨cA, q⟩ := prim _ (am_isW_in p3) (fun _ h => by cases h); exact ⟨cA, fun _ => q⟩
    | 3 => obtain ⟨cA, q⟩ := prim _ (am_isW_in p4) (fun _ h => by cases h); exact ⟨cA, fun _ => q⟩
    | 4 => obtain ⟨cA, q⟩ := obj "DogNotary$Fell" (am_tbc_in (n := 1) (List.mem_of_getElem? (i := 39) (by decide +kernel))); exact ⟨cA, fun _ => q⟩
    | 5 => obtain ⟨cA, q⟩ := obj "DogNotary$Drive" (am_tbc_in (n := 1) (List.mem_of_getElem? (i := 41) (by decide +kernel))); exact ⟨cA, fun _ => q⟩
    | 6 => obtain ⟨cA, q⟩ := obj "DogNotary$Book" (am_tbc_in (n := 1) (List.mem_of_getElem? (i := 43) (by decide +kernel))); exact ⟨cA, fun _ => q⟩
    | 7 => obtain ⟨cA, q⟩ := obj "DogNotary$Log" (am_tbc_in (n := 1) (List.mem_of_getElem? (i := 45) (by decide +kernel))); exact ⟨cA, fun _ => q⟩
    | 8 => obtain ⟨cA, q⟩ := obj "DogNotary$Told" (am_tbc_in (n := 1) (List.mem_of_getElem? (i := 217) (by decide +kernel))); exact ⟨cA, fun _ => q⟩
    | n + 9 => exact ⟨0, fun h => absurd h (by omega)⟩
  obtain ⟨g, hg⟩ := Classical.axiomOfChoice h2
  refine ⟨(fun ci => (f ci).1, fun ci => (f ci).2), g, fun z ad vF => ⟨fun ci q hq => ?_, fun k q hq => ?_⟩⟩
  · have hl : ci < 12 := by
      have := (List.getElem?_eq_some_iff.mp hq).1
      unfold am_cl at this
      rw [List.length_map, List.length_range] at this
      exact this
    rw [am_cl_at hl] at hq
    cases hq
    exact hf ci hl
  · have hl : k < 9 := by
      have := (List.getElem?_eq_some_iff.mp hq).1
      unfold am_tys at this
      rw [List.length_map, List.length_range] at this
      exact this
    rw [am_tys_at (by omega)] at hq
    cases hq
    exact hg k (by omega)
def am_wx (h : am_H) (X : Nat × (Nat → Int32)) : am_H := (h.1, h.2.1, h.2.2.1, h.2.2.2.1, X)
theorem am_entry {p : Program} {s : State} {m : MethodId} {meth : Method} {c : Code} {b L : Nat} {xs : Nat → Int32} (C0 : lw_At p s m meth c b L xs) : ∃ w : am_Wd, w.2.2.1 = s.heap.size ∧ am_a w am_CB = b ∧ am_Fx w (L + 1, xs) am_lawM p s m #[Value.ref b] meth c := by
  obtain ⟨hx, hb, hr, hml, hown, hts, hX, hbl, hlocks, hgv⟩ := C0
  obtain ⟨D, dA, hK⟩ := am_K_at hts
  obtain ⟨ad, vF, hab, hC⟩ := am_consts hts hgv hX hbl D dA
  exact ⟨(D, dA, s.heap.size, ad, vF), rfl, hab, hx, hb, hr, hml, hown, fun t ht => hts t (List.mem_filter.mp ht).1, hlocks, fun q => absurd q (by decide +kernel), hK _ _ _, hC, Nat.le_refl _⟩
/-! the law's first steps: both objects are made -/
theorem am_new_act {y : am_M} {idx pc ci : Nat} {ls : List (Option Value)} {st : List Value} {h : am_H} (hl : (am_lk am_clt (am_own y) idx).map (fun q => q.1) = some ci) (hn : am_n h + 1 < am_CB) : am_act y (.new idx) 3 pc ls st h = some (.inl (pc + 3, ls, .ref (am_n h) :: st, am_nw h (.inl ci))) := by
  show am_new y idx pc ls st h = _
  unfold am_new
  cases hq : am_lk am_clt (am_own y) idx with
  | none => rw [hq] at hl; cases hl
  | some q =>
    obtain ⟨c1, c2⟩ := q
    rw [hq] at hl
    obtain rfl : c1 = ci := Option.some.inj hl
    show (if am_n h + 1 < am_CB then _ else none) = _
    rw [if_pos hn]
    rfl
theorem am_mk_act {y y1 : am_M} {idx pc n wn o : Nat} {ls : List (Option Value)} {st : List Value} {h : am_H} (hl : am_lk am_mlt (am_own y) idx = some (2, n, wn)) (hy1 : am_ms[n]? = some y1) (hr : am_rf y1 + 1 ≤ am_rf y ∧ 8 + (y1.2.2.1 + 11) + am_rl y1 ≤ am_rl y) (hn : 1 = am_np y1) (ha : 1 ≤ y1.2.2.1) (hw : am_w8 st ≤ 8) : am_act y (.invokespecial idx) 3 pc ls (.ref o :: st) h = some (.inr (.inl (n, [.ref o], pc + 3, st))) := by
  show am_inv y (fun k => k == 2 || k == 3) idx pc ls (.ref o :: st) h = _
  unfold am_inv
  simp only [hl]
  show am_call y 2 n pc (.ref o :: st) h = _
  unfold am_call
  have e1 : (Value.ref o :: st).take (am_np y1) = [.ref o] := by rw [← hn]; rfl
  have e2 : (Value.ref o :: st).drop (am_np y1) = st := by rw [← hn]; rfl
  simp only [hy1, e1, e2]
  rw [if_pos ⟨hr.1, hr.2, by rw [← hn]; simp, hw, ha, rfl⟩]
  rfl
def am_X0 : Nat × (Nat → Int32) := (0, fun _ => 0)
theorem am_KA_nz {h : am_H} (hk : h.2.2.2.1 = am_KA) : am_n h = 237 ∧ am_z h ≤ 100000 := by
  unfold am_n am_z
  rw [hk]
  decide +kernel
theorem am_chk_spec {h : am_H} (hc : am_chk h = true) : h.2.2.2.1 = am_KA ∧ (∀ q ∈ am_RL, h.2.2.1 q.1 q.2.1 = some q.2.2) ∧ (∀ q ∈ am_IL, h.1 q.1 q.2.1 = q.2.2) := by
  unfold am_chk at hc
  rw [Bool.and_eq_true, Bool.and_eq_true] at hc
  exact ⟨of_decide_eq_true hc.1.1, fun q hq => of_decide_eq_true (List.all_eq_true.mp hc.1.2 q hq), fun q hq => of_decide_eq_true (List.all_eq_true.mp hc.2 q hq)⟩
theorem am_boots : ∃ h1 h2 : am_H, am_b1 = some (none, h1) ∧ am_run 2000 164 0 (am_ent 1 [.ref 211]) [] (am_nw h1 (.inl 11)) = some (none, h2) ∧ am_n h1 = 211 ∧ am_chk h2 = true := by
  have b1 := am_boot1
  have b2 := am_boot2
  unfold am_b2 at b2
  cases q1 : am_b1 with
  | none => rw [q1] at b1; cases b1
  | some r =>
    obtain ⟨v, h1⟩ := r
    cases v with
    | some v => rw [q1] at b1; cases b1
    | none =>
      rw [q1] at b1 b2
      dsimp only at b1 b2
      cases q2 : am_run 2000 164 0 (am_ent 1 [.ref 211]) [] (am_nw h1 (.inl 11)) with
      | none => rw [q2] at b2; cases b2
      | some r2 =>
        obtain ⟨v2, h2⟩ := r2
        cases v2 with
        | some v => rw [q2] at b2; cases b2
        | none =>
          rw [q2] at b2
          exact ⟨h1, h2, rfl, q2, of_decide_eq_true b1, b2⟩
section AME
variable {p : Program} {l : Launch} {e : Env} {s : State} {m : MethodId} {args : Array Value} {below : List Frame} {meth : Method} {c : Code} {Q : State → Prop} {w : am_Wd}
set_option maxHeartbeats 2000000 in
theorem am_to18 (F : am_Fx w am_X0 am_lawM p s m args meth c) : ∃ h2 : am_H, am_chk h2 = true ∧ h2.2.2.2.2 = am_X0 ∧ (am_G p l e room_1 s m args below meth c Q w am_X0 am_lawM 0 0 (18, [some (.ref am_CB), some (.ref 0), some (.ref 211), some (.int 0)], [], h2) → am_G p l e room_1 s m args below meth c Q w am_X0 am_lawM 0 0 (0, [some (.ref am_CB), none, none, none], [], am_h0)) := by
  obtain ⟨h1, h2, q1, q2, n1, hc⟩ := am_boots
  obtain ⟨k2, -, -⟩ := am_chk_spec hc
  obtain ⟨nz1, nz2⟩ := am_KA_nz k2
  have hRf : am_rf am_lawM ≤ room_1.frames := by decide +kernel
  have hRl : am_rl am_lawM ≤ room_1.locals := by decide +kernel
  have hRc : 600000 ≤ room_1.cells := by decide +kernel
  have hRs : 7302250 ≤ room_1.slots := by decide +kernel
  have hCB : am_CB = 1048576 := rfl
  have l1 := am_run_le _ _ _ _ _ _ _ q1
  have l2 := am_run_le _ _ _ _ _ _ _ q2
  have a1 : am_n (am_nw am_h0 (.inl 10)) ≤ am_n h1 := l1.1
  have a2 : am_z (am_nw am_h0 (.inl 10)) ≤ am_z h1 := l1.2.1
  have a3 : am_n (am_nw h1 (.inl 11)) ≤ am_n h2 := l2.1
  have a4 : am_z (am_nw h1 (.inl 11)) ≤ am_z h2 := l2.2.1
  have a5 : am_z h1 ≤ am_z (am_nw h1 (.inl 11)) := by
    show (h1.2.2.2.1.map am_sz).sum ≤ ((h1.2.2.2.1 ++ [_]).map am_sz).sum
    rw [List.map_append, List.sum_append]
    exact Nat.le_add_right _ _
  have a6 : am_n (am_nw h1 (.inl 11)) = 212 := by
    show (h1.2.2.2.1 ++ [_]).length = 212
    rw [List.length_append, show h1.2.2.2.1.length = 211 from n1]
    rfl
  refine ⟨h2, hc, l2.2.2.trans l1.2.2, fun G => ?_⟩
  have m1 : am_Met l w (am_ms.getD 0 am_lawM) [.ref 0] (am_nw am_h0 (.inl 10)) none h1 := am_met (k := 0) (n := 2000) rfl (by decide) rfl (by decide +kernel) q1
  have m2 : am_Met l w (am_ms.getD 164 am_lawM) [.ref 211] (am_nw h1 (.inl 11)) none h2 := am_met (k := 164) (n := 2000) rfl (by decide) rfl (by decide +kernel) q2
  refine am_x_step (i := .new 7) (len := 3) (k := (3, [some (.ref am_CB), none, none, none], [.ref 0], am_nw am_h0 (.inl 10))) F hRf hRl (by decide +kernel) (am_new_act (by decide +kernel) (by decide)) (Nat.zero_le _) (Nat.zero_le _) (by show am_n (am_nw am_h0 (.inl 10)) - 0 ≤ _; omega) (by show am_z (am_nw am_h0 (.inl 10)) - 0 ≤ _; omega) ?_
  refine am_x_step (i := .dup) (len := 1) (k := (4, [some (.ref am_CB), none, none, none], [.ref 0, .ref 0], am_nw am_h0 (.inl 10))) F hRf hRl (by decide +kernel) rfl (Nat.zero_le _) (Nat.zero_le _) (by show am_n (am_nw am_h0 (.inl 10)) - 0 ≤ _; omega) (by show am_z (am_nw am_h0 (.inl 10)) - 0 ≤ _; omega) ?_
  refine am_x_call (i := .invokespecial 9) (len := 3) (q := (0, [.ref 0], 7, [.ref 0])) (y1 := am_ms.getD 0 am_lawM) (v := none) (h' := h1) F hRf hRl (by decide +kernel) (am_mk_act (wn := 1026) (y1 := am_ms.getD 0 am_lawM) (by decide +kernel) rfl (by decide +kernel) (by decide +kernel) (by decide +kernel) (by decide +kernel)) rfl (by decide) (Nat.zero_le _) (Nat.zero_le _) l1 (by omega) (by omega) m1 ?_
  refine am_x_step (i := .astore_n 1) (len := 1) (k := (8, [some (.ref am_CB), some (.ref 0), none, none], [], h1)) F hRf hRl (by decide +kernel) rfl (Nat.zero_le _) (Nat.zero_le _) (by show am_n h1 - 0 ≤ _; omega) (by show am_z h1 - 0 ≤ _; omega) ?_
  refine am_x_step (i := .new 10) (len := 3) (k := (11, [some (.ref am_CB), some (.ref 0), none, none], [.ref (am_n h1)], am_nw h1 (.inl 11))) F hRf hRl (by decide +kernel) (am_new_act (by decide +kernel) (by omega)) (Nat.zero_le _) (Nat.zero_le _) (by show am_n (am_nw h1 (.inl 11)) - 0 ≤ _; omega) (by show am_z (am_nw h1 (.inl 11)) - 0 ≤ _; omega) ?_
  rw [n1]
  refine am_x_step (i := .dup) (len := 1) (k := (12, [some (.ref am_CB), some (.ref 0), none, none], [.ref 211, .ref 211], am_nw h1 (.inl 11))) F hRf hRl (by decide +kernel) rfl (Nat.zero_le _) (Nat.zero_le _) (by show am_n (am_nw h1 (.inl 11)) - 0 ≤ _; omega) (by show am_z (am_nw h1 (.inl 11)) - 0 ≤ _; omega) ?_
  refine am_x_call (i := .invokespecial 12) (len := 3) (q := (164, [.ref 211], 15, [.ref 211])) (y1 := am_ms.getD 164 am_lawM) (v := none) (h' := h2) F hRf hRl (by decide +kernel) (am_mk_act (wn := 5128) (y1 := am_ms.getD 164 am_lawM) (by decide +kernel) rfl (by decide +kernel) (by decide +kernel) (by decide +kernel) (by decide +kernel)) rfl (by decide) (Nat.zero_le _) (Nat.zero_le _) l2 (by omega) (by omega) m2 ?_
  refine am_x_step (i := .astore_n 2) (len := 1) (k := (16, [some (.ref am_CB), some (.ref 0), some (.ref 211), none], [], h2)) F hRf hRl (by decide +kernel) rfl (Nat.zero_le _) (Nat.zero_le _) (by show am_n h2 - 0 ≤ _; omega) (by show am_z h2 - 0 ≤ _; omega) ?_
  refine am_x_step (i := .iconst 0) (len := 1) (k := (17, [some (.ref am_CB), some (.ref 0), some (.ref 211), none], [.int 0], h2)) F hRf hRl (by decide +kernel) rfl (Nat.zero_le _) (Nat.zero_le _) (by show am_n h2 - 0 ≤ _; omega) (by show am_z h2 - 0 ≤ _; omega) ?_
  exact am_x_step (i := .istore_n 3) (len := 1) (k := (18, [some (.ref am_CB), some (.ref 0), some (.ref 211), some (.int 0)], [], h2)) F hRf hRl (by decide +kernel) rfl (Nat.zero_le _) (Nat.zero_le _) (by show am_n h2 - 0 ≤ _; omega) (by show am_z h2 - 0 ≤ _; omega) G
end AME
/-- what is left: the run of the law's loop -/
def am_goal (L : Nat) (xs : Nat → Int32) : Prop := ∀ h : am_H, am_chk h = true → h.2.2.2.2 = (L + 1, xs) → ∃ (n : Nat) (h' : am_H), am_run n 298 18 [some (.ref am_CB), some (.ref 0), some (.ref 211), some (.int 0)] [] h = some (some (.int 1), h') ∧ am_n h' ≤ 600000 ∧ am_z h' ≤ 7302250
theorem am_start {p : Program} {e : Env} {s : State} {m : MethodId} {below : List Frame} {meth : Method} {c : Code} (l : Launch) {b L : Nat} {xs : Nat → Int32} (hg : am_goal L xs) (C0 : lw_At p s m meth c b L xs) : W p l e room_1 s m #[Value.ref b] below meth c s.heap [] 0 0 (lw_Z below #[Value.ref b] s) (entryFrame m ([Value.ref b] : List Value).toArray 4) := by
  obtain ⟨w, hwz, hwb, F⟩ := am_entry C0
  have F0' : am_Fx w am_X0 am_lawM p s m #[Value.ref b] meth c := by
    obtain ⟨f1, f2, f3, f4, f5, f6, f7, f8, f9, ⟨g1, g2, g3, g4, g5, g6⟩, f11⟩ := F
    exact ⟨f1, f2, f3, f4, f5, f6, f7, f8, f9, ⟨g1, g2, g3, g4, Or.inl rfl, g6⟩, f11⟩
  obtain ⟨h2, hc, hx2, hgo⟩ := am_to18 (l := l) (e := e) (below := below) (Q := lw_Z below #[Value.ref b] s) F0'
  obtain ⟨n, h', hrun, hn', hz'⟩ := hg (am_wx h2 (L + 1, xs)) hc rfl
  have hRf : am_rf am_lawM ≤ room_1.frames := by decide +kernel
  have hRl : am_rl am_lawM ≤ room_1.locals := by decide +kernel
  have hRc : 600000 ≤ room_1.cells := by decide +kernel
  have hRs : 7302250 ≤ room_1.slots := by decide +kernel
  have G1 : am_G p l e room_1 s m #[Value.ref b] below meth c (lw_Z below #[Value.ref b] s) w (L + 1, xs) am_lawM 0 0 (18, [some (.ref am_CB), some (.ref 0), some (.ref 211), some (.int 0)], [], am_wx h2 (L + 1, xs)) := by
    refine am_sound l w n 298 am_lawM 18 _ [] _ _ h' am_lawM_at hrun p e room_1 s m _ below meth c _ _ 0 0 F hRf hRl (Nat.zero_le _) (Nat.zero_le _) (by omega) (by omega) ?_
    intro i len pc' ls' st' hd ha
    rcases am_act_ret ha with ⟨rfl, rfl, h1⟩ | ⟨rfl, rfl, h1⟩ | ⟨rfl, rfl, h1⟩ | ⟨rfl, rfl, h1⟩
    · unfold am_rt at h1
      split at h1
      · split at h1
        · split at h1
          · have e1 := Sum.inr.inj (Sum.inr.inj (Option.some.inj h1))
            obtain rfl : _ = (1 : Int32) := Value.int.inj (Option.some.inj e1)
            intro H locs lsC hR hS hL hX
            refine va_forget (fun q hq => hwz ▸ hS.2.2 q hq) (W.widen (k := 600000) (n := 7302250) (by show am_n h' - 0 ≤ 600000; omega) (by show am_z h' - 0 ≤ 7302250; omega) ?_)
            exact lw_ret F.1 F.2.1 F.2.2.1 F.2.2.2.2.2.2.1 hd
          · cases h1
        · cases h1
      · cases h1
    · unfold am_rtL at h1
      split at h1
      · split at h1
        · have e1 := Sum.inr.inj (Sum.inr.inj (Option.some.inj h1))
          cases e1
        · cases h1
      · cases h1
    · unfold am_rtA at h1
      split at h1
      · split at h1
        · have e1 := Sum.inr.inj (Sum.inr.inj (Option.some.inj h1))
          cases e1
        · have e1 := Sum.inr.inj (Sum.inr.inj (Option.some.inj h1))
          cases e1
        · cases h1
      · cases h1
    · unfold am_rtV at h1
      split at h1
      · split at h1
        · have e1 := Sum.inr.inj (Sum.inr.inj (Option.some.inj h1))
          cases e1
        · cases h1
      · cases h1
  have G2 : am_G p l e room_1 s m #[Value.ref b] below meth c (lw_Z below #[Value.ref b] s) w am_X0 am_lawM 0 0 (18, [some (.ref am_CB), some (.ref 0), some (.ref 211), some (.int 0)], [], h2) := fun H locs lsC hR hS hL _ => G1 H locs lsC hR hS hL rfl
  have G3 := hgo G2
  rw [lg_entry_eq]
  have hlr := am_LR.entry (w := w) (as := [.ref am_CB]) (n := 4) rfl (by decide)
  rw [show ([Value.ref am_CB].map (am_v w)) = [Value.ref b] by show [Value.ref (am_a w am_CB)] = _; rw [hwb]] at hlr
  exact G3 s.heap [] _ ⟨by rw [hwz]; rfl, by decide, fun i kd hk => by cases hk⟩ va_S.rf hlr rfl
