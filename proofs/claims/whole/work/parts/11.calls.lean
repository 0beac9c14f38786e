/-! part 11: calls, and the whole: a run of the small machine is a contract of the machine's -/
theorem am_callW {p : Program} {l : Launch} {e : Env} {R : Room} {s : State} {m : MethodId} {args : Array Value} {below : List Frame} {meth : Method} {c : Code} {H : Heap} {locs : List Loc} {cells slots mc ms : Nat} {Q : State → Prop} {pc : Nat} {ls : Array Slot} {rest st0 : List Value} {Qa : State → Outcome → State → Prop} {free : Addr → Prop}
    (hr : va_Run p l e R s m args below meth c H locs cells slots mc ms (F0 m pc ls st0) rest Qa free)
    (kk : ∀ (v : Option Value) (st₀ t : State) (L : List Loc), st₀.heap = H → Qa st₀ (.returned v) t → (∀ q ∈ L, free q.base) → W p l e R s m args below meth c t.heap (locs ++ L) (cells + mc) (slots + ms) Q (F0 m (pc + 3) ls (v.toList ++ rest))) : W p l e R s m args below meth c H locs cells slots Q (F0 m pc ls st0) := by
  intro T hT X
  obtain ⟨v, st₀, t, T', L, h0, X', hL, e1, e2, hq, st⟩ := hr T hT X
  obtain ⟨t2, a1, b1⟩ := kk v st₀ t L h0 hq hL T' e1 X'
  exact ⟨t2, st t2 a1, b1⟩
def am_Pc (w : am_Wd) (h : am_H) (as : List Value) : Array Value → State → Prop := fun a U => a = (as.map (am_v w)).toArray ∧ am_Rep w h U.heap ∧ va_K w.1 am_cl (am_tys w) U ∧ am_Cf w h.2.2.2.2 U U.heap
def am_Qc (w : am_Wd) (v : Option Value) (h' : am_H) : Array Value → State → Outcome → State → Prop := fun _ st oc t => oc = .returned (v.map (am_v w)) ∧ am_Rep w h' t.heap ∧ va_F (am_A0 w) st t
theorem am_blind {w : am_Wd} {h : am_H} {as : List Value} : FrameBlind (am_Pc w h as) := by
  intro a U g mk q
  obtain ⟨q1, q2, q3, q4⟩ := q
  exact ⟨q1, q2, va_K.moved (u := U) (U := U.calling g mk a) (Vm.Alike.refl U.vm) q3, am_Cf.same (u := U) (U := U.calling g mk a) rfl q4⟩
def am_ws (y : am_M) : List Cond := Cond.code y.1 y.2.1 y.2.2.1 y.2.2.2.1 :: am_tb
def am_rm (y : am_M) (h h' : am_H) : Room := { frames := am_rf y, cells := am_n h' - am_n h, slots := am_z h' - am_z h, locals := am_rl y }
/-- a method's contract -/
def am_Met (l : Launch) (w : am_Wd) (y : am_M) (as : List Value) (h : am_H) (v : Option Value) (h' : am_H) : Prop :=
  Met l y.1 (am_ws y) (am_rm y h h') (am_Pc w h as) (am_Qc w v h') (am_n h' - am_n h) (am_z h' - am_z h) (am_A0 w)
theorem am_meth_ok {k : Nat} {y : am_M} (h : am_ms[k]? = some y) (hk : k < 298) : Cond.initialized y.1.cls ∈ am_tb ∧ am_on.getD (am_own y) "" = y.1.cls ∧ plainName y.1.cls = true ∧ (y.1.cls ≠ "java/lang/invoke/MethodHandle" ∧ y.1.cls ≠ "java/lang/invoke/VarHandle") ∧
    (am_mk0[k]? = some 0 → Cond.instanceMethod y.1 ∈ am_tb ∧ Cond.selects y.1.cls y.1 y.1 ∈ am_tb ∧ am_pn y = some (am_np y - 1) ∧ 1 ≤ am_np y) ∧
    (am_mk0[k]? = some 1 → Cond.static y.1 ∈ am_tb ∧ am_pn y = some (am_np y)) ∧
    (am_mk0[k]? = some 2 → Cond.instanceMethod y.1 ∈ am_tb ∧ y.1.name = "<init>" ∧ am_pn y = some (am_np y - 1) ∧ 1 ≤ am_np y ∧ y.2.2.2.1 = none) := by
  have h1 := List.all_eq_true.mp am_meth_all k (List.mem_range.mpr hk)
  unfold am_meth at h1
  rw [h] at h1
  dsimp only at h1
  split at h1
  · rename_i u hu
    simp only [Bool.and_eq_true] at h1
    obtain ⟨⟨⟨⟨a1, a2⟩, a3⟩, a4⟩, a5⟩ := h1
    refine ⟨am_isW_in a1, of_decide_eq_true a2, a3, of_decide_eq_true a4, fun q => ?_, fun q => ?_, fun q => ?_⟩
    · rw [q] at a5
      simp only [Bool.and_eq_true] at a5
      obtain ⟨⟨⟨b1, b2⟩, b3⟩, b4⟩ := a5
      exact ⟨am_isW_in b1, am_isW_in b2, of_decide_eq_true b3, of_decide_eq_true b4⟩
    · rw [q] at a5
      simp only [Bool.and_eq_true] at a5
      exact ⟨am_isW_in a5.1, of_decide_eq_true a5.2⟩
    · rw [q] at a5
      simp only [Bool.and_eq_true] at a5
      obtain ⟨⟨⟨⟨b1, b2⟩, b3⟩, b4⟩, b5⟩ := a5
      exact ⟨am_isW_in b1, of_decide_eq_true b2, of_decide_eq_true b3, of_decide_eq_true b4, of_decide_eq_true b5⟩
  · cases h1
theorem am_ws_good {y : am_M} (h : Cond.code y.1 y.2.1 y.2.2.1 y.2.2.2.1 ∈ am_tb) : GoodIn am_tb (am_ws y) := fun t ht => by
  rcases List.mem_cons.mp ht with rfl | ht
  · exact am_tb_good _ h
  · exact am_tb_good _ ht
theorem am_mlw_k {o idx kind n wn : Nat} {y1 : am_M} (h : am_mlw o (idx, kind, n, wn) = true) (hk : kind = 0 ∨ kind = 1 ∨ kind = 2) (hy : am_ms[n]? = some y1) : am_isW wn (.methodLink (am_on.getD o "") idx y1.1) = true ∧ am_mk0[n]? = some kind := by
  rcases hk with rfl | rfl | rfl <;> (unfold am_mlw at h; simp only [hy, Bool.and_eq_true] at h; exact ⟨h.1, of_decide_eq_true h.2⟩)
theorem am_mlw_5 {o idx n wn : Nat} {y1 : am_M} (h : am_mlw o (idx, 5, n, wn) = true) (hy : am_ms[n]? = some y1) : o = 7 ∧ idx = 87 ∧ y1.1 = ⟨"DogNotary$Fell", "clear", "()V"⟩ ∧ am_mk0[n]? = some 0 := by
  unfold am_mlw at h
  simp only [hy, Bool.and_eq_true, decide_eq_true_eq] at h
  obtain ⟨⟨⟨a1, a2⟩, a3⟩, a4⟩ := h
  exact ⟨a1, a2, Option.some.inj a3, a4⟩
section AMNC
variable {pc : Nat} {ls : List (Option Value)} {st : List Value} {h : am_H} {y : am_M} {r : (Nat × List Value × Nat × List Value) ⊕ Option Value}
theorem am_go_nc (ha : am_go pc ls st h = some (.inr r)) : False := by
  have := Option.some.inj ha
  cases this
theorem am_ii_nc {f : Int32 → Int32 → Int32} (ha : am_ii f pc ls st h = some (.inr r)) : False := by
  unfold am_ii at ha
  repeat' split at ha
  all_goals first | exact am_go_nc ha | cases ha
theorem am_iz_nc {f : Int32 → Int32 → Int32} (ha : am_iz f pc ls st h = some (.inr r)) : False := by
  unfold am_iz at ha
  repeat' split at ha
  all_goals first | exact am_go_nc ha | cases ha
theorem am_ll_nc {f : Int64 → Int64 → Int64} (ha : am_ll f pc ls st h = some (.inr r)) : False := by
  unfold am_ll at ha
  repeat' split at ha
  all_goals first | exact am_go_nc ha | cases ha
theorem am_lz_nc {f : Int64 → Int64 → Int64} (ha : am_lz f pc ls st h = some (.inr r)) : False := by
  unfold am_lz at ha
  repeat' split at ha
  all_goals first | exact am_go_nc ha | cases ha
theorem am_li_nc {f : Int64 → Int32 → Int64} (ha : am_li f pc ls st h = some (.inr r)) : False := by
  unfold am_li at ha
  repeat' split at ha
  all_goals first | exact am_go_nc ha | cases ha
theorem am_i1_nc {f : Int32 → Value} (ha : am_i1 f pc ls st h = some (.inr r)) : False := by
  unfold am_i1 at ha
  repeat' split at ha
  all_goals first | exact am_go_nc ha | cases ha
theorem am_l1_nc {f : Int64 → Value} (ha : am_l1 f pc ls st h = some (.inr r)) : False := by
  unfold am_l1 at ha
  repeat' split at ha
  all_goals first | exact am_go_nc ha | cases ha
theorem am_lI_nc {i : Nat} (ha : am_lI i pc ls st h = some (.inr r)) : False := by
  unfold am_lI at ha
  repeat' split at ha
  all_goals first | exact am_go_nc ha | cases ha
theorem am_lL_nc {i : Nat} (ha : am_lL i pc ls st h = some (.inr r)) : False := by
  unfold am_lL at ha
  repeat' split at ha
  all_goals first | exact am_go_nc ha | cases ha
theorem am_lA_nc {i : Nat} (ha : am_lA i pc ls st h = some (.inr r)) : False := by
  unfold am_lA at ha
  repeat' split at ha
  all_goals first | exact am_go_nc ha | cases ha
theorem am_tI_nc {i : Nat} (ha : am_tI i pc ls st h = some (.inr r)) : False := by
  unfold am_tI at ha
  repeat' split at ha
  all_goals first | exact am_go_nc ha | cases ha
theorem am_tL_nc {i : Nat} (ha : am_tL i pc ls st h = some (.inr r)) : False := by
  unfold am_tL at ha
  repeat' split at ha
  all_goals first | exact am_go_nc ha | cases ha
theorem am_tA_nc {i : Nat} (ha : am_tA i pc ls st h = some (.inr r)) : False := by
  unfold am_tA at ha
  repeat' split at ha
  all_goals first | exact am_go_nc ha | cases ha
theorem am_inc_nc {i : Nat} {n : Int} (ha : am_inc i n pc ls st h = some (.inr r)) : False := by
  unfold am_inc at ha
  repeat' split at ha
  all_goals first | exact am_go_nc ha | cases ha
theorem am_if1_nc {c : ClassFile.Cond} {off : Int} (ha : am_if1 c off pc ls st h = some (.inr r)) : False := by
  unfold am_if1 at ha
  repeat' split at ha
  all_goals first | exact am_go_nc ha | cases ha
theorem am_if2_nc {c : ClassFile.Cond} {off : Int} (ha : am_if2 c off pc ls st h = some (.inr r)) : False := by
  unfold am_if2 at ha
  repeat' split at ha
  all_goals first | exact am_go_nc ha | cases ha
theorem am_sw_nc {d lo hi : Int} {offs : Array Int} (ha : am_sw d lo hi offs pc ls st h = some (.inr r)) : False := by
  unfold am_sw at ha
  repeat' split at ha
  all_goals first | exact am_go_nc ha | cases ha
theorem am_nn_nc {off : Int} (ha : am_nn off pc ls st h = some (.inr r)) : False := by
  unfold am_nn at ha
  repeat' split at ha
  all_goals first | exact am_go_nc ha | cases ha
theorem am_gf_nc {idx : Nat} (ha : am_gf y idx pc ls st h = some (.inr r)) : False := by
  unfold am_gf at ha
  repeat' split at ha
  all_goals first | exact am_go_nc ha | cases ha
theorem am_gs_nc {idx : Nat} (ha : am_gs y idx pc ls st h = some (.inr r)) : False := by
  unfold am_gs at ha
  repeat' split at ha
  all_goals first | exact am_go_nc ha | cases ha
theorem am_pf_nc {idx : Nat} (ha : am_pf y idx pc ls st h = some (.inr r)) : False := by
  unfold am_pf at ha
  repeat' split at ha
  all_goals first | exact am_go_nc ha | cases ha
theorem am_rI_nc  (ha : am_rI pc ls st h = some (.inr r)) : False := by
  unfold am_rI at ha
  repeat' split at ha
  all_goals first | exact am_go_nc ha | cases ha
theorem am_rB_nc  (ha : am_rB pc ls st h = some (.inr r)) : False := by
  unfold am_rB at ha
  repeat' split at ha
  all_goals first | exact am_go_nc ha | cases ha
theorem am_rL_nc  (ha : am_rL pc ls st h = some (.inr r)) : False := by
  unfold am_rL at ha
  repeat' split at ha
  all_goals first | exact am_go_nc ha | cases ha
theorem am_rA_nc  (ha : am_rA pc ls st h = some (.inr r)) : False := by
  unfold am_rA at ha
  repeat' split at ha
  all_goals first | exact am_go_nc ha | cases ha
theorem am_wI_nc  (ha : am_wI pc ls st h = some (.inr r)) : False := by
  unfold am_wI at ha
  repeat' split at ha
  all_goals first | exact am_go_nc ha | cases ha
theorem am_wB_nc  (ha : am_wB pc ls st h = some (.inr r)) : False := by
  unfold am_wB at ha
  repeat' split at ha
  all_goals first | exact am_go_nc ha | cases ha
theorem am_wL_nc  (ha : am_wL pc ls st h = some (.inr r)) : False := by
  unfold am_wL at ha
  repeat' split at ha
  all_goals first | exact am_go_nc ha | cases ha
theorem am_wA_nc  (ha : am_wA pc ls st h = some (.inr r)) : False := by
  unfold am_wA at ha
  repeat' split at ha
  all_goals first | exact am_go_nc ha | cases ha
theorem am_al_nc  (ha : am_al pc ls st h = some (.inr r)) : False := by
  unfold am_al at ha
  repeat' split at ha
  all_goals first | exact am_go_nc ha | cases ha
theorem am_new_nc {idx : Nat} (ha : am_new y idx pc ls st h = some (.inr r)) : False := by
  unfold am_new at ha
  repeat' split at ha
  all_goals first | exact am_go_nc ha | cases ha
theorem am_na_nc {a : ArrayType} (ha : am_na a pc ls st h = some (.inr r)) : False := by
  unfold am_na at ha
  repeat' split at ha
  all_goals first | exact am_go_nc ha | cases ha
theorem am_an_nc {idx : Nat} (ha : am_an y idx pc ls st h = some (.inr r)) : False := by
  unfold am_an at ha
  repeat' split at ha
  all_goals first | exact am_go_nc ha | cases ha
theorem am_oi_nc  (ha : am_oi y pc ls st h = some (.inr r)) : False := by
  unfold am_oi at ha
  repeat' split at ha
  all_goals first | exact am_go_nc ha | cases ha
theorem am_ac_nc  (ha : am_ac y pc ls st h = some (.inr r)) : False := by
  unfold am_ac at ha
  repeat' split at ha
  all_goals first | exact am_go_nc ha | cases ha
theorem am_mt_nc {kind : Nat} (ha : am_mt y kind pc ls st h = some (.inr r)) : False := by
  unfold am_mt at ha
  repeat' split at ha
  all_goals first | exact am_go_nc ha | cases ha
theorem am_dup_nc  (ha : am_dup pc ls st h = some (.inr r)) : False := by
  unfold am_dup at ha
  repeat' split at ha
  all_goals first | exact am_go_nc ha | cases ha
theorem am_dup2_nc  (ha : am_dup2 pc ls st h = some (.inr r)) : False := by
  unfold am_dup2 at ha
  repeat' split at ha
  all_goals first | exact am_go_nc ha | cases ha
theorem am_pop_nc  (ha : am_pop pc ls st h = some (.inr r)) : False := by
  unfold am_pop at ha
  repeat' split at ha
  all_goals first | exact am_go_nc ha | cases ha
theorem am_rt_nc {q : Nat × List Value × Nat × List Value} (ha : am_rt y st = some (.inr (.inl q))) : False := by
  unfold am_rt at ha
  repeat' split at ha
  all_goals first | cases ha | (injection ha with ha; injection ha with ha; cases ha)
theorem am_rtL_nc {q : Nat × List Value × Nat × List Value} (ha : am_rtL y st = some (.inr (.inl q))) : False := by
  unfold am_rtL at ha
  repeat' split at ha
  all_goals first | cases ha | (injection ha with ha; injection ha with ha; cases ha)
theorem am_rtA_nc {q : Nat × List Value × Nat × List Value} (ha : am_rtA y st = some (.inr (.inl q))) : False := by
  unfold am_rtA at ha
  repeat' split at ha
  all_goals first | cases ha | (injection ha with ha; injection ha with ha; cases ha)
theorem am_rtV_nc {q : Nat × List Value × Nat × List Value} (ha : am_rtV y st = some (.inr (.inl q))) : False := by
  unfold am_rtV at ha
  repeat' split at ha
  all_goals first | cases ha | (injection ha with ha; injection ha with ha; cases ha)
theorem am_call_nr {kind n : Nat} {v : Option Value} (ha : am_call y kind n pc st h = some (.inr (.inr v))) : False := by
  unfold am_call at ha
  repeat' split at ha
  all_goals first | cases ha | (injection ha with ha; injection ha with ha; cases ha)
end AMNC
set_option maxHeartbeats 4000000 in
theorem am_act_call {y : am_M} {i : Instr} {len pc : Nat} {ls : List (Option Value)} {st : List Value} {h : am_H} {q : Nat × List Value × Nat × List Value} (ha : am_act y i len pc ls st h = some (.inr (.inl q))) : ∃ idx kind n wn, am_lk am_mlt (am_own y) idx = some (kind, n, wn) ∧ am_call y kind n pc st h = some (.inr (.inl q)) ∧ ((kind = 1 ∧ i = .invokestatic idx) ∨ (kind = 2 ∧ i = .invokespecial idx) ∨ ((kind = 0 ∨ kind = 5) ∧ i = .invokevirtual idx)) ∧ len = 3 := by
  cases i with
  | iadd  =>
    replace ha : (if _ then _ else none) = some (Sum.inr (Sum.inl q)) := ha
    split at ha
    · exact (am_ii_nc ha).elim
    · cases ha
  | isub  =>
    replace ha : (if _ then _ else none) = some (Sum.inr (Sum.inl q)) := ha
    split at ha
    · exact (am_ii_nc ha).elim
    · cases ha
  | imul  =>
    replace ha : (if _ then _ else none) = some (Sum.inr (Sum.inl q)) := ha
    split at ha
    · exact (am_ii_nc ha).elim
    · cases ha
  | iand  =>
    replace ha : (if _ then _ else none) = some (Sum.inr (Sum.inl q)) := ha
    split at ha
    · exact (am_ii_nc ha).elim
    · cases ha
  | ior  =>
    replace ha : (if _ then _ else none) = some (Sum.inr (Sum.inl q)) := ha
    split at ha
    · exact (am_ii_nc ha).elim
    · cases ha
  | ixor  =>
    replace ha : (if _ then _ else none) = some (Sum.inr (Sum.inl q)) := ha
    split at ha
    · exact (am_ii_nc ha).elim
    · cases ha
  | ishl  =>
    replace ha : (if _ then _ else none) = some (Sum.inr (Sum.inl q)) := ha
    split at ha
    · exact (am_ii_nc ha).elim
    · cases ha
  | ishr  =>
    replace ha : (if _ then _ else none) = some (Sum.inr (Sum.inl q)) := ha
    split at ha
    · exact (am_ii_nc ha).elim
    · cases ha
  | iushr  =>
    replace ha : (if _ then _ else none) = some (Sum.inr (Sum.inl q)) := ha
    split at ha
    · exact (am_ii_nc ha).elim
    · cases ha
  | idiv  =>
    replace ha : (if _ then _ else none) = some (Sum.inr (Sum.inl q)) := ha
    split at ha
    · exact (am_iz_nc ha).elim
    · cases ha
  | irem  =>
    replace ha : (if _ then _ else none) = some (Sum.inr (Sum.inl q)) := ha
    split at ha
    · exact (am_iz_nc ha).elim
    · cases ha
  | ladd  =>
    replace ha : (if _ then _ else none) = some (Sum.inr (Sum.inl q)) := ha
    split at ha
    · exact (am_ll_nc ha).elim
    · cases ha
  | lsub  =>
    replace ha : (if _ then _ else none) = some (Sum.inr (Sum.inl q)) := ha
    split at ha
    · exact (am_ll_nc ha).elim
    · cases ha
  | lmul  =>
    replace ha : (if _ then _ else none) = some (Sum.inr (Sum.inl q)) := ha
    split at ha
    · exact (am_ll_nc ha).elim
    · cases ha
  | land  =>
    replace ha : (if _ then _ else none) = some (Sum.inr (Sum.inl q)) := ha
    split at ha
    · exact (am_ll_nc ha).elim
    · cases ha
  | lor  =>
    replace ha : (if _ then _ else none) = some (Sum.inr (Sum.inl q)) := ha
    split at ha
    · exact (am_ll_nc ha).elim
    · cases ha
  | ldiv  =>
    replace ha : (if _ then _ else none) = some (Sum.inr (Sum.inl q)) := ha
    split at ha
    · exact (am_lz_nc ha).elim
    · cases ha
  | lrem  =>
    replace ha : (if _ then _ else none) = some (Sum.inr (Sum.inl q)) := ha
    split at ha
    · exact (am_lz_nc ha).elim
    · cases ha
  | lshl  =>
    replace ha : (if _ then _ else none) = some (Sum.inr (Sum.inl q)) := ha
    split at ha
    · exact (am_li_nc ha).elim
    · cases ha
  | lshr  =>
    replace ha : (if _ then _ else none) = some (Sum.inr (Sum.inl q)) := ha
    split at ha
    · exact (am_li_nc ha).elim
    · cases ha
  | lushr  =>
    replace ha : (if _ then _ else none) = some (Sum.inr (Sum.inl q)) := ha
    split at ha
    · exact (am_li_nc ha).elim
    · cases ha
  | ineg  =>
    replace ha : (if _ then _ else none) = some (Sum.inr (Sum.inl q)) := ha
    split at ha
    · exact (am_i1_nc ha).elim
    · cases ha
  | i2b  =>
    replace ha : (if _ then _ else none) = some (Sum.inr (Sum.inl q)) := ha
    split at ha
    · exact (am_i1_nc ha).elim
    · cases ha
  | i2c  =>
    replace ha : (if _ then _ else none) = some (Sum.inr (Sum.inl q)) := ha
    split at ha
    · exact (am_i1_nc ha).elim
    · cases ha
  | i2l  =>
    replace ha : (if _ then _ else none) = some (Sum.inr (Sum.inl q)) := ha
    split at ha
    · exact (am_i1_nc ha).elim
    · cases ha
  | l2i  =>
    replace ha : (if _ then _ else none) = some (Sum.inr (Sum.inl q)) := ha
    split at ha
    · exact (am_l1_nc ha).elim
    · cases ha
  | iload i =>
    replace ha : (if _ then _ else none) = some (Sum.inr (Sum.inl q)) := ha
    split at ha
    · exact (am_lI_nc ha).elim
    · cases ha
  | iload_n i =>
    replace ha : (if _ then _ else none) = some (Sum.inr (Sum.inl q)) := ha
    split at ha
    · exact (am_lI_nc ha).elim
    · cases ha
  | lload i =>
    replace ha : (if _ then _ else none) = some (Sum.inr (Sum.inl q)) := ha
    split at ha
    · exact (am_lL_nc ha).elim
    · cases ha
  | lload_n i =>
    replace ha : (if _ then _ else none) = some (Sum.inr (Sum.inl q)) := ha
    split at ha
    · exact (am_lL_nc ha).elim
    · cases ha
  | aload i =>
    replace ha : (if _ then _ else none) = some (Sum.inr (Sum.inl q)) := ha
    split at ha
    · exact (am_lA_nc ha).elim
    · cases ha
  | aload_n i =>
    replace ha : (if _ then _ else none) = some (Sum.inr (Sum.inl q)) := ha
    split at ha
    · exact (am_lA_nc ha).elim
    · cases ha
  | istore i =>
    replace ha : (if _ then _ else none) = some (Sum.inr (Sum.inl q)) := ha
    split at ha
    · exact (am_tI_nc ha).elim
    · cases ha
  | istore_n i =>
    replace ha : (if _ then _ else none) = some (Sum.inr (Sum.inl q)) := ha
    split at ha
    · exact (am_tI_nc ha).elim
    · cases ha
  | lstore i =>
    replace ha : (if _ then _ else none) = some (Sum.inr (Sum.inl q)) := ha
    split at ha
    · exact (am_tL_nc ha).elim
    · cases ha
  | lstore_n i =>
    replace ha : (if _ then _ else none) = some (Sum.inr (Sum.inl q)) := ha
    split at ha
    · exact (am_tL_nc ha).elim
    · cases ha
  | astore i =>
    replace ha : (if _ then _ else none) = some (Sum.inr (Sum.inl q)) := ha
    split at ha
    · exact (am_tA_nc ha).elim
    · cases ha
  | astore_n i =>
    replace ha : (if _ then _ else none) = some (Sum.inr (Sum.inl q)) := ha
    split at ha
    · exact (am_tA_nc ha).elim
    · cases ha
  | iinc i n =>
    replace ha : (if _ then _ else none) = some (Sum.inr (Sum.inl q)) := ha
    split at ha
    · exact (am_inc_nc ha).elim
    · cases ha
  | dup  =>
    replace ha : (if _ then _ else none) = some (Sum.inr (Sum.inl q)) := ha
    split at ha
    · exact (am_dup_nc ha).elim
    · cases ha
  | dup2  =>
    replace ha : (if _ then _ else none) = some (Sum.inr (Sum.inl q)) := ha
    split at ha
    · exact (am_dup2_nc ha).elim
    · cases ha
  | pop  =>
    replace ha : (if _ then _ else none) = some (Sum.inr (Sum.inl q)) := ha
    split at ha
    · exact (am_pop_nc ha).elim
    · cases ha
  | ifCond c off =>
    replace ha : (if _ then _ else none) = some (Sum.inr (Sum.inl q)) := ha
    split at ha
    · exact (am_if1_nc ha).elim
    · cases ha
  | if_icmp c off =>
    replace ha : (if _ then _ else none) = some (Sum.inr (Sum.inl q)) := ha
    split at ha
    · exact (am_if2_nc ha).elim
    · cases ha
  | ifnonnull off =>
    replace ha : (if _ then _ else none) = some (Sum.inr (Sum.inl q)) := ha
    split at ha
    · exact (am_nn_nc ha).elim
    · cases ha
  | getfield idx =>
    replace ha : (if _ then _ else none) = some (Sum.inr (Sum.inl q)) := ha
    split at ha
    · exact (am_gf_nc ha).elim
    · cases ha
  | putfield idx =>
    replace ha : (if _ then _ else none) = some (Sum.inr (Sum.inl q)) := ha
    split at ha
    · exact (am_pf_nc ha).elim
    · cases ha
  | getstatic idx =>
    replace ha : (if _ then _ else none) = some (Sum.inr (Sum.inl q)) := ha
    split at ha
    · exact (am_gs_nc ha).elim
    · cases ha
  | iaload  =>
    replace ha : (if _ then _ else none) = some (Sum.inr (Sum.inl q)) := ha
    split at ha
    · exact (am_rI_nc ha).elim
    · cases ha
  | baload  =>
    replace ha : (if _ then _ else none) = some (Sum.inr (Sum.inl q)) := ha
    split at ha
    · exact (am_rB_nc ha).elim
    · cases ha
  | laload  =>
    replace ha : (if _ then _ else none) = some (Sum.inr (Sum.inl q)) := ha
    split at ha
    · exact (am_rL_nc ha).elim
    · cases ha
  | aaload  =>
    replace ha : (if _ then _ else none) = some (Sum.inr (Sum.inl q)) := ha
    split at ha
    · exact (am_rA_nc ha).elim
    · cases ha
  | iastore  =>
    replace ha : (if _ then _ else none) = some (Sum.inr (Sum.inl q)) := ha
    split at ha
    · exact (am_wI_nc ha).elim
    · cases ha
  | bastore  =>
    replace ha : (if _ then _ else none) = some (Sum.inr (Sum.inl q)) := ha
    split at ha
    · exact (am_wB_nc ha).elim
    · cases ha
  | lastore  =>
    replace ha : (if _ then _ else none) = some (Sum.inr (Sum.inl q)) := ha
    split at ha
    · exact (am_wL_nc ha).elim
    · cases ha
  | aastore  =>
    replace ha : (if _ then _ else none) = some (Sum.inr (Sum.inl q)) := ha
    split at ha
    · exact (am_wA_nc ha).elim
    · cases ha
  | arraylength  =>
    replace ha : (if _ then _ else none) = some (Sum.inr (Sum.inl q)) := ha
    split at ha
    · exact (am_al_nc ha).elim
    · cases ha
  | new idx =>
    replace ha : (if _ then _ else none) = some (Sum.inr (Sum.inl q)) := ha
    split at ha
    · exact (am_new_nc ha).elim
    · cases ha
  | newarray a =>
    replace ha : (if _ then _ else none) = some (Sum.inr (Sum.inl q)) := ha
    split at ha
    · exact (am_na_nc ha).elim
    · cases ha
  | anewarray idx =>
    replace ha : (if _ then _ else none) = some (Sum.inr (Sum.inl q)) := ha
    split at ha
    · exact (am_an_nc ha).elim
    · cases ha
  | iconst c =>
    replace ha : (if _ then _ else none) = some (Sum.inr (Sum.inl q)) := ha
    split at ha
    · exact (am_go_nc ha).elim
    · cases ha
  | bipush c =>
    replace ha : (if _ then _ else none) = some (Sum.inr (Sum.inl q)) := ha
    split at ha
    · exact (am_go_nc ha).elim
    · cases ha
  | sipush c =>
    replace ha : (if _ then _ else none) = some (Sum.inr (Sum.inl q)) := ha
    split at ha
    · exact (am_go_nc ha).elim
    · cases ha
  | lconst c =>
    replace ha : (if _ then _ else none) = some (Sum.inr (Sum.inl q)) := ha
    split at ha
    · exact (am_go_nc ha).elim
    · cases ha
  | aconst_null  =>
    replace ha : (if _ then _ else none) = some (Sum.inr (Sum.inl q)) := ha
    split at ha
    · exact (am_go_nc ha).elim
    · cases ha
  | goto off =>
    replace ha : (if _ then _ else none) = some (Sum.inr (Sum.inl q)) := ha
    split at ha
    · exact (am_go_nc ha).elim
    · cases ha
  | ldc idx =>
    replace ha : (if _ then _ else none) = some (Sum.inr (Sum.inl q)) := ha
    split at ha
    · split at ha
      · exact (am_go_nc ha).elim
      · cases ha
    · cases ha
  | ldc_w idx =>
    replace ha : (if _ then _ else none) = some (Sum.inr (Sum.inl q)) := ha
    split at ha
    · split at ha
      · exact (am_go_nc ha).elim
      · cases ha
    · cases ha
  | ldc2_w idx =>
    replace ha : (if _ then _ else none) = some (Sum.inr (Sum.inl q)) := ha
    split at ha
    · split at ha
      · exact (am_go_nc ha).elim
      · cases ha
    · cases ha
  | lcmp =>
    replace ha : (if _ then _ else none) = some (Sum.inr (Sum.inl q)) := ha
    split at ha
    · split at ha
      · exact (am_go_nc ha).elim
      · cases ha
    · cases ha
  | tableswitch d lo hi offs => exact (am_sw_nc ha).elim
  | invokevirtual idx =>
    replace ha : (if _ then _ else none) = some (Sum.inr (Sum.inl q)) := ha
    split at ha
    · rename_i hln
      unfold am_inv at ha
      split at ha
      · rename_i kind n wn hl
        split at ha
        · rename_i hw
          have hk : kind = 0 ∨ kind = 5 := by simpa using hw
          rw [if_neg (by omega), if_neg (by omega), if_neg (by omega)] at ha
          exact ⟨idx, kind, n, wn, hl, ha, Or.inr (Or.inr ⟨hk, rfl⟩), hln⟩
        · cases ha
      · cases ha
    · cases ha
  | invokestatic idx =>
    replace ha : (if _ then _ else none) = some (Sum.inr (Sum.inl q)) := ha
    split at ha
    · rename_i hln
      unfold am_inv at ha
      split at ha
      · rename_i kind n wn hl
        split at ha
        · rename_i hw
          have hk : (((kind = 1 ∨ kind = 4) ∨ kind = 6) ∨ kind = 7) ∨ kind = 8 := by simpa using hw
          rw [if_neg (by omega)] at ha
          split at ha
          · exact (am_ac_nc ha).elim
          · split at ha
            · exact (am_mt_nc ha).elim
            · exact ⟨idx, kind, n, wn, hl, ha, Or.inl ⟨by omega, rfl⟩, hln⟩
        · cases ha
      · cases ha
    · cases ha
  | invokespecial idx =>
    replace ha : (if _ then _ else none) = some (Sum.inr (Sum.inl q)) := ha
    split at ha
    · rename_i hln
      unfold am_inv at ha
      split at ha
      · rename_i kind n wn hl
        split at ha
        · rename_i hw
          have hk : kind = 2 ∨ kind = 3 := by simpa using hw
          split at ha
          · exact (am_oi_nc ha).elim
          · rw [if_neg (by omega), if_neg (by omega)] at ha
            exact ⟨idx, kind, n, wn, hl, ha, Or.inr (Or.inl ⟨by omega, rfl⟩), hln⟩
        · cases ha
      · cases ha
    · cases ha
  | ireturn =>
    replace ha : (if _ then _ else none) = some (Sum.inr (Sum.inl q)) := ha
    split at ha
    · exact (am_rt_nc ha).elim
    · cases ha
  | lreturn =>
    replace ha : (if _ then _ else none) = some (Sum.inr (Sum.inl q)) := ha
    split at ha
    · exact (am_rtL_nc ha).elim
    · cases ha
  | areturn =>
    replace ha : (if _ then _ else none) = some (Sum.inr (Sum.inl q)) := ha
    split at ha
    · exact (am_rtA_nc ha).elim
    · cases ha
  | return_ =>
    replace ha : (if _ then _ else none) = some (Sum.inr (Sum.inl q)) := ha
    split at ha
    · exact (am_rtV_nc ha).elim
    · cases ha
  | _ => cases ha
set_option maxHeartbeats 4000000 in
theorem am_act_ret {y : am_M} {i : Instr} {len pc : Nat} {ls : List (Option Value)} {st : List Value} {h : am_H} {v : Option Value} (ha : am_act y i len pc ls st h = some (.inr (.inr v))) : (i = .ireturn ∧ len = 1 ∧ am_rt y st = some (.inr (.inr v))) ∨ (i = .lreturn ∧ len = 1 ∧ am_rtL y st = some (.inr (.inr v))) ∨ (i = .areturn ∧ len = 1 ∧ am_rtA y st = some (.inr (.inr v))) ∨ (i = .return_ ∧ len = 1 ∧ am_rtV y st = some (.inr (.inr v))) := by
  cases i with
  | iadd  =>
    replace ha : (if _ then _ else none) = some (Sum.inr (Sum.inr v)) := ha
    split at ha
    · exact (am_ii_nc ha).elim
    · cases ha
  | isub  =>
    replace ha : (if _ then _ else none) = some (Sum.inr (Sum.inr v)) := ha
    split at ha
    · exact (am_ii_nc ha).elim
    · cases ha
  | imul  =>
    replace ha : (if _ then _ else none) = some (Sum.inr (Sum.inr v)) := ha
    split at ha
    · exact (am_ii_nc ha).elim
    · cases ha
  | iand  =>
    replace ha : (if _ then _ else none) = some (Sum.inr (Sum.inr v)) := ha
    split at ha
    · exact (am_ii_nc ha).elim
    · cases ha
  | ior  =>
    replace ha : (if _ then _ else none) = some (Sum.inr (Sum.inr v)) := ha
    split at ha
    · exact (am_ii_nc ha).elim
    · cases ha
  | ixor  =>
    replace ha : (if _ then _ else none) = some (Sum.inr (Sum.inr v)) := ha
    split at ha
    · exact (am_ii_nc ha).elim
    · cases ha
  | ishl  =>
    replace ha : (if _ then _ else none) = some (Sum.inr (Sum.inr v)) := ha
    split at ha
    · exact (am_ii_nc ha).elim
    · cases ha
  | ishr  =>
    replace ha : (if _ then _ else none) = some (Sum.inr (Sum.inr v)) := ha
    split at ha
    · exact (am_ii_nc ha).elim
    · cases ha
  | iushr  =>
    replace ha : (if _ then _ else none) = some (Sum.inr (Sum.inr v)) := ha
    split at ha
    · exact (am_ii_nc ha).elim
    · cases ha
  | idiv  =>
    replace ha : (if _ then _ else none) = some (Sum.inr (Sum.inr v)) := ha
    split at ha
    · exact (am_iz_nc ha).elim
    · cases ha
  | irem  =>
    replace ha : (if _ then _ else none) = some (Sum.inr (Sum.inr v)) := ha
    split at ha
    · exact (am_iz_nc ha).elim
    · cases ha
  | ladd  =>
    replace ha : (if _ then _ else none) = some (Sum.inr (Sum.inr v)) := ha
    split at ha
    · exact (am_ll_nc ha).elim
    · cases ha
  | lsub  =>
    replace ha : (if _ then _ else none) = some (Sum.inr (Sum.inr v)) := ha
    split at ha
    · exact (am_ll_nc ha).elim
    · cases ha
  | lmul  =>
    replace ha : (if _ then _ else none) = some (Sum.inr (Sum.inr v)) := ha
    split at ha
    · exact (am_ll_nc ha).elim
    · cases ha
  | land  =>
    replace ha : (if _ then _ else none) = some (Sum.inr (Sum.inr v)) := ha
    split at ha
    · exact (am_ll_nc ha).elim
    · cases ha
  | lor  =>
    replace ha : (if _ then _ else none) = some (Sum.inr (Sum.inr v)) := ha
    split at ha
    · exact (am_ll_nc ha).elim
    · cases ha
  | ldiv  =>
    replace ha : (if _ then _ else none) = some (Sum.inr (Sum.inr v)) := ha
    split at ha
    · exact (am_lz_nc ha).elim
    · cases ha
  | lrem  =>
    replace ha : (if _ then _ else none) = some (Sum.inr (Sum.inr v)) := ha
    split at ha
    · exact (am_lz_nc ha).elim
    · cases ha
  | lshl  =>
    replace ha : (if _ then _ else none) = some (Sum.inr (Sum.inr v)) := ha
    split at ha
    · exact (am_li_nc ha).elim
    · cases ha
  | lshr  =>
    replace ha : (if _ then _ else none) = some (Sum.inr (Sum.inr v)) := ha
    split at ha
    · exact (am_li_nc ha).elim
    · cases ha
  | lushr  =>
    replace ha : (if _ then _ else none) = some (Sum.inr (Sum.inr v)) := ha
    split at ha
    · exact (am_li_nc ha).elim
    · cases ha
  | ineg  =>
    replace ha : (if _ then _ else none) = some (Sum.inr (Sum.inr v)) := ha
    split at ha
    · exact (am_i1_nc ha).elim
    · cases ha
  | i2b  =>
    replace ha : (if _ then _ else none) = some (Sum.inr (Sum.inr v)) := ha
    split at ha
    · exact (am_i1_nc ha).elim
    · cases ha
  | i2c  =>
    replace ha : (if _ then _ else none) = some (Sum.inr (Sum.inr v)) := ha
    split at ha
    · exact (am_i1_nc ha).elim
    · cases ha
  | i2l  =>
    replace ha : (if _ then _ else none) = some (Sum.inr (Sum.inr v)) := ha
    split at ha
    · exact (am_i1_nc ha).elim
    · cases ha
  | l2i  =>
    replace ha : (if _ then _ else none) = some (Sum.inr (Sum.inr v)) := ha
    split at ha
    · exact (am_l1_nc ha).elim
    · cases ha
  | iload i =>
    replace ha : (if _ then _ else none) = some (Sum.inr (Sum.inr v)) := ha
    split at ha
    · exact (am_lI_nc ha).elim
    · cases ha
  | iload_n i =>
    replace ha : (if _ then _ else none) = some (Sum.inr (Sum.inr v)) := ha
    split at ha
    · exact (am_lI_nc ha).elim
    · cases ha
  | lload i =>
    replace ha : (if _ then _ else none) = some (Sum.inr (Sum.inr v)) := ha
    split at ha
    · exact (am_lL_nc ha).elim
    · cases ha
  | lload_n i =>
    replace ha : (if _ then _ else none) = some (Sum.inr (Sum.inr v)) := ha
    split at ha
    · exact (am_lL_nc ha).elim
    · cases ha
  | aload i =>
    replace ha : (if _ then _ else none) = some (Sum.inr (Sum.inr v)) := ha
    split at ha
    · exact (am_lA_nc ha).elim
    · cases ha
  | aload_n i =>
    replace ha : (if _ then _ else none) = some (Sum.inr (Sum.inr v)) := ha
    split at ha
    · exact (am_lA_nc ha).elim
    · cases ha
  | istore i =>
    replace ha : (if _ then _ else none) = some (Sum.inr (Sum.inr v)) := ha
    split at ha
    · exact (am_tI_nc ha).elim
    · cases ha
  | istore_n i =>
    replace ha : (if _ then _ else none) = some (Sum.inr (Sum.inr v)) := ha
    split at ha
    · exact (am_tI_nc ha).elim
    · cases ha
  | lstore i =>
    replace ha : (if _ then _ else none) = some (Sum.inr (Sum.inr v)) := ha
    split at ha
    · exact (am_tL_nc ha).elim
    · cases ha
  | lstore_n i =>
    replace ha : (if _ then _ else none) = some (Sum.inr (Sum.inr v)) := ha
    split at ha
    · exact (am_tL_nc ha).elim
    · cases ha
  | astore i =>
    replace ha : (if _ then _ else none) = some (Sum.inr (Sum.inr v)) := ha
    split at ha
    · exact (am_tA_nc ha).elim
    · cases ha
  | astore_n i =>
    replace ha : (if _ then _ else none) = some (Sum.inr (Sum.inr v)) := ha
    split at ha
    · exact (am_tA_nc ha).elim
    · cases ha
  | iinc i n =>
    replace ha : (if _ then _ else none) = some (Sum.inr (Sum.inr v)) := ha
    split at ha
    · exact (am_inc_nc ha).elim
    · cases ha
  | dup  =>
    replace ha : (if _ then _ else none) = some (Sum.inr (Sum.inr v)) := ha
    split at ha
    · exact (am_dup_nc ha).elim
    · cases ha
  | dup2  =>
    replace ha : (if _ then _ else none) = some (Sum.inr (Sum.inr v)) := ha
    split at ha
    · exact (am_dup2_nc ha).elim
    · cases ha
  | pop  =>
    replace ha : (if _ then _ else none) = some (Sum.inr (Sum.inr v)) := ha
    split at ha
    · exact (am_pop_nc ha).elim
    · cases ha
  | ifCond c off =>
    replace ha : (if _ then _ else none) = some (Sum.inr (Sum.inr v)) := ha
    split at ha
    · exact (am_if1_nc ha).elim
    · cases ha
  | if_icmp c off =>
    replace ha : (if _ then _ else none) = some (Sum.inr (Sum.inr v)) := ha
    split at ha
    · exact (am_if2_nc ha).elim
    · cases ha
  | ifnonnull off =>
    replace ha : (if _ then _ else none) = some (Sum.inr (Sum.inr v)) := ha
    split at ha
    · exact (am_nn_nc ha).elim
    · cases ha
  | getfield idx =>
    replace ha : (if _ then _ else none) = some (Sum.inr (Sum.inr v)) := ha
    split at ha
    · exact (am_gf_nc ha).elim
    · cases ha
  | putfield idx =>
    replace ha : (if _ then _ else none) = some (Sum.inr (Sum.inr v)) := ha
    split at ha
    · exact (am_pf_nc ha).elim
    · cases ha
  | getstatic idx =>
    replace ha : (if _ then _ else none) = some (Sum.inr (Sum.inr v)) := ha
    split at ha
    · exact (am_gs_nc ha).elim
    · cases ha
  | iaload  =>
    replace ha : (if _ then _ else none) = some (Sum.inr (Sum.inr v)) := ha
    split at ha
    · exact (am_rI_nc ha).elim
    · cases ha
  | baload  =>
    replace ha : (if _ then _ else none) = some (Sum.inr (Sum.inr v)) := ha
    split at ha
    · exact (am_rB_nc ha).elim
    · cases ha
  | laload  =>
    replace ha : (if _ then _ else none) = some (Sum.inr (Sum.inr v)) := ha
    split at ha
    · exact (am_rL_nc ha).elim
    · cases ha
  | aaload  =>
    replace ha : (if _ then _ else none) = some (Sum.inr (Sum.inr v)) := ha
    split at ha
    · exact (am_rA_nc ha).elim
    · cases ha
  | iastore  =>
    replace ha : (if _ then _ else none) = some (Sum.inr (Sum.inr v)) := ha
    split at ha
    · exact (am_wI_nc ha).elim
    · cases ha
  | bastore  =>
    replace ha : (if _ then _ else none) = some (Sum.inr (Sum.inr v)) := ha
    split at ha
    · exact (am_wB_nc ha).elim
    · cases ha
  | lastore  =>
    replace ha : (if _ then _ else none) = some (Sum.inr (Sum.inr v)) := ha
    split at ha
    · exact (am_wL_nc ha).elim
    · cases ha
  | aastore  =>
    replace ha : (if _ then _ else none) = some (Sum.inr (Sum.inr v)) := ha
    split at ha
    · exact (am_wA_nc ha).elim
    · cases ha
  | arraylength  =>
    replace ha : (if _ then _ else none) = some (Sum.inr (Sum.inr v)) := ha
    split at ha
    · exact (am_al_nc ha).elim
    · cases ha
  | new idx =>
    replace ha : (if _ then _ else none) = some (Sum.inr (Sum.inr v)) := ha
    split at ha
    · exact (am_new_nc ha).elim
    · cases ha
  | newarray a =>
    replace ha : (if _ then _ else none) = some (Sum.inr (Sum.inr v)) := ha
    split at ha
    · exact (am_na_nc ha).elim
    · cases ha
  | anewarray idx =>
    replace ha : (if _ then _ else none) = some (Sum.inr (Sum.inr v)) := ha
    split at ha
    · exact (am_an_nc ha).elim
    · cases ha
  | iconst c =>
    replace ha : (if _ then _ else none) = some (Sum.inr (Sum.inr v)) := ha
    split at ha
    · exact (am_go_nc ha).elim
    · cases ha
  | bipush c =>
    replace ha : (if _ then _ else none) = some (Sum.inr (Sum.inr v)) := ha
    split at ha
    · exact (am_go_nc ha).elim
    · cases ha
  | sipush c =>
    replace ha : (if _ then _ else none) = some (Sum.inr (Sum.inr v)) := ha
    split at ha
    · exact (am_go_nc ha).elim
    · cases ha
  | lconst c =>
    replace ha : (if _ then _ else none) = some (Sum.inr (Sum.inr v)) := ha
    split at ha
    · exact (am_go_nc ha).elim
    · cases ha
  | aconst_null  =>
    replace ha : (if _ then _ else none) = some (Sum.inr (Sum.inr v)) := ha
    split at ha
    · exact (am_go_nc ha).elim
    · cases ha
  | goto off =>
    replace ha : (if _ then _ else none) = some (Sum.inr (Sum.inr v)) := ha
    split at ha
    · exact (am_go_nc ha).elim
    · cases ha
  | ldc idx =>
    replace ha : (if _ then _ else none) = some (Sum.inr (Sum.inr v)) := ha
    split at ha
    · split at ha
      · exact (am_go_nc ha).elim
      · cases ha
    · cases ha
  | ldc_w idx =>
    replace ha : (if _ then _ else none) = some (Sum.inr (Sum.inr v)) := ha
    split at ha
    · split at ha
      · exact (am_go_nc ha).elim
      · cases ha
    · cases ha
  | ldc2_w idx =>
    replace ha : (if _ then _ else none) = some (Sum.inr (Sum.inr v)) := ha
    split at ha
    · split at ha
      · exact (am_go_nc ha).elim
      · cases ha
    · cases ha
  | lcmp =>
    replace ha : (if _ then _ else none) = some (Sum.inr (Sum.inr v)) := ha
    split at ha
    · split at ha
      · exact (am_go_nc ha).elim
      · cases ha
    · cases ha
  | tableswitch d lo hi offs => exact (am_sw_nc ha).elim
  | invokevirtual idx =>
    replace ha : (if _ then _ else none) = some (Sum.inr (Sum.inr v)) := ha
    split at ha
    · unfold am_inv at ha
      split at ha
      · split at ha
        · split at ha
          · exact (am_oi_nc ha).elim
          · split at ha
            · exact (am_ac_nc ha).elim
            · split at ha
              · exact (am_mt_nc ha).elim
              · exact (am_call_nr ha).elim
        · cases ha
      · cases ha
    · cases ha
  | invokestatic idx =>
    replace ha : (if _ then _ else none) = some (Sum.inr (Sum.inr v)) := ha
    split at ha
    · unfold am_inv at ha
      split at ha
      · split at ha
        · split at ha
          · exact (am_oi_nc ha).elim
          · split at ha
            · exact (am_ac_nc ha).elim
            · split at ha
              · exact (am_mt_nc ha).elim
              · exact (am_call_nr ha).elim
        · cases ha
      · cases ha
    · cases ha
  | invokespecial idx =>
    replace ha : (if _ then _ else none) = some (Sum.inr (Sum.inr v)) := ha
    split at ha
    · unfold am_inv at ha
      split at ha
      · split at ha
        · split at ha
          · exact (am_oi_nc ha).elim
          · split at ha
            · exact (am_ac_nc ha).elim
            · split at ha
              · exact (am_mt_nc ha).elim
              · exact (am_call_nr ha).elim
        · cases ha
      · cases ha
    · cases ha
  | ireturn =>
    replace ha : (if _ then _ else none) = some (Sum.inr (Sum.inr v)) := ha
    split at ha
    · rename_i hln; exact Or.inl ⟨rfl, hln, ha⟩
    · cases ha
  | lreturn =>
    replace ha : (if _ then _ else none) = some (Sum.inr (Sum.inr v)) := ha
    split at ha
    · rename_i hln; exact Or.inr (Or.inl ⟨rfl, hln, ha⟩)
    · cases ha
  | areturn =>
    replace ha : (if _ then _ else none) = some (Sum.inr (Sum.inr v)) := ha
    split at ha
    · rename_i hln; exact Or.inr (Or.inr (Or.inl ⟨rfl, hln, ha⟩))
    · cases ha
  | return_ =>
    replace ha : (if _ then _ else none) = some (Sum.inr (Sum.inr v)) := ha
    split at ha
    · rename_i hln; exact Or.inr (Or.inr (Or.inr ⟨rfl, hln, ha⟩))
    · cases ha
  | _ => cases ha
section AMK
variable {p : Program} {l : Launch} {e : Env} {R : Room} {s : State} {m : MethodId} {args : Array Value} {below : List Frame} {meth : Method} {c : Code} {Q : State → Prop} {w : am_Wd} {X : Nat × (Nat → Int32)} {y : am_M} {n0 z0 : Nat}
variable {pc : Nat} {ls : List (Option Value)} {st : List Value} {h : am_H}
theorem am_call_inv {kind n : Nat} {q : Nat × List Value × Nat × List Value} (ha : am_call y kind n pc st h = some (.inr (.inl q))) : ∃ y1, am_ms[n]? = some y1 ∧ am_rf y1 + 1 ≤ am_rf y ∧ 8 + (y1.2.2.1 + 11) + am_rl y1 ≤ am_rl y ∧ am_np y1 ≤ st.length ∧ am_w8 (st.drop (am_np y1)) ≤ 8 ∧ (am_args q.2.1).length ≤ y1.2.2.1 ∧ q.2.1.all am_okv = true ∧
    q = (n, (st.take (am_np y1)).reverse, pc + 3, st.drop (am_np y1)) ∧ (kind ≠ 1 → ∃ o as, (st.take (am_np y1)).reverse = .ref o :: as ∧ (kind = 2 ∨ (am_own y1 < 12 ∧ am_kd h o = some (.inl (am_own y1))) ∨ (kind = 0 ∧ o ∈ am_kS ∧ y1.1.cls = "java/lang/String"))) := by
  unfold am_call at ha
  split at ha
  · rename_i y1 hy1
    split at ha
    · rename_i hc
      obtain ⟨c1, c2, c3, c4, c5, c6⟩ := hc
      split at ha
      · rename_i hk
        have e := Sum.inl.inj (Sum.inr.inj (Option.some.inj ha))
        subst e
        exact ⟨y1, hy1, c1, c2, c3, c4, c5, c6, rfl, fun z => absurd hk z⟩
      · rename_i hk
        split at ha
        · rename_i o as hs
          split at ha
          · rename_i hcc
            have e := Sum.inl.inj (Sum.inr.inj (Option.some.inj ha))
            subst e
            rw [hs] at c5 c6
            exact ⟨y1, hy1, c1, c2, c3, c4, c5, c6, by rw [hs], fun _ => ⟨o, as, hs, hcc⟩⟩
          · cases ha
        · cases ha
    · cases ha
  · cases ha
theorem am_split {np : Nat} (hnp : np ≤ st.length) {as : List Value} (hs : (st.take np).reverse = as) : st.map (am_v w) = (as.map (am_v w)).reverse ++ (st.drop np).map (am_v w) ∧ as.length = np := by
  constructor
  · rw [← hs, List.map_reverse, List.reverse_reverse, ← List.map_append, List.take_append_drop]
  · rw [← hs, List.length_reverse, List.length_take]
    omega
/-- behind a call -/
theorem am_back {rest : List Value} {v : Option Value} {h' : am_H} {H : Heap} {locs : List Loc} {lsC : Array Slot} {st0 : List Value} {aa : Array Value} (hn0 : n0 ≤ am_n h) (hz0 : z0 ≤ am_z h) (hle : am_le h h') (hS : va_S (am_A0 w) s.heap H locs) (hL : am_LR w ls lsC y.2.2.1) (hX : h.2.2.2.2 = X) (hsz : w.2.2.1 ≤ s.heap.size)
    (hr : va_Run p l e R s m args below meth c H locs (am_n h - n0) (am_z h - z0) (am_n h' - am_n h) (am_z h' - am_z h) (F0 m pc lsC st0) (rest.map (am_v w)) (am_Qc w v h' aa) (am_A0 w))
    (G : am_G p l e R s m args below meth c Q w X y n0 z0 (pc + 3, ls, v.toList ++ rest, h')) : W p l e R s m args below meth c H locs (am_n h - n0) (am_z h - z0) Q (F0 m pc lsC st0) := by
  refine am_callW hr (fun v1 st₀ t L e0 hq hLf => ?_)
  obtain ⟨q1, q2, q3, q4⟩ := hq
  cases q1
  rw [e0] at q3 q4
  have g := G t.heap (locs ++ L) lsC q2 ⟨Nat.le_trans hS.1 q3, fun q g1 g2 => (q4 q (Nat.lt_of_lt_of_le g1 hS.1) g2).trans (hS.2.1 q g1 g2), fun q hq => by
    rcases List.mem_append.mp hq with z | z
    · exact hS.2.2 q z
    · exact hLf q z⟩ hL (by show h'.2.2.2.2 = X; rw [hle.2.2]; exact hX)
  have l1 := hle.1
  have l2 := hle.2.1
  have e1 : am_n h' - n0 = am_n h - n0 + (am_n h' - am_n h) := by omega
  have e2 : am_z h' - z0 = am_z h - z0 + (am_z h' - am_z h) := by omega
  have e3 : (v.map (am_v w)).toList ++ rest.map (am_v w) = (v.toList ++ rest).map (am_v w) := by cases v <;> rfl
  have g1 : W p l e R s m args below meth c t.heap (locs ++ L) (am_n h' - n0) (am_z h' - z0) Q (F0 m (pc + 3) lsC ((v.toList ++ rest).map (am_v w))) := g
  rw [e1, e2, ← e3] at g1
  exact g1
theorem am_pre {as : List Value} {H : Heap} {locs : List Loc} (F : am_Fx w X y p s m args meth c) (hR : am_Rep w h H) (hS : va_S (am_A0 w) s.heap H locs) (hX : h.2.2.2.2 = X) : ∀ U : State, U.heap = H → s.WarmedH U.vm → am_Pc w h as (as.map (am_v w)).toArray U := by
  obtain ⟨hx, hb, hr, hml, hown, hts, hlocks, hnm, hK, hC, hz⟩ := F
  intro U hU hW
  refine ⟨rfl, by rw [hU]; exact hR, va_K.moved hW.alike hK, ?_⟩
  rw [hU, hX]
  exact (hC.kept hz (fun a g1 g2 => hS.2.1 a g1 g2)).warm hW
theorem am_recv {o : Nat} {y1 : am_M} {n : Nat} {H : Heap} {locs : List Loc} (F : am_Fx w X y p s m args meth c) (hy1 : am_ms[n]? = some y1) (hn : n < 298) (hR : am_Rep w h H) (hS : va_S (am_A0 w) s.heap H locs) (hc : (am_own y1 < 12 ∧ am_kd h o = some (.inl (am_own y1))) ∨ (o ∈ am_kS ∧ y1.1.cls = "java/lang/String")) : ∃ cellB : Cell, H[am_a w o]? = some cellB ∧ cellB.vm.isStatics = false ∧ s.vm.findClass y1.1.cls = some cellB.cls := by
  obtain ⟨hx, hb, hr, hml, hown, hts, hlocks, hnm, hK, hC, hz⟩ := F
  rcases hc with ⟨c2, c3⟩ | ⟨c1, c2⟩
  · obtain ⟨-, r0, hr0, cell, q1, q2, q3, -⟩ := hR.2.2 o _ c3
    rw [am_a_lt (hR.lt c3)]
    refine ⟨cell, q1, by rw [q3]; rfl, ?_⟩
    rw [q2, ← (am_meth_ok hy1 hn).2.1, ← am_cn_on _ c2]
    exact (hK.1 _ _ (am_cl_at c2)).2.1
  · obtain ⟨cell, g1, g2, g3, -⟩ := (hC.2.2.2.1 o c1).kept hS.2.1
    exact ⟨cell, g1, g2, by rw [c2]; exact g3⟩
set_option maxHeartbeats 4000000 in
theorem am_x_call {i : Instr} {len : Nat} {q : Nat × List Value × Nat × List Value} {y1 : am_M} {v : Option Value} {h' : am_H} (F : am_Fx w X y p s m args meth c) (hRf : am_rf y ≤ R.frames) (hRl : am_rl y ≤ R.locals) (hd : decode y.2.1 pc = .ok (i, len)) (ha : am_act y i len pc ls st h = some (.inr (.inl q))) (hy1 : am_ms[q.1]? = some y1) (hq : q.1 < 298)
    (hn0 : n0 ≤ am_n h) (hz0 : z0 ≤ am_z h) (hle : am_le h h') (hRc : am_n h' - n0 ≤ R.cells) (hRs : am_z h' - z0 ≤ R.slots) (hM : am_Met l w y1 q.2.1 h v h') (G : am_G p l e R s m args below meth c Q w X y n0 z0 (q.2.2.1, ls, v.toList ++ q.2.2.2, h')) : am_G p l e R s m args below meth c Q w X y n0 z0 (pc, ls, st, h) := by
  have F0' := F
  obtain ⟨hx, hb, hr, hml, hown, hts, hlocks, hnm, hK, hC, hz⟩ := F0'
  obtain ⟨idx, kind, n, wn, hl, hcall, hki, hlen⟩ := am_act_call ha
  subst hlen
  obtain ⟨y1', hy1', c1, c2, c3, c4, c5, c6, hqe, hrc⟩ := am_call_inv hcall
  have hqn : q.1 = n := by rw [hqe]
  rw [hqn] at hy1 hq
  obtain rfl : y1' = y1 := Option.some.inj (hy1'.symm.trans hy1)
  obtain ⟨w1, w2, w3, w4, w5, w6, w7⟩ := am_meth_ok hy1 hq
  have hcode := am_code_in hy1 hq
  have hgood := am_ws_good hcode
  have hlk := am_ml_ok hl
  have e2 : q.2.1 = (st.take (am_np y1')).reverse := by rw [hqe]
  have e3 : q.2.2.1 = pc + 3 := by rw [hqe]
  have e4 : q.2.2.2 = st.drop (am_np y1') := by rw [hqe]
  rw [e3, e4] at G
  rw [e2] at hM
  intro H locs lsC hR hS hL hX
  have l1 := hle.1
  have l2 := hle.2.1
  have hf : am_n h - n0 + (am_n h' - am_n h) ≤ R.cells ∧ am_z h - z0 + (am_z h' - am_z h) ≤ R.slots := by
    constructor
    · omega
    · omega
  have hroom : (am_rm y1' h h').frames + 1 ≤ R.frames ∧ 8 + (y1'.2.2.1 + 11) + (am_rm y1' h h').locals ≤ R.locals := ⟨Nat.le_trans c1 hRf, Nat.le_trans c2 hRl⟩
  have h8 : 2 * (F0 m pc lsC (st.map (am_v w))).monitorRoom + (((st.drop (am_np y1')).map (am_v w)).map fun v => v.category).sum ≤ 8 := by
    show 2 * 0 + _ ≤ 8
    rw [am_w8_map]
    omega
  obtain ⟨hsp, hlen⟩ := am_split (w := w) c3 (as := (st.take (am_np y1')).reverse) rfl
  rcases hki with ⟨rfl, rfl⟩ | ⟨rfl, rfl⟩ | ⟨hk05, rfl⟩
  · -- of a class
    obtain ⟨k1, k2⟩ := am_mlw_k hlk (Or.inr (Or.inl rfl)) hy1
    obtain ⟨u1, u2⟩ := w6 k2
    have hG : GoodIn am_tb (va_wsS (am_on.getD (am_own y) "") idx y1'.1 (am_ws y1')) := fun t ht => by
      unfold va_wsS at ht
      rcases List.mem_append.mp ht with z | z
      · simp only [List.mem_cons, List.not_mem_nil, or_false] at z
        rcases z with rfl | rfl | rfl
        · exact am_tb_good _ (am_isW_in k1)
        · exact am_tb_good _ u1
        · exact am_tb_good _ w1
      · exact hgood t z
    refine am_back (aa := ((st.take (am_np y1')).reverse.map (am_v w)).toArray) hn0 hz0 hle hS hL hX hz (va_runS (As := (st.take (am_np y1')).reverse.map (am_v w)) (rest := (st.drop (am_np y1')).map (am_v w)) ⟨hx, hb, hml, hown, hts⟩ hM (va_cwS (am_np y1') hts hG rfl rfl rfl ⟨w4.1, w4.2, u2⟩ hroom) ⟨am_blind, am_pre F hR hS hX⟩ rfl (by rw [List.length_map]; exact hlen) hL.2.1 hsp h8 hd hf) G
  · -- a maker
    obtain ⟨k1, k2⟩ := am_mlw_k hlk (Or.inr (Or.inr rfl)) hy1
    obtain ⟨u1, u2, u3, u4, u5⟩ := w7 k2
    obtain ⟨o, as, hs, -⟩ := hrc (by decide)
    rw [hs] at hsp hlen hM
    have hgd : am_ws y1' = Cond.code y1'.1 y1'.2.1 y1'.2.2.1 none :: am_tb := by unfold am_ws; rw [u5]
    refine am_back (aa := (Value.ref (am_a w o) :: as.map (am_v w)).toArray) hn0 hz0 hle hS hL hX hz (va_runI (b := am_a w o) (As := as.map (am_v w)) (rest := (st.drop (am_np y1')).map (am_v w)) ⟨hx, hb, hml, hown, hts⟩ hM ⟨callB_of (am_np y1' - 1) hts hgood hgd rfl rfl (hts _ w1) (hts _ (am_isW_in k1)) ⟨w4.1, w4.2, u3⟩ hroom, u2, hts _ u1⟩ ⟨am_blind, am_pre (as := .ref o :: as) F hR hS hX⟩ rfl (by rw [List.length_map]; rw [List.length_cons] at hlen; omega) hL.2.1 (by show st.map (am_v w) = _; rw [hsp, List.map_cons, List.reverse_cons, List.append_assoc]; rfl) h8 hd hf) G
  · -- of an object
    obtain ⟨o, as, hs, hcc⟩ := hrc (by omega)
    rw [hs] at hsp hlen hM
    have hrv : ∃ cellB : Cell, H[am_a w o]? = some cellB ∧ cellB.vm.isStatics = false ∧ s.vm.findClass y1'.1.cls = some cellB.cls := am_recv F hy1 hq hR hS (by
      rcases hcc with z | z | z
      · omega
      · exact Or.inl z
      · exact Or.inr z.2)
    have hst : (F0 m pc lsC (st.map (am_v w))).stack = (as.map (am_v w)).reverse ++ .ref (am_a w o) :: (st.drop (am_np y1')).map (am_v w) := by
      show st.map (am_v w) = _
      rw [hsp, List.map_cons, List.reverse_cons, List.append_assoc]
      rfl
    rcases hk05 with rfl | rfl
    · obtain ⟨k1, k2⟩ := am_mlw_k hlk (Or.inl rfl) hy1
      obtain ⟨u1, u2, u3, u4⟩ := w5 k2
      have hG : GoodIn am_tb (wsV (am_on.getD (am_own y) "") idx y1'.1.cls y1'.1 (am_ws y1')) := fun t ht => by
        unfold wsV at ht
        rcases List.mem_append.mp ht with z | z
        · simp only [List.mem_cons, List.not_mem_nil, or_false] at z
          rcases z with rfl | rfl | rfl | rfl
          · exact am_tb_good _ (am_isW_in k1)
          · exact am_tb_good _ u1
          · exact am_tb_good _ u2
          · exact am_tb_good _ w1
        · exact hgood t z
      refine am_back (aa := (Value.ref (am_a w o) :: as.map (am_v w)).toArray) hn0 hz0 hle hS hL hX hz (va_runV (b := am_a w o) (C := y1'.1.cls) (As := as.map (am_v w)) (rest := (st.drop (am_np y1')).map (am_v w)) ⟨hx, hb, hml, hown, hts⟩ hM (cwV (am_np y1' - 1) hts hG rfl rfl rfl ⟨rfl, w4.1, w4.2, u3⟩ hroom) ⟨am_blind, hrv, am_pre (as := .ref o :: as) F hR hS hX⟩ rfl (by rw [List.length_map]; rw [List.length_cons] at hlen; omega) hL.2.1 hst h8 hd hf) G
    · obtain ⟨k1, k2, k3, k4⟩ := am_mlw_5 hlk hy1
      obtain ⟨u1, u2, u3, u4⟩ := w5 k4
      have hnw : va_Nw (.methodLinkNest (am_on.getD (am_own y) "") idx y1'.1 "DogNotary") s := by
        rw [k1, k2, k3, show am_on.getD 7 "" = "DogNotary$Reader" by decide +kernel]
        exact hC.2.2.2.2.2.1
      refine am_back (aa := (Value.ref (am_a w o) :: as.map (am_v w)).toArray) hn0 hz0 hle hS hL hX hz (va_runVN (b := am_a w o) (C := y1'.1.cls) (As := as.map (am_v w)) (rest := (st.drop (am_np y1')).map (am_v w)) ⟨hx, hb, hml, hown, hts⟩ hM ⟨va_cnB (am_np y1' - 1) hts hgood rfl rfl rfl hnw (hts _ w1) ⟨w4.1, w4.2, u3⟩ hroom, hts _ u1, hts _ u2⟩ ⟨am_blind, hrv, am_pre (as := .ref o :: as) F hR hS hX⟩ rfl (by rw [List.length_map]; rw [List.length_cons] at hlen; omega) hL.2.1 hst h8 hd hf) G
end AMK
theorem am_call_lt {y : am_M} {i : Instr} {len pc : Nat} {ls : List (Option Value)} {st : List Value} {h : am_H} {q : Nat × List Value × Nat × List Value} (ha : am_act y i len pc ls st h = some (.inr (.inl q))) : q.1 < 298 ∧ q.2.1.all am_okv = true ∧ ∀ y1, am_ms[q.1]? = some y1 → (am_args q.2.1).length ≤ y1.2.2.1 := by
  obtain ⟨idx, kind, n, wn, hl, hcall, hki, hlen⟩ := am_act_call ha
  obtain ⟨y1, hy1, c1, c2, c3, c4, c5, c6, hqe, hrc⟩ := am_call_inv hcall
  have hqn : q.1 = n := by rw [hqe]
  have hlk := am_ml_ok hl
  have hm : ∃ z, am_mk0[n]? = some z := by
    rcases hki with ⟨rfl, -⟩ | ⟨rfl, -⟩ | ⟨rfl | rfl, -⟩
    · exact ⟨_, (am_mlw_k hlk (Or.inr (Or.inl rfl)) hy1).2⟩
    · exact ⟨_, (am_mlw_k hlk (Or.inr (Or.inr rfl)) hy1).2⟩
    · exact ⟨_, (am_mlw_k hlk (Or.inl rfl) hy1).2⟩
    · exact ⟨_, (am_mlw_5 hlk hy1).2.2.2⟩
  obtain ⟨z, hz⟩ := hm
  have hlt := (List.getElem?_eq_some_iff.mp hz).1
  rw [show am_mk0.length = 298 by decide +kernel] at hlt
  refine ⟨by rw [hqn]; exact hlt, c6, fun y2 hy2 => ?_⟩
  rw [hqn] at hy2
  cases hy1.symm.trans hy2
  exact c5
