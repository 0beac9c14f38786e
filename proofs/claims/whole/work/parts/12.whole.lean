/-! part 12: a run of the small machine gives the machine's walk; a method's run its contract -/
section AMR
variable {p : Program} {l : Launch} {e : Env} {R : Room} {s : State} {m : MethodId} {args : Array Value} {below : List Frame} {meth : Method} {c : Code} {w : am_Wd} {X : Nat × (Nat → Int32)} {y : am_M} {n0 z0 : Nat}
variable {pc : Nat} {ls : List (Option Value)} {st : List Value} {h : am_H}
theorem am_ret_W {i : Instr} {len : Nat} {v : Option Value} {Qc : Array Value → State → Outcome → State → Prop} (F : am_Fx w X y p s m args meth c) (hd : decode y.2.1 pc = .ok (i, len)) (ha : am_act y i len pc ls st h = some (.inr (.inr v)))
    (hq : ∀ (H : Heap) (locs : List Loc), am_Rep w h H → va_S (am_A0 w) s.heap H locs → ∀ t : State, t.heap = H → s.WarmedH t.vm → Qc args s (.returned (v.map (am_v w))) t) :
    am_G p l e R s m args below meth c (MQ below Qc args s (am_n h - n0) (am_z h - z0) (am_A0 w)) w X y n0 z0 (pc, ls, st, h) := by
  obtain ⟨hx, hb, hr, hml, hown, hts, hlocks, hnm, hK, hC, hz⟩ := F
  rcases am_act_ret ha with ⟨rfl, rfl, h1⟩ | ⟨rfl, rfl, h1⟩ | ⟨rfl, rfl, h1⟩ | ⟨rfl, rfl, h1⟩
  · unfold am_rt at h1
    split at h1
    · split at h1
      · rename_i a ty hty
        split at h1
        · rename_i hc
          have e1 := Sum.inr.inj (Sum.inr.inj (Option.some.inj h1))
          subst e1
          intro H locs lsC hR hS hL hX
          exact W.zret hx hb (hr.trans hty) hc.1 (hq H locs hR hS) hS.2.2 hd hlocks
        · cases h1
      · cases h1
    · cases h1
  · unfold am_rtL at h1
    split at h1
    · split at h1
      · rename_i a hty
        have e1 := Sum.inr.inj (Sum.inr.inj (Option.some.inj h1))
        subst e1
        intro H locs lsC hR hS hL hX
        exact W.lret hx hb (hr.trans hty) (hq H locs hR hS) hS.2.2 hd hlocks
      · cases h1
    · cases h1
  · unfold am_rtA at h1
    split at h1
    · rename_i cn hty
      split at h1
      · rename_i a
        have e1 := Sum.inr.inj (Sum.inr.inj (Option.some.inj h1))
        subst e1
        intro H locs lsC hR hS hL hX
        exact W.aret hx hb (hr.trans hty) (Or.inl ⟨_, rfl⟩) (Or.inr ⟨_, rfl⟩) (hq H locs hR hS) hS.2.2 hd hlocks
      · have e1 := Sum.inr.inj (Sum.inr.inj (Option.some.inj h1))
        subst e1
        intro H locs lsC hR hS hL hX
        exact W.aret hx hb (hr.trans hty) (Or.inl ⟨_, rfl⟩) (Or.inl rfl) (hq H locs hR hS) hS.2.2 hd hlocks
      · cases h1
    · cases h1
  · unfold am_rtV at h1
    split at h1
    · split at h1
      · rename_i hty
        have e1 := Sum.inr.inj (Sum.inr.inj (Option.some.inj h1))
        subst e1
        intro H locs lsC hR hS hL hX
        exact W.vret hx hb (hr.trans hty) (hq H locs hR hS) hS.2.2 hd hlocks
      · cases h1
    · cases h1
end AMR
/-- the walk from a run -/
def am_Sd (l : Launch) (w : am_Wd) (n : Nat) : Prop := ∀ (k : Nat) (y : am_M) (pc : Nat) (ls : List (Option Value)) (st : List Value) (h : am_H) (v : Option Value) (h' : am_H), am_ms[k]? = some y → am_run n k pc ls st h = some (v, h') →
  ∀ (p : Program) (e : Env) (R : Room) (s : State) (m : MethodId) (args : Array Value) (below : List Frame) (meth : Method) (c : Code) (Q : State → Prop) (X : Nat × (Nat → Int32)) (n0 z0 : Nat), am_Fx w X y p s m args meth c → am_rf y ≤ R.frames → am_rl y ≤ R.locals → n0 ≤ am_n h → z0 ≤ am_z h → am_n h' - n0 ≤ R.cells → am_z h' - z0 ≤ R.slots →
  (∀ (i : Instr) (len pc' : Nat) (ls' : List (Option Value)) (st' : List Value), decode y.2.1 pc' = .ok (i, len) → am_act y i len pc' ls' st' h' = some (.inr (.inr v)) → am_G p l e R s m args below meth c Q w X y n0 z0 (pc', ls', st', h')) → am_G p l e R s m args below meth c Q w X y n0 z0 (pc, ls, st, h)
theorem am_met_of {l : Launch} {w : am_Wd} {n : Nat} (ih : am_Sd l w n) {k : Nat} {y : am_M} (hy : am_ms[k]? = some y) (hk : k < 298) {as : List Value} {h h' : am_H} {v : Option Value} (hok : as.all am_okv = true) (hlen : (am_args as).length ≤ y.2.2.1) (hrun : am_run n k 0 (am_ent y.2.2.1 as) [] h = some (v, h')) : am_Met l w y as h v h' := by
  obtain ⟨w1, w2, w3, -⟩ := am_meth_ok hy hk
  refine Met.ofW (cc := y.2.1) (maxL := y.2.2.1) (ret := y.2.2.2.1) w3 rfl ?_
  intro p e s m args below meth c s₁ B hml hv
  obtain ⟨rfl, hRep, hK, hC⟩ := hv
  have hts0 := atoms_spec (ws := am_ws y) B.pre
  have F : am_Fx w h.2.2.2.2 y p s m (as.map (am_v w)).toArray meth c := ⟨B.exec, B.bytes, B.returns, hml, by rw [w2]; exact findClass_of_methodNamed B.named, fun t ht => hts0 t (List.mem_cons_of_mem _ ht), B.notSynchronized, (fun q => ((name_of_methodNamed B.named B.method).1).trans q), hK, hC, by rw [hRep.1]; exact Nat.le_add_right _ _⟩
  rw [lg_entry_eq]
  have g := ih k y 0 (am_ent y.2.2.1 as) [] h v h' hy hrun p e (headSpec (am_ws y) (am_rm y h h')).room s m (as.map (am_v w)).toArray below meth c (MQ below (am_Qc w v h') (as.map (am_v w)).toArray s (am_n h' - am_n h) (am_z h' - am_z h) (am_A0 w)) h.2.2.2.2 (am_n h) (am_z h) F (Nat.le_refl _) (Nat.le_refl _) (Nat.le_refl _) (Nat.le_refl _) (Nat.le_refl _) (Nat.le_refl _)
    (fun i len pc' ls' st' hd ha => am_ret_W F hd ha (fun H locs hR hS t ht hW => ⟨rfl, by rw [ht]; exact hR, hS.F ht⟩)) s.heap [] _ hRep va_S.rf (am_LR.entry (w := w) hok hlen) rfl
  have g1 : W p l e (headSpec (am_ws y) (am_rm y h h')).room s m (as.map (am_v w)).toArray below meth c s.heap [] (am_n h - am_n h) (am_z h - am_z h) (MQ below (am_Qc w v h') (as.map (am_v w)).toArray s (am_n h' - am_n h) (am_z h' - am_z h) (am_A0 w)) (F0 m 0 ((lg_sl (as.map (am_v w)) ++ List.replicate (y.2.2.1 - (lg_sl (as.map (am_v w))).length) Slot.unset).toArray) []) := g
  rw [Nat.sub_self, Nat.sub_self] at g1
  exact g1
theorem am_sound (l : Launch) (w : am_Wd) : ∀ n, am_Sd l w n := by
  intro n
  induction n with
  | zero =>
    intro k y pc ls st h v h' hy hr
    cases hr
  | succ n ih =>
    intro k y pc ls st h v h' hy hr p e R s m args below meth c Q X n0 z0 F hRf hRl hn0 hz0 hRc hRs hret
    rw [am_run] at hr
    rw [hy] at hr
    dsimp only at hr
    split at hr
    · cases hr
    · rename_i i len hd
      split at hr
      · cases hr
      · rename_i q ha
        have hle := am_act_le ha
        have hle2 := am_run_le _ _ _ _ _ _ _ hr
        have a1 : am_n h ≤ am_n q.2.2.2 := hle.1
        have a2 : am_z h ≤ am_z q.2.2.2 := hle.2.1
        have a3 : am_n q.2.2.2 ≤ am_n h' := hle2.1
        have a4 : am_z q.2.2.2 ≤ am_z h' := hle2.2.1
        exact am_x_step F hRf hRl hd ha hn0 hz0 (by omega) (by omega) (ih k y _ _ _ _ v h' hy hr p e R s m args below meth c Q X n0 z0 F hRf hRl (by omega) (by omega) hRc hRs hret)
      · rename_i q ha
        split at hr
        · cases hr
        · rename_i y1 hy1
          split at hr
          · cases hr
          · rename_i r1 hr1
            obtain ⟨v1, h1⟩ := r1
            obtain ⟨c1, c2, c3⟩ := am_call_lt ha
            have hle := am_run_le _ _ _ _ _ _ _ hr1
            have hle2 := am_run_le _ _ _ _ _ _ _ hr
            have a1 : am_n h ≤ am_n h1 := hle.1
            have a2 : am_z h ≤ am_z h1 := hle.2.1
            have a3 : am_n h1 ≤ am_n h' := hle2.1
            have a4 : am_z h1 ≤ am_z h' := hle2.2.1
            have hM := am_met_of ih hy1 c1 c2 (c3 y1 hy1) hr1
            have b1 : am_n h1 - n0 ≤ R.cells := by omega
            have b2 : am_z h1 - z0 ≤ R.slots := by omega
            have b3 : n0 ≤ am_n h1 := by omega
            have b4 : z0 ≤ am_z h1 := by omega
            exact am_x_call F hRf hRl hd ha hy1 c1 hn0 hz0 hle b1 b2 hM (ih k y _ _ _ _ v h' hy hr p e R s m args below meth c Q X n0 z0 F hRf hRl b3 b4 hRc hRs hret)
      · rename_i v' ha
        have e1 := Option.some.inj hr
        cases e1
        exact hret i len pc ls st hd ha
/-- every method's run is its contract -/
theorem am_met {l : Launch} {w : am_Wd} {n k : Nat} {y : am_M} (hy : am_ms[k]? = some y) (hk : k < 298) {as : List Value} {h h' : am_H} {v : Option Value} (hok : as.all am_okv = true) (hlen : (am_args as).length ≤ y.2.2.1) (hrun : am_run n k 0 (am_ent y.2.2.1 as) [] h = some (v, h')) : am_Met l w y as h v h' := am_met_of (am_sound l w n) hy hk hok hlen hrun
