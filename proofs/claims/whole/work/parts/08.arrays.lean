/-! part 08: arrays, new cells -/
theorem am_tys_at {w : am_Wd} {tc : Nat} (h : tc ≤ 8) : (am_tys w)[tc]? = some (w.2.1 tc, am_at tc) := by
  unfold am_tys
  rw [List.getElem?_map, List.getElem?_range (by omega)]
  rfl
theorem am_tc_kd {h : am_H} {a tc : Nat} (ht : am_tc h a = some tc) : am_kd h a = some (.inr (tc, am_len h a)) := by
  unfold am_tc at ht
  unfold am_len
  split at ht
  · rename_i h1
    cases ht
    rw [h1]
  · cases ht
/-- an array's cell -/
theorem am_Rep.arr {w : am_Wd} {h : am_H} {H : Heap} {a tc : Nat} (hR : am_Rep w h H) (ht : am_tc h a = some tc) : tc ≤ 8 ∧ H[w.2.2.1 + a]? = some (vp_cell (w.2.1 tc) (am_len h a, am_row w tc h a)) := by
  obtain ⟨h1, h2⟩ := hR.2.2 a _ (am_tc_kd ht)
  exact ⟨h1, h2⟩
theorem am_Rep.ltc {w : am_Wd} {h : am_H} {H : Heap} {a tc : Nat} (hR : am_Rep w h H) (ht : am_tc h a = some tc) : a < am_CB := hR.lt (am_tc_kd ht)
theorem am_isAr {w : am_Wd} {s : State} {tc : Nat} (hK : va_K w.1 am_cl (am_tys w) s) (ht : tc ≤ 8) (n : Nat) (z : Nat → Value) : s.isArrayOf (arrV (w.2.1 tc) n z) (am_at tc) := (hK.2 tc _ (am_tys_at ht)).1 n z
/-- a store in an array -/
theorem am_Rep.ast {w : am_Wd} {h h' : am_H} {H H' : Heap} {a tc : Nat} (hR : am_Rep w h H) (ht : am_tc h a = some tc) (hb : am_but a h h') (hz : H'.size = H.size) (oq : ∀ q : Nat, q ≠ w.2.2.1 + a → H'[q]? = H[q]?)
    (he : H'[w.2.2.1 + a]? = some (vp_cell (w.2.1 tc) (am_len h a, am_row w tc h' a))) : am_Rep w h' H' := by
  refine hR.upd hb hz oq (fun kd hk => ?_)
  rw [am_tc_kd ht] at hk
  cases hk
  exact he
section AMA
variable {p : Program} {l : Launch} {e : Env} {R : Room} {s : State} {m : MethodId} {args : Array Value} {below : List Frame} {meth : Method} {c : Code} {Q : State → Prop} {w : am_Wd} {X : Nat × (Nat → Int32)} {y : am_M} {n0 z0 : Nat}
variable {pc : Nat} {ls : List (Option Value)} {st : List Value} {h : am_H} {k : am_C}
theorem am_x_rI (F : am_Fx w X y p s m args meth c) (hd : decode y.2.1 pc = .ok (.iaload, 1)) (ha : am_rI (pc + 1) ls st h = some (.inl k)) (G : am_G p l e R s m args below meth c Q w X y n0 z0 k) : am_G p l e R s m args below meth c Q w X y n0 z0 (pc, ls, st, h) := by
  obtain ⟨hx, hb, hr, hml, hown, hts, hlocks, hnm, hK, hC, hz⟩ := F
  unfold am_rI at ha
  split at ha
  · rename_i i a r
    split at ha
    · rename_i h3
      split at ha
      · rename_i h4
        obtain rfl := am_go_inv ha
        intro H locs lsC hR hS hL hX
        obtain ⟨-, hcell⟩ := hR.arr h3
        have hin := am_ix_vp h4
        show W p l e R s m args below meth c H locs (am_n h - n0) (am_z h - z0) Q (F0 m pc lsC (.int i :: .ref (am_a w a) :: r.map (am_v w)))
        rw [am_a_lt (hR.ltc h3)]
        exact W.iald (v := .int (h.1 a i.toNatClampNeg)) hx hb hcell (am_isAr hK (tc := 0) (by decide) (am_len h a) (fun j => .int (h.1 a j))) (fun q => by cases q) (by show ¬ (i < 0 ∨ (arrV _ _ _).slots.size ≤ _); rw [arrV_size]; exact hin) (by show (arrV _ _ _).slots[_]? = _; rw [arrV_read _ _ (Nat.not_le.mp fun q => hin (Or.inr q))]) rfl rfl hd (G H locs lsC hR hS hL hX)
      · cases ha
    · split at ha
      · rename_i h0
        obtain ⟨h0, hone, h1⟩ := h0
        obtain rfl := am_go_inv ha
        intro H locs lsC hR hS hL hX
        subst h0
        have hX' : h.2.2.2.2 = X := hX
        have hC5 := hC.2.2.2.2.1
        rw [← hX'] at hC5
        obtain ⟨hXs, hlt⟩ := hC5.resolve_left (by omega)
        exact va_sld hx hb hXs (Nat.lt_of_lt_of_le hlt hz) (Nat.not_le.mpr hlt) hS (am_ix_vp h1) hd (G H locs lsC hR hS hL hX)
      · cases ha
  · cases ha
theorem am_x_rB (F : am_Fx w X y p s m args meth c) (hd : decode y.2.1 pc = .ok (.baload, 1)) (ha : am_rB (pc + 1) ls st h = some (.inl k)) (G : am_G p l e R s m args below meth c Q w X y n0 z0 k) : am_G p l e R s m args below meth c Q w X y n0 z0 (pc, ls, st, h) := by
  obtain ⟨hx, hb, hr, hml, hown, hts, hlocks, hnm, hK, hC, hz⟩ := F
  unfold am_rB at ha
  split at ha
  · rename_i i a r
    split at ha
    · rename_i h3
      split at ha
      · rename_i h4
        obtain rfl := am_go_inv ha
        intro H locs lsC hR hS hL hX
        obtain ⟨-, hcell⟩ := hR.arr h3
        have hin := am_ix_vp h4
        show W p l e R s m args below meth c H locs (am_n h - n0) (am_z h - z0) Q (F0 m pc lsC (.int i :: .ref (am_a w a) :: r.map (am_v w)))
        rw [am_a_lt (hR.ltc h3)]
        exact W.bald (v := .int (am_byte (h.1 a i.toNatClampNeg))) hx hb hcell (am_isAr hK (tc := 1) (by decide) (am_len h a) (fun j => .int (am_byte (h.1 a j)))) (fun q => by cases q) (by show ¬ (i < 0 ∨ (arrV _ _ _).slots.size ≤ _); rw [arrV_size]; exact hin) (by show (arrV _ _ _).slots[_]? = _; rw [arrV_read _ _ (Nat.not_le.mp fun q => hin (Or.inr q))]) rfl rfl hd (G H locs lsC hR hS hL hX)
      · cases ha
    · split at ha
      · rename_i h3
        split at ha
        · rename_i h4
          obtain rfl := am_go_inv ha
          intro H locs lsC hR hS hL hX
          obtain ⟨-, hcell⟩ := hR.arr h3
          have hin := am_ix_vp h4
          show W p l e R s m args below meth c H locs (am_n h - n0) (am_z h - z0) Q (F0 m pc lsC (.int i :: .ref (am_a w a) :: r.map (am_v w)))
          rw [am_a_lt (hR.ltc h3)]
          exact W.zald (v := .int (h.1 a i.toNatClampNeg)) hx hb hcell (am_isAr hK (tc := 2) (by decide) (am_len h a) (fun j => .int (h.1 a j))) (fun q => by cases q) (by show ¬ (i < 0 ∨ (arrV _ _ _).slots.size ≤ _); rw [arrV_size]; exact hin) (by show (arrV _ _ _).slots[_]? = _; rw [arrV_read _ _ (Nat.not_le.mp fun q => hin (Or.inr q))]) rfl rfl hd (G H locs lsC hR hS hL hX)
        · cases ha
      · split at ha
        · rename_i q0 f hq
          split at ha
          · rename_i h4
            obtain rfl := am_go_inv ha
            intro H locs lsC hR hS hL hX
            have h1 : q0 = a := by simpa using List.find?_some hq
            have h2 := hC.2.2.1 _ (List.mem_of_find?_eq_some hq)
            rw [h1] at h2
            exact va_tb hx hb h2 hS (am_ix_vp h4) rfl hd (G H locs lsC hR hS hL hX)
          · cases ha
        · cases ha
  · cases ha
theorem am_x_rL (F : am_Fx w X y p s m args meth c) (hd : decode y.2.1 pc = .ok (.laload, 1)) (ha : am_rL (pc + 1) ls st h = some (.inl k)) (G : am_G p l e R s m args below meth c Q w X y n0 z0 k) : am_G p l e R s m args below meth c Q w X y n0 z0 (pc, ls, st, h) := by
  obtain ⟨hx, hb, hr, hml, hown, hts, hlocks, hnm, hK, hC, hz⟩ := F
  unfold am_rL at ha
  split at ha
  · rename_i i a r
    split at ha
    · rename_i h3
      split at ha
      · rename_i h4
        obtain rfl := am_go_inv ha
        intro H locs lsC hR hS hL hX
        obtain ⟨-, hcell⟩ := hR.arr h3
        have hin := am_ix_vp h4
        show W p l e R s m args below meth c H locs (am_n h - n0) (am_z h - z0) Q (F0 m pc lsC (.int i :: .ref (am_a w a) :: r.map (am_v w)))
        rw [am_a_lt (hR.ltc h3)]
        exact W.lald (v := .long (h.2.1 a i.toNatClampNeg)) hx hb hcell (am_isAr hK (tc := 3) (by decide) (am_len h a) (fun j => .long (h.2.1 a j))) (fun q => by cases q) (by show ¬ (i < 0 ∨ (arrV _ _ _).slots.size ≤ _); rw [arrV_size]; exact hin) (by show (arrV _ _ _).slots[_]? = _; rw [arrV_read _ _ (Nat.not_le.mp fun q => hin (Or.inr q))]) rfl rfl hd (G H locs lsC hR hS hL hX)
      · cases ha
    · cases ha
  · cases ha
theorem am_row_q {w : am_Wd} {h : am_H} {a tc : Nat} (h1 : 4 ≤ tc) : am_row w tc h a = .inr (.inr (.inr (.inr (fun j => (h.2.2.1 a j).map (am_a w))))) := by
  match tc, h1 with
  | n + 4, _ => rfl
theorem am_at_q {tc : Nat} (h1 : 4 ≤ tc) : ∃ C, am_at tc = .object C := by
  match tc, h1 with
  | 4, _ => exact ⟨_, rfl⟩
  | 5, _ => exact ⟨_, rfl⟩
  | 6, _ => exact ⟨_, rfl⟩
  | 7, _ => exact ⟨_, rfl⟩
  | n + 8, _ => exact ⟨_, rfl⟩
theorem am_v_rf {w : am_Wd} (r : Option Nat) : am_v w (va_rf r) = va_rf (r.map (am_a w)) := by cases r <;> rfl
theorem am_x_rA (F : am_Fx w X y p s m args meth c) (hd : decode y.2.1 pc = .ok (.aaload, 1)) (ha : am_rA (pc + 1) ls st h = some (.inl k)) (G : am_G p l e R s m args below meth c Q w X y n0 z0 k) : am_G p l e R s m args below meth c Q w X y n0 z0 (pc, ls, st, h) := by
  obtain ⟨hx, hb, hr, hml, hown, hts, hlocks, hnm, hK, hC, hz⟩ := F
  unfold am_rA at ha
  split at ha
  · rename_i i a r
    split at ha
    · rename_i tc h3
      split at ha
      · rename_i h1
        obtain ⟨h5, h6⟩ := h1
        split at ha
        · rename_i h4
          obtain rfl := am_go_inv ha
          intro H locs lsC hR hS hL hX
          obtain ⟨-, hcell⟩ := hR.arr h3
          have hin := am_ix_vp h4
          show W p l e R s m args below meth c H locs (am_n h - n0) (am_z h - z0) Q (F0 m pc lsC (.int i :: .ref (am_a w a) :: r.map (am_v w)))
          rw [am_a_lt (hR.ltc h3)]
          rw [am_row_q h5] at hcell
          obtain ⟨C, hCe⟩ := am_at_q h5
          have g := G H locs lsC hR hS hL hX
          have e1 : (am_v w (va_rf (h.2.2.1 a i.toNatClampNeg))) = va_rf ((h.2.2.1 a i.toNatClampNeg).map (am_a w)) := am_v_rf _
          exact W.aald (v := am_v w (va_rf (h.2.2.1 a i.toNatClampNeg))) (ty := am_at tc) hx hb hcell (am_isAr hK h6 (am_len h a) (fun j => va_rf ((h.2.2.1 a j).map (am_a w)))) (by rw [hCe]; rfl) (fun q => by cases q) (by show ¬ (i < 0 ∨ (arrV _ _ _).slots.size ≤ _); rw [arrV_size]; exact hin) (by show (arrV _ _ _).slots[_]? = _; rw [arrV_read _ _ (Nat.not_le.mp fun q => hin (Or.inr q)), e1]) rfl rfl hd g
        · cases ha
      · cases ha
    · split at ha
      · rename_i q0 C f hq
        split at ha
        · rename_i h4
          obtain rfl := am_go_inv ha
          intro H locs lsC hR hS hL hX
          have h1 : q0 = a := by simpa using List.find?_some hq
          have h2 := hC.2.2.1 _ (List.mem_of_find?_eq_some hq)
          rw [h1] at h2
          exact vb_tq hx hb h2 hS (am_ix_vp h4) rfl hd (G H locs lsC hR hS hL hX)
        · cases ha
      · cases ha
  · cases ha
theorem am_fin {h' : am_H} {H' : Heap} {locs' : List Loc} {lsC : Array Slot} {r : List Value} {o pc' : Nat} (hbt : am_but o h h') (g : W p l e R s m args below meth c H' locs' (am_n h' - n0) (am_z h' - z0) Q (F0 m pc' lsC (r.map (am_v w)))) : W p l e R s m args below meth c H' locs' (am_n h - n0) (am_z h - z0) Q (F0 m pc' lsC (r.map (am_v w))) := by
  rw [← hbt.n, ← hbt.z]
  exact g
theorem am_x_wI (F : am_Fx w X y p s m args meth c) (hd : decode y.2.1 pc = .ok (.iastore, 1)) (ha : am_wI (pc + 1) ls st h = some (.inl k)) (G : am_G p l e R s m args below meth c Q w X y n0 z0 k) : am_G p l e R s m args below meth c Q w X y n0 z0 (pc, ls, st, h) := by
  obtain ⟨hx, hb, hr, hml, hown, hts, hlocks, hnm, hK, hC, hz⟩ := F
  unfold am_wI at ha
  split at ha
  · rename_i v i a r
    split at ha
    · rename_i h3
      split at ha
      · rename_i h4
        obtain rfl := am_go_inv ha
        intro H locs lsC hR hS hL hX
        obtain ⟨-, hcell⟩ := hR.arr h3
        have hin := am_ix_vp h4
        show W p l e R s m args below meth c H locs (am_n h - n0) (am_z h - z0) Q (F0 m pc lsC (.int v :: .int i :: .ref (am_a w a) :: r.map (am_v w)))
        rw [am_a_lt (hR.ltc h3)]
        refine W.iast hx hb hcell (am_isAr hK (tc := 0) (by decide) (am_len h a) (fun j => .int (h.1 a j))) (fun q => by cases q) (by show ¬ (i < 0 ∨ (arrV _ _ _).slots.size ≤ _); rw [arrV_size]; exact hin) rfl rfl hd fun H' e1 e2 e3 => ?_
        refine am_fin am_but_sI (G H' _ lsC (hR.ast h3 am_but_sI e2 e3 ?_) (hS.put e2 e3 am_A0_at) hL hX)
        rw [e1]
        show some ((arrV _ _ _).setSlot _ (.int v)) = some (arrV _ _ (fun j => .int (am_up h.1 a i.toNatClampNeg v a j)))
        rw [arrV_store]
        congr 2
        funext q
        unfold updV am_up
        by_cases hq : q = i.toNatClampNeg
        · rw [if_pos hq, if_pos ⟨rfl, hq⟩]
        · rw [if_neg hq, if_neg (fun z => hq z.2)]
      · cases ha
    · cases ha
  · cases ha
theorem am_x_wL (F : am_Fx w X y p s m args meth c) (hd : decode y.2.1 pc = .ok (.lastore, 1)) (ha : am_wL (pc + 1) ls st h = some (.inl k)) (G : am_G p l e R s m args below meth c Q w X y n0 z0 k) : am_G p l e R s m args below meth c Q w X y n0 z0 (pc, ls, st, h) := by
  obtain ⟨hx, hb, hr, hml, hown, hts, hlocks, hnm, hK, hC, hz⟩ := F
  unfold am_wL at ha
  split at ha
  · rename_i v i a r
    split at ha
    · rename_i h3
      split at ha
      · rename_i h4
        obtain rfl := am_go_inv ha
        intro H locs lsC hR hS hL hX
        obtain ⟨-, hcell⟩ := hR.arr h3
        have hin := am_ix_vp h4
        show W p l e R s m args below meth c H locs (am_n h - n0) (am_z h - z0) Q (F0 m pc lsC (.long v :: .int i :: .ref (am_a w a) :: r.map (am_v w)))
        rw [am_a_lt (hR.ltc h3)]
        refine W.last hx hb hcell (am_isAr hK (tc := 3) (by decide) (am_len h a) (fun j => .long (h.2.1 a j))) (fun q => by cases q) (by show ¬ (i < 0 ∨ (arrV _ _ _).slots.size ≤ _); rw [arrV_size]; exact hin) rfl rfl hd fun H' e1 e2 e3 => ?_
        refine am_fin am_but_sL (G H' _ lsC (hR.ast h3 am_but_sL e2 e3 ?_) (hS.put e2 e3 am_A0_at) hL hX)
        rw [e1]
        show some ((arrV _ _ _).setSlot _ (.long v)) = some (arrV _ _ (fun j => .long (am_up h.2.1 a i.toNatClampNeg v a j)))
        rw [arrV_store]
        congr 2
        funext q
        unfold updV am_up
        by_cases hq : q = i.toNatClampNeg
        · rw [if_pos hq, if_pos ⟨rfl, hq⟩]
        · rw [if_neg hq, if_neg (fun z => hq z.2)]
      · cases ha
    · cases ha
  · cases ha
theorem am_byte2 (v : Int32) : am_byte (am_byte v) = am_byte v := by
  have h := pk_nb v
  exact Value.int.inj h
theorem am_x_wB (F : am_Fx w X y p s m args meth c) (hd : decode y.2.1 pc = .ok (.bastore, 1)) (ha : am_wB (pc + 1) ls st h = some (.inl k)) (G : am_G p l e R s m args below meth c Q w X y n0 z0 k) : am_G p l e R s m args below meth c Q w X y n0 z0 (pc, ls, st, h) := by
  obtain ⟨hx, hb, hr, hml, hown, hts, hlocks, hnm, hK, hC, hz⟩ := F
  unfold am_wB at ha
  split at ha
  · rename_i v i a r
    split at ha
    · rename_i h3
      split at ha
      · rename_i h4
        obtain rfl := am_go_inv ha
        intro H locs lsC hR hS hL hX
        obtain ⟨-, hcell⟩ := hR.arr h3
        have hin := am_ix_vp h4
        show W p l e R s m args below meth c H locs (am_n h - n0) (am_z h - z0) Q (F0 m pc lsC (.int v :: .int i :: .ref (am_a w a) :: r.map (am_v w)))
        rw [am_a_lt (hR.ltc h3)]
        refine W.bast hx hb hcell (am_isAr hK (tc := 1) (by decide) (am_len h a) (fun j => .int (am_byte (h.1 a j)))) (fun q => by cases q) (by show ¬ (i < 0 ∨ (arrV _ _ _).slots.size ≤ _); rw [arrV_size]; exact hin) rfl rfl hd fun H' e1 e2 e3 => ?_
        refine am_fin am_but_sI (G H' _ lsC (hR.ast h3 am_but_sI e2 e3 ?_) (hS.put e2 e3 am_A0_at) hL hX)
        rw [e1]
        show some ((arrV _ _ _).setSlot _ (.int (am_byte v))) = some (arrV _ _ (fun j => .int (am_byte (am_up h.1 a i.toNatClampNeg (am_byte v) a j))))
        rw [arrV_store]
        congr 2
        funext q
        unfold updV am_up
        by_cases hq : q = i.toNatClampNeg
        · rw [if_pos hq, if_pos ⟨rfl, hq⟩, am_byte2]
        · rw [if_neg hq, if_neg (fun z => hq z.2)]
      · cases ha
    · split at ha
      · rename_i h3
        split at ha
        · rename_i h4
          obtain ⟨h4, h5⟩ := h4
          obtain rfl := am_go_inv ha
          intro H locs lsC hR hS hL hX
          obtain ⟨-, hcell⟩ := hR.arr h3
          have hin := am_ix_vp h4
          show W p l e R s m args below meth c H locs (am_n h - n0) (am_z h - z0) Q (F0 m pc lsC (.int v :: .int i :: .ref (am_a w a) :: r.map (am_v w)))
          rw [am_a_lt (hR.ltc h3)]
          refine W.zast hx hb hcell (am_isAr hK (tc := 2) (by decide) (am_len h a) (fun j => .int (h.1 a j))) (fun q => by cases q) (by show ¬ (i < 0 ∨ (arrV _ _ _).slots.size ≤ _); rw [arrV_size]; exact hin) rfl rfl hd fun H' e1 e2 e3 => ?_
          refine am_fin am_but_sI (G H' _ lsC (hR.ast h3 am_but_sI e2 e3 ?_) (hS.put e2 e3 am_A0_at) hL hX)
          rw [e1, show narrow .boolean (.int v) = .int v by rcases h5 with rfl | rfl <;> rfl]
          show some ((arrV _ _ _).setSlot _ (.int v)) = some (arrV _ _ (fun j => .int (am_up h.1 a i.toNatClampNeg v a j)))
          rw [arrV_store]
          congr 2
          funext q
          unfold updV am_up
          by_cases hq : q = i.toNatClampNeg
          · rw [if_pos hq, if_pos ⟨rfl, hq⟩]
          · rw [if_neg hq, if_neg (fun z => hq z.2)]
        · cases ha
      · cases ha
  · cases ha
theorem am_x_al (F : am_Fx w X y p s m args meth c) (hd : decode y.2.1 pc = .ok (.arraylength, 1)) (ha : am_al (pc + 1) ls st h = some (.inl k)) (G : am_G p l e R s m args below meth c Q w X y n0 z0 k) : am_G p l e R s m args below meth c Q w X y n0 z0 (pc, ls, st, h) := by
  obtain ⟨hx, hb, hr, hml, hown, hts, hlocks, hnm, hK, hC, hz⟩ := F
  unfold am_al at ha
  split at ha
  · rename_i a r
    split at ha
    · rename_i tc h3
      split at ha
      · rename_i h6
        obtain rfl := am_go_inv ha
        intro H locs lsC hR hS hL hX
        obtain ⟨-, hcell⟩ := hR.arr h3
        show W p l e R s m args below meth c H locs (am_n h - n0) (am_z h - z0) Q (F0 m pc lsC (.ref (am_a w a) :: r.map (am_v w)))
        rw [am_a_lt (hR.ltc h3)]
        have hP : va_P w.1 am_cl [(w.2.2.1 + a, .inl (w.2.1 tc, am_len h a, am_row w tc h a))] H := fun j q hj => by
          cases j with
          | zero => cases hj; exact hcell
          | succ j => cases hj
        exact va_alen hx hb hK hP 0 tc rfl (am_tys_at h6) rfl hd (G H locs lsC hR hS hL hX)
      · cases ha
    · split at ha
      · rename_i h0
        obtain ⟨h0, hone⟩ := h0
        obtain rfl := am_go_inv ha
        intro H locs lsC hR hS hL hX
        subst h0
        have hX' : h.2.2.2.2 = X := hX
        have hC5 := hC.2.2.2.2.1
        rw [← hX'] at hC5
        obtain ⟨hXs, hlt⟩ := hC5.resolve_left (by omega)
        exact va_slen hx hb hXs (Nat.lt_of_lt_of_le hlt hz) (Nat.not_le.mpr hlt) hS hd (G H locs lsC hR hS hL hX)
      · split at ha
        · rename_i q hq
          obtain rfl := am_go_inv ha
          intro H locs lsC hR hS hL hX
          have h1 : q.1 = a := by simpa using List.find?_some hq
          have h2 := hC.2.2.1 _ (List.mem_of_find?_eq_some hq)
          rw [h1] at h2
          exact va_tlen hx hb h2 hS rfl hd (G H locs lsC hR hS hL hX)
        · cases ha
  · cases ha
end AMA
