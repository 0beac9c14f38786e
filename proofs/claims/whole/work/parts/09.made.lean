/-! part 09: cells that are made, copies, Math, Object's maker, constants of the pool, stores of references -/
theorem am_nn0 {z : Int32} (hz : ¬ z < 0) : z.toInt = (z.toNatClampNeg : Int) := by
  obtain ⟨j, hj, rfl⟩ := nI_of hz
  rw [nI_toInt hj, nI_clamp hj]
theorem am_n_nw {h : am_H} {kd : am_K} : am_n (am_nw h kd) = am_n h + 1 := by
  show (h.2.2.2.1 ++ [kd]).length = _
  rw [List.length_append]
  rfl
theorem am_z_nw {h : am_H} {kd : am_K} : am_z (am_nw h kd) = am_z h + am_sz kd := by
  show ((h.2.2.2.1 ++ [kd]).map am_sz).sum = _
  rw [List.map_append, List.sum_append]
  show _ + (am_sz kd + 0) = _
  rw [Nat.add_zero]
  rfl
theorem am_Rep.nw {w : am_Wd} {h : am_H} {H H' : Heap} {kd : am_K} (hR : am_Rep w h H) (hk : am_okk kd) (hn : am_n h + 1 < am_CB) (hz : H'.size = H.size + 1) (oq : ∀ q : Nat, q < H.size → H'[q]? = H[q]?)
    (he : va_at w.1 am_cl (w.2.2.1 + am_n h, am_e w (am_nw h kd) (am_n h) kd) H') : am_Rep w (am_nw h kd) H' := by
  refine ⟨by rw [hz, hR.1, am_n_nw]; omega, by rw [am_n_nw]; exact hn, fun i kd' hi => ?_⟩
  have hl := am_kd_lt hi
  rw [am_n_nw] at hl
  by_cases hin : i = am_n h
  · subst hin
    have h1 : (h.2.2.2.1 ++ [kd])[h.2.2.2.1.length]? = some kd' := hi
    rw [List.getElem?_append_right (Nat.le_refl _), Nat.sub_self] at h1
    have h2 : kd = kd' := Option.some.inj h1
    subst h2
    exact ⟨hk, he⟩
  · have hlt : i < h.2.2.2.1.length := by
      have : i < am_n h := by omega
      exact this
    have h1 : (h.2.2.2.1 ++ [kd])[i]? = some kd' := hi
    rw [List.getElem?_append_left hlt] at h1
    obtain ⟨h2, h3⟩ := hR.2.2 i kd' h1
    refine ⟨h2, ?_⟩
    have ne : ∀ {α : Type} (f : Nat → Nat → α) (d : α), (fun a b => if a = am_n h then d else f a b) i = f i := fun f d => by
      funext b
      show (if i = am_n h then d else f i b) = f i b
      rw [if_neg hin]
    rw [am_e_congr (h := h) (h' := am_nw h kd) (ne _ _) (ne _ _) (ne _ _)]
    exact h3.kept (oq _ (by rw [hR.1]; show w.2.2.1 + i < w.2.2.1 + am_n h; omega))
theorem am_S_nw {A : Nat → Prop} {H0 H H' : Heap} {locs : List Loc} (hS : va_S A H0 H locs) (hz : H'.size = H.size + 1) (oq : ∀ q : Nat, q < H.size → H'[q]? = H[q]?) : va_S A H0 H' locs :=
  ⟨by rw [hz]; exact Nat.le_trans hS.1 (Nat.le_succ _), fun q h1 h2 => (oq q (Nat.lt_of_lt_of_le h1 hS.1)).trans (hS.2.1 q h1 h2), hS.2.2⟩
theorem am_nw_I {h : am_H} {kd : am_K} {j : Nat} : (am_nw h kd).1 (am_n h) j = 0 := if_pos rfl
theorem am_nw_L {h : am_H} {kd : am_K} {j : Nat} : (am_nw h kd).2.1 (am_n h) j = 0 := if_pos rfl
theorem am_nw_R {h : am_H} {kd : am_K} {j : Nat} : (am_nw h kd).2.2.1 (am_n h) j = none := if_pos rfl
theorem am_nw_gv {w : am_Wd} {h : am_H} {kd : am_K} {ci j : Nat} (hc : ci < 12) (hj : j < am_nf ci) : am_v w (am_gv (am_ty ci j) (am_nw h kd) (am_n h) j) = defaultValue (am_ty ci j) := by
  rcases am_mtys ci hc j hj with (h1 | h1 | h1) | ⟨h1, h2⟩
  · rw [h1]; show Value.int ((am_nw h kd).1 (am_n h) j) = _; rw [am_nw_I]; rfl
  · rw [h1]; show Value.int ((am_nw h kd).1 (am_n h) j) = _; rw [am_nw_I]; rfl
  · rw [h1]; show Value.long ((am_nw h kd).2.1 (am_n h) j) = _; rw [am_nw_L]; rfl
  · rw [h1]
    split at h2
    · rename_i e; rw [e]; show am_v w (va_rf ((am_nw h kd).2.2.1 (am_n h) j)) = _; rw [am_nw_R]; rfl
    · rename_i e; rw [e]; show am_v w (va_rf ((am_nw h kd).2.2.1 (am_n h) j)) = _; rw [am_nw_R]; rfl
    · cases h2
theorem am_atci : ∀ tc, tc ≤ 8 → 4 ≤ tc → am_at tc = .object (am_cn (am_ciOf tc)) := by decide +kernel
section AMN
variable {p : Program} {l : Launch} {e : Env} {R : Room} {s : State} {m : MethodId} {args : Array Value} {below : List Frame} {meth : Method} {c : Code} {Q : State → Prop} {w : am_Wd} {X : Nat × (Nat → Int32)} {y : am_M} {n0 z0 : Nat}
variable {pc : Nat} {ls : List (Option Value)} {st : List Value} {h : am_H} {k : am_C}
theorem am_x_new {idx : Nat} (F : am_Fx w X y p s m args meth c) (hd : decode y.2.1 pc = .ok (.new idx, 3)) (ha : am_new y idx pc ls st h = some (.inl k)) (hn0 : n0 ≤ am_n h) (hz0 : z0 ≤ am_z h) (hRc : am_n k.2.2.2 - n0 ≤ R.cells) (hRs : am_z k.2.2.2 - z0 ≤ R.slots) (G : am_G p l e R s m args below meth c Q w X y n0 z0 k) : am_G p l e R s m args below meth c Q w X y n0 z0 (pc, ls, st, h) := by
  obtain ⟨hx, hb, hr, hml, hown, hts, hlocks, hnm, hK, hC, hz⟩ := F
  unfold am_new at ha
  split at ha
  · rename_i ci wn hl
    split at ha
    · rename_i hcb
      obtain rfl := am_go_inv ha
      intro H locs lsC hR hS hL hX
      obtain ⟨h1, h2, h3, h4⟩ := am_clt_ok hl
      have hc := am_cl_at h1
      have hKn := hK.1 ci _ hc
      have en : am_n (am_nw h (.inl ci)) = am_n h + 1 := am_n_nw
      have ez : am_z (am_nw h (.inl ci)) = am_z h + am_nf ci := am_z_nw
      have hRc' : am_n h + 1 - n0 ≤ R.cells := by rw [← en]; exact hRc
      have hRs' : am_z h + am_nf ci - z0 ≤ R.slots := by rw [← ez]; exact hRs
      have hc1 : am_n h - n0 + 1 ≤ R.cells := by omega
      have hc2 : am_z h - z0 + am_nf ci ≤ R.slots := by omega
      refine W.newcK hx hb hown (hts _ h2) (hts _ h3) (hts _ h4) rfl hd hc1 hc2 hKn.2.1 rfl fun H' kC hkC e1 e2 e3 => ?_
      have hat : va_at w.1 am_cl (w.2.2.1 + am_n h, am_e w (am_nw h (.inl ci)) (am_n h) (.inl ci)) H' := by
        refine ⟨_, hc, ?_⟩
        rw [hR.1] at e1
        exact (u_born (am_ty ci) hts (am_lay_ok h1) hKn hkC e1 (am_typ_ok ci h1)).to (fun j hj => by rw [am_fs_V hj, am_nw_gv h1 hj])
      have g := G H' locs lsC (hR.nw h1 hcb e2 e3 hat) (am_S_nw hS e2 e3) hL hX
      have e5 : am_n h + 1 - n0 = am_n h - n0 + 1 := by omega
      have e6 : am_z h + am_nf ci - z0 = am_z h - z0 + am_nf ci := by omega
      have e7 : am_a w (am_n h) = H.size := by rw [am_a_lt (Nat.lt_trans (Nat.lt_succ_self _) hcb), hR.1]
      have g1 : W p l e R s m args below meth c H' locs (am_n (am_nw h (.inl ci)) - n0) (am_z (am_nw h (.inl ci)) - z0) Q (F0 m (pc + 3) lsC (.ref (am_a w (am_n h)) :: st.map (am_v w))) := g
      rw [en, ez, e5, e6, e7] at g1
      exact g1
    · cases ha
  · cases ha
theorem am_x_na {a : ArrayType} (F : am_Fx w X y p s m args meth c) (hd : decode y.2.1 pc = .ok (.newarray a, 2)) (ha : am_na a pc ls st h = some (.inl k)) (hn0 : n0 ≤ am_n h) (hz0 : z0 ≤ am_z h) (hRc : am_n k.2.2.2 - n0 ≤ R.cells) (hRs : am_z k.2.2.2 - z0 ≤ R.slots) (G : am_G p l e R s m args below meth c Q w X y n0 z0 k) : am_G p l e R s m args below meth c Q w X y n0 z0 (pc, ls, st, h) := by
  obtain ⟨hx, hb, hr, hml, hown, hts, hlocks, hnm, hK, hC, hz⟩ := F
  unfold am_na at ha
  split at ha
  · rename_i n r
    split at ha
    · rename_i tc ht
      split at ha
      · rename_i hcnd
        obtain ⟨hcb, hnn, hbig⟩ := hcnd
        obtain rfl := am_go_inv ha
        intro H locs lsC hR hS hL hX
        obtain ⟨h1, h2, h3⟩ := am_nt_ok ht
        have en : am_n (am_nw h (.inr (tc, n.toNatClampNeg))) = am_n h + 1 := am_n_nw
        have ez : am_z (am_nw h (.inr (tc, n.toNatClampNeg))) = am_z h + n.toNatClampNeg := am_z_nw
        have hRc' : am_n h + 1 - n0 ≤ R.cells := by rw [← en]; exact hRc
        have hRs' : am_z h + n.toNatClampNeg - z0 ≤ R.slots := by rw [← ez]; exact hRs
        have hc1 : am_n h - n0 + 1 ≤ R.cells := by omega
        have hc2 : am_z h - z0 + n.toNatClampNeg ≤ R.slots := by omega
        have hby : n.toNatClampNeg * componentBytes (newarray.typeOf a) ≤ 536870912 := by
          have : componentBytes (newarray.typeOf a) ≤ 8 := by cases a <;> decide
          calc n.toNatClampNeg * componentBytes (newarray.typeOf a) ≤ 67108864 * 8 := Nat.mul_le_mul hbig this
            _ ≤ 536870912 := by decide
        refine va_newaK hx hb (hts _ h1) rfl hd rfl hnn rfl hby hc1 hc2 rfl fun H' cA e1 e2 e3 hAr hNm => ?_
        have hcA : cA = w.2.1 tc := by
          have q := (hK.2 tc _ (am_tys_at (by omega))).2
          rw [h3] at q
          have q2 : s.vm.findClass ("[" ++ (newarray.typeOf a).toString) = some (w.2.1 tc) := by cases a <;> exact q
          exact Option.some.inj (hNm.symm.trans q2)
        subst hcA
        have hat : va_at w.1 am_cl (w.2.2.1 + am_n h, am_e w (am_nw h (.inr (tc, n.toNatClampNeg))) (am_n h) (.inr (tc, n.toNatClampNeg))) H' := by
          rw [hR.1] at e1
          show H'[w.2.2.1 + am_n h]? = some (vp_cell (w.2.1 tc) (n.toNatClampNeg, am_row w tc (am_nw h (.inr (tc, n.toNatClampNeg))) (am_n h)))
          rw [e1]
          congr 1
          cases a with
          | int => cases ht; rw [show am_row w 0 (am_nw h (.inr (0, n.toNatClampNeg))) (am_n h) = .inl ((am_nw h (.inr (0, n.toNatClampNeg))).1 (am_n h)) from rfl, vp_cell_i]; congr 1; funext j; rw [am_nw_I]; rfl
          | byte => cases ht; rw [show am_row w 1 (am_nw h (.inr (1, n.toNatClampNeg))) (am_n h) = .inl ((fun j => am_byte ((am_nw h (.inr (1, n.toNatClampNeg))).1 (am_n h) j))) from rfl, vp_cell_i]; congr 1; funext j; rw [am_nw_I]; rfl
          | boolean => cases ht; rw [show am_row w 2 (am_nw h (.inr (2, n.toNatClampNeg))) (am_n h) = .inl ((am_nw h (.inr (2, n.toNatClampNeg))).1 (am_n h)) from rfl, vp_cell_i]; congr 1; funext j; rw [am_nw_I]; rfl
          | long => cases ht; rw [show am_row w 3 (am_nw h (.inr (3, n.toNatClampNeg))) (am_n h) = .inr (.inl ((am_nw h (.inr (3, n.toNatClampNeg))).2.1 (am_n h))) from rfl, vp_cell_l]; congr 1; funext j; rw [am_nw_L]; rfl
          | _ => cases ht
        have g := G H' locs lsC (hR.nw (by show tc ≤ 8; omega) hcb e2 e3 hat) (am_S_nw hS e2 e3) hL hX
        have e5 : am_n h + 1 - n0 = am_n h - n0 + 1 := by omega
        have e6 : am_z h + n.toNatClampNeg - z0 = am_z h - z0 + n.toNatClampNeg := by omega
        have e7 : am_a w (am_n h) = H.size := by rw [am_a_lt (Nat.lt_trans (Nat.lt_succ_self _) hcb), hR.1]
        have g1 : W p l e R s m args below meth c H' locs (am_n (am_nw h (.inr (tc, n.toNatClampNeg))) - n0) (am_z (am_nw h (.inr (tc, n.toNatClampNeg))) - z0) Q (F0 m (pc + 2) lsC (.ref (am_a w (am_n h)) :: r.map (am_v w))) := g
        rw [en, ez, e5, e6, e7] at g1
        exact g1
      · cases ha
    · cases ha
  · cases ha
theorem am_x_an {idx : Nat} (F : am_Fx w X y p s m args meth c) (hd : decode y.2.1 pc = .ok (.anewarray idx, 3)) (ha : am_an y idx pc ls st h = some (.inl k)) (hn0 : n0 ≤ am_n h) (hz0 : z0 ≤ am_z h) (hRc : am_n k.2.2.2 - n0 ≤ R.cells) (hRs : am_z k.2.2.2 - z0 ≤ R.slots) (G : am_G p l e R s m args below meth c Q w X y n0 z0 k) : am_G p l e R s m args below meth c Q w X y n0 z0 (pc, ls, st, h) := by
  obtain ⟨hx, hb, hr, hml, hown, hts, hlocks, hnm, hK, hC, hz⟩ := F
  unfold am_an at ha
  split at ha
  · rename_i n r
    split at ha
    · rename_i ci wn hl
      split at ha
      · rename_i tc ht
        split at ha
        · rename_i hcnd
          obtain ⟨hcb, hnn, hbig⟩ := hcnd
          obtain rfl := am_go_inv ha
          intro H locs lsC hR hS hL hX
          obtain ⟨h1, h2, -, -⟩ := am_clt_ok hl
          obtain ⟨t1, t2, t3, t4⟩ := am_tc_ok ht
          have hov := hC.2.2.2.2.2.2.2 ci t1
          have en : am_n (am_nw h (.inr (tc, n.toNatClampNeg))) = am_n h + 1 := am_n_nw
          have ez : am_z (am_nw h (.inr (tc, n.toNatClampNeg))) = am_z h + n.toNatClampNeg := am_z_nw
          have hRc' : am_n h + 1 - n0 ≤ R.cells := by rw [← en]; exact hRc
          have hRs' : am_z h + n.toNatClampNeg - z0 ≤ R.slots := by rw [← ez]; exact hRs
          have hc1 : am_n h - n0 + 1 ≤ R.cells := by omega
          have hc2 : am_z h - z0 + n.toNatClampNeg ≤ R.slots := by omega
          refine W.anew hx hb hown (hts _ h2) (va_AO.use hov) rfl hd rfl hnn (by omega) hc1 hc2 fun cA kA comp f1 f2 f3 f4 => ?_
          have hcA : cA = w.2.1 tc := by
            have q := (hK.2 tc _ (am_tys_at t3)).2
            rw [t4] at q
            obtain ⟨kA', comp', -, -, -, q4⟩ := q
            exact Option.some.inj (f1.symm.trans q4)
          subst hcA
          have e2 : (H.push { cls := w.2.1 tc, slots := Array.replicate n.toNatClampNeg .null, vm := .none }).size = H.size + 1 := by simp
          have e3 : ∀ q : Nat, q < H.size → (H.push { cls := w.2.1 tc, slots := Array.replicate n.toNatClampNeg .null, vm := .none })[q]? = H[q]? := fun q hq => by rw [Array.getElem?_push, if_neg (Nat.ne_of_lt hq)]
          have hat : va_at w.1 am_cl (w.2.2.1 + am_n h, am_e w (am_nw h (.inr (tc, n.toNatClampNeg))) (am_n h) (.inr (tc, n.toNatClampNeg))) (H.push { cls := w.2.1 tc, slots := Array.replicate n.toNatClampNeg .null, vm := .none }) := by
            show (H.push _)[w.2.2.1 + am_n h]? = some (vp_cell (w.2.1 tc) (n.toNatClampNeg, am_row w tc (am_nw h (.inr (tc, n.toNatClampNeg))) (am_n h)))
            rw [← hR.1, Array.getElem?_push, if_pos rfl, am_row_q t2, arrV_new, vp_cell_q]
            congr 2
            funext j
            rw [am_nw_R]
            rfl
          have g := G _ locs lsC (hR.nw t3 hcb e2 e3 hat) (am_S_nw hS e2 e3) hL hX
          have e5 : am_n h + 1 - n0 = am_n h - n0 + 1 := by omega
          have e6 : am_z h + n.toNatClampNeg - z0 = am_z h - z0 + n.toNatClampNeg := by omega
          have e7 : am_a w (am_n h) = H.size := by rw [am_a_lt (Nat.lt_trans (Nat.lt_succ_self _) hcb), hR.1]
          have g1 : W p l e R s m args below meth c (H.push { cls := w.2.1 tc, slots := Array.replicate n.toNatClampNeg .null, vm := .none }) locs (am_n (am_nw h (.inr (tc, n.toNatClampNeg))) - n0) (am_z (am_nw h (.inr (tc, n.toNatClampNeg))) - z0) Q (F0 m (pc + 3) lsC (.ref (am_a w (am_n h)) :: r.map (am_v w))) := g
          rw [en, ez, e5, e6, e7] at g1
          exact g1
        · cases ha
      · cases ha
    · cases ha
  · cases ha
theorem am_x_wA (F : am_Fx w X y p s m args meth c) (hd : decode y.2.1 pc = .ok (.aastore, 1)) (ha : am_wA (pc + 1) ls st h = some (.inl k)) (G : am_G p l e R s m args below meth c Q w X y n0 z0 k) : am_G p l e R s m args below meth c Q w X y n0 z0 (pc, ls, st, h) := by
  obtain ⟨hx, hb, hr, hml, hown, hts, hlocks, hnm, hK, hC, hz⟩ := F
  unfold am_wA at ha
  split at ha
  · rename_i v i a r
    split at ha
    · rename_i tc h3
      split at ha
      · rename_i hcnd
        obtain ⟨h5, h6, hkv, h4⟩ := hcnd
        obtain rfl := am_go_inv ha
        intro H locs lsC hR hS hL hX
        have h2 := hR.ltc h3
        have hv2 := hR.lt hkv
        obtain ⟨-, hcell⟩ := hR.arr h3
        have hin := am_ix_vp h4
        obtain ⟨hci, r0, hr0, cellV, g1, g2, g3, -⟩ := hR.2.2 v _ hkv
        have hc := am_cl_at hci
        have hcls := (hK.1 (am_ciOf tc) _ hc).2
        have hat := am_atci tc h6 h5
        have hra := (hK.2 tc _ (am_tys_at h6)).2
        rw [hat] at hra
        obtain ⟨kA, comp, k1, k2, k3, -⟩ := hra
        have hcomp : comp = w.1.1 (am_ciOf tc) := Option.some.inj (k3.symm.trans hcls.1)
        subst hcomp
        obtain ⟨kC, hkC, -⟩ := hcls.2
        show W p l e R s m args below meth c H locs (am_n h - n0) (am_z h - z0) Q (F0 m pc lsC (.ref (am_a w v) :: .int i :: .ref (am_a w a) :: r.map (am_v w)))
        rw [am_a_lt h2, am_a_lt hv2]
        rw [am_row_q h5] at hcell
        refine W.aast hx hb hcell (fun q h => by cases h) (fun h => by cases h) k1 k2 rfl hkC ⟨fun q => hin (Or.inl q), by show _ < (arrV _ _ _).slots.size; rw [arrV_size]; exact Nat.not_le.mp fun q => hin (Or.inr q)⟩ g1 (fun q h => by rw [g3] at h; cases h) (by rw [g2]; exact hkC) (by rw [g2]; exact va_assign hcls) rfl rfl hd fun H' e1 e2 e3 => ?_
        refine am_fin am_but_sR (G H' _ lsC (hR.ast h3 am_but_sR e2 e3 ?_) (hS.put e2 e3 am_A0_at) hL hX)
        rw [e1, am_row_q h5]
        show some ((arrV _ _ _).setSlot _ _) = some (arrV _ _ (fun j => va_rf ((am_up h.2.2.1 a i.toNatClampNeg (some v) a j).map (am_a w))))
        rw [arrV_store]
        congr 2
        funext q
        unfold updV am_up
        by_cases hq : q = i.toNatClampNeg
        · rw [if_pos hq, if_pos ⟨rfl, hq⟩]
          show Value.ref _ = Value.ref (am_a w v)
          rw [am_a_lt hv2]
        · rw [if_neg hq, if_neg (fun z => hq z.2)]
      · cases ha
    · cases ha
  · cases ha
theorem am_w8_map (r : List Value) : ((r.map (am_v w)).map fun v => v.category).sum = am_w8 r := by
  unfold am_w8
  rw [List.map_map]
  congr 1
  apply List.map_congr_left
  intro v _
  exact am_v_cat
theorem am_x_oi {idx : Nat} {u : Nat × Nat} (F : am_Fx w X y p s m args meth c) (hRf : am_rf y ≤ R.frames) (hRl : am_rl y ≤ R.locals) (hd : decode y.2.1 pc = .ok (.invokespecial idx, 3)) (hl : am_lk am_mlt (am_own y) idx = some (3, u)) (ha : am_oi y pc ls st h = some (.inl k)) (G : am_G p l e R s m args below meth c Q w X y n0 z0 k) : am_G p l e R s m args below meth c Q w X y n0 z0 (pc, ls, st, h) := by
  obtain ⟨hx, hb, hr, hml, hown, hts, hlocks, hnm, hK, hC, hz⟩ := F
  unfold am_oi at ha
  split at ha
  · rename_i o r
    split at ha
    · rename_i hcnd
      obtain rfl := am_go_inv ha
      intro H locs lsC hR hS hL hX
      have hw : am_isW u.2 (.methodLink (am_on.getD (am_own y) "") idx objectInit) = true := am_ml_ok hl
      exact W.objInit hx hb hown (hts _ (am_isW_in hw)) (hts _ (am_isW_in am_obj_all.1)) (hts _ (am_isW_in am_obj_all.2)) rfl (by rw [hml]; exact hL.2.1) rfl hd (Nat.le_trans hcnd.1 hRf) (by show 2 * 0 + ((r.map (am_v w)).map fun v => v.category).sum + 12 ≤ _; rw [am_w8_map]; omega) (G H locs lsC hR hS hL hX)
    · cases ha
  · cases ha
theorem am_x_mt {idx kind : Nat} {u : Nat × Nat} (F : am_Fx w X y p s m args meth c) (hRf : am_rf y ≤ R.frames) (hRl : am_rl y ≤ R.locals) (hd : decode y.2.1 pc = .ok (.invokestatic idx, 3)) (hk : kind = 6 ∨ kind = 7 ∨ kind = 8) (hl : am_lk am_mlt (am_own y) idx = some (kind, u)) (ha : am_mt y kind pc ls st h = some (.inl k)) (hRc : am_n h - n0 ≤ R.cells) (hRs : am_z h - z0 ≤ R.slots) (G : am_G p l e R s m args below meth c Q w X y n0 z0 k) : am_G p l e R s m args below meth c Q w X y n0 z0 (pc, ls, st, h) := by
  obtain ⟨hx, hb, hr, hml, hown, hts, hlocks, hnm, hK, hC, hz⟩ := F
  have hw := am_ml_ok hl
  unfold am_mt at ha
  split at ha
  · rename_i hk8
    subst hk8
    split at ha
    · rename_i a r
      split at ha
      · rename_i hcnd
        obtain rfl := am_go_inv ha
        intro H locs lsC hR hS hL hX
        obtain ⟨m1, m2, m3⟩ := am_math_abs
        exact va_mabs hx hb (by rw [hml]; exact hL.2.1.symm) hown (hts _ (am_isW_in hw)) (hts _ (am_isW_in m2)) (hts _ (am_isW_in m3)) (hts _ (am_isW_in m1)) (Nat.le_trans hcnd.1 hRf) (by rw [am_w8_map]; omega) hRc hRs hd (G H locs lsC hR hS hL hX)
      · cases ha
    · cases ha
  · rename_i hk8
    split at ha
    · rename_i b a r
      split at ha
      · rename_i hcnd
        split at ha
        · rename_i hk6
          subst hk6
          obtain rfl := am_go_inv ha
          intro H locs lsC hR hS hL hX
          obtain ⟨m1, m2, m3⟩ := am_math_min
          exact va_mmin hx hb (by rw [hml]; exact hL.2.1.symm) hown (hts _ (am_isW_in hw)) (hts _ (am_isW_in m2)) (hts _ (am_isW_in m3)) (hts _ (am_isW_in m1)) (Nat.le_trans hcnd.1 hRf) (by rw [am_w8_map]; omega) hRc hRs hd (G H locs lsC hR hS hL hX)
        · rename_i hk6
          obtain rfl : kind = 7 := by omega
          obtain rfl := am_go_inv ha
          intro H locs lsC hR hS hL hX
          obtain ⟨m1, m2, m3⟩ := am_math_max
          exact va_mmax hx hb (by rw [hml]; exact hL.2.1.symm) hown (hts _ (am_isW_in hw)) (hts _ (am_isW_in m2)) (hts _ (am_isW_in m3)) (hts _ (am_isW_in m1)) (Nat.le_trans hcnd.1 hRf) (by rw [am_w8_map]; omega) hRc hRs hd (G H locs lsC hR hS hL hX)
      · cases ha
    · cases ha
theorem am_but_cp {h : am_H} {s0 sp d dp n : Nat} : am_but d h (am_cp h s0 sp d dp n) := ⟨fun i hi => ⟨by funext b; show (if i = d ∧ _ then _ else _) = _; rw [if_neg (fun q => hi q.1)], rfl, rfl⟩, rfl⟩
theorem am_cp_row {h : am_H} {s0 sp d dp n : Nat} : (am_cp h s0 sp d dp n).1 d = va_cpy (h.1 s0) (h.1 d) sp dp n := by
  funext b
  show (if d = d ∧ dp ≤ b ∧ b < dp + n then _ else _) = _
  unfold va_cpy
  by_cases hq : dp ≤ b ∧ b < dp + n
  · rw [if_pos ⟨rfl, hq⟩, if_pos hq]
  · rw [if_neg (fun z => hq z.2), if_neg hq]
theorem am_x_ac {idx : Nat} {u : Nat × Nat} (F : am_Fx w X y p s m args meth c) (hRf : am_rf y ≤ R.frames) (hRl : am_rl y ≤ R.locals) (hd : decode y.2.1 pc = .ok (.invokestatic idx, 3)) (hl : am_lk am_mlt (am_own y) idx = some (4, u)) (ha : am_ac y pc ls st h = some (.inl k)) (G : am_G p l e R s m args below meth c Q w X y n0 z0 k) : am_G p l e R s m args below meth c Q w X y n0 z0 (pc, ls, st, h) := by
  obtain ⟨hx, hb, hr, hml, hown, hts, hlocks, hnm, hK, hC, hz⟩ := F
  unfold am_ac at ha
  split at ha
  · rename_i n dp d sp s0 r
    split at ha
    · rename_i hcnd
      obtain ⟨c1, c2, c5, c6, c7, c8, c9, c10, c11⟩ := hcnd
      obtain rfl := am_go_inv ha
      intro H locs lsC hR hS hL hX
      have hw : am_isW u.2 (.methodLink (am_on.getD (am_own y) "") idx arraycopyName) = true := am_ml_ok hl
      obtain ⟨y1, y2, y3⟩ := am_sys_all
      -- the kind and the value that it keeps
      obtain ⟨tc, mk, htd, hts0, htc, hty, hrow, hfit, hprim⟩ : ∃ (tc : Nat) (mk : Int32 → Int32), am_tc h d = some tc ∧ am_tc h s0 = some tc ∧ tc ≤ 8 ∧ (∀ (h2 : am_H) (i : Nat) (N : Nat), vp_cell (w.2.1 tc) (N, am_row w tc h2 i) = arrV (w.2.1 tc) N (fun j => .int (mk (h2.1 i j)))) ∧ True ∧ (∀ a : Int32, fits (am_at tc) (.int (mk a)) = true) ∧ refKind (am_at tc) = false := by
        rcases c6 with q | q
        · exact ⟨0, fun a => a, q, c5.trans q, by decide, fun _ _ _ => rfl, trivial, fun _ => rfl, rfl⟩
        · exact ⟨1, fun a => am_byte a, q, c5.trans q, by decide, fun _ _ _ => rfl, trivial, fun a => pk_fb a, rfl⟩
      have c3 := hR.ltc hts0
      have c4 := hR.ltc htd
      obtain ⟨-, hcd⟩ := hR.arr htd
      obtain ⟨-, hcs⟩ := hR.arr hts0
      rw [hty] at hcd hcs
      show W p l e R s m args below meth c H locs (am_n h - n0) (am_z h - z0) Q (F0 m pc lsC (.int n :: .int dp :: .ref (am_a w d) :: .int sp :: .ref (am_a w s0) :: r.map (am_v w)))
      rw [am_a_lt c3, am_a_lt c4]
      intro T hT Xs
      obtain ⟨-, k0, hk0, cm0, hkk0⟩ := am_isAr hK htc (am_len h s0) (fun j => .int (mk (h.1 s0 j)))
      obtain ⟨-, k1, hk1, cm1, hkk1⟩ := am_isAr hK htc (am_len h d) (fun j => .int (mk (h.1 d j)))
      have g0 : ∀ i, i < n.toNatClampNeg → (arrV (w.2.1 tc) (am_len h s0) (fun j => .int (mk (h.1 s0 j)))).slots.getD (sp.toNatClampNeg + i) .null = .int (mk (h.1 s0 (sp.toNatClampNeg + i))) := fun i hi => by
        rw [Array.getD_eq_getD_getElem?, arrV_read _ _ (by omega)]
        rfl
      obtain ⟨vm', X', step⟩ := Xs.arraycopy hx hown (hts _ (am_isW_in hw)) (hts _ (am_isW_in y1)) (hts _ (am_isW_in y2)) (hts _ (am_isW_in y3)) (src := w.2.2.1 + s0) (dst := w.2.2.1 + d) (srcPos := sp) (destPos := dp) (n := n)
        (by rw [hT]; exact hcs) (by rw [hT]; exact hcd) (fun _ q => by cases q) (fun _ q => by cases q) (fun q => by cases q) (fun q => by cases q) hk0 hk1 hkk0 hkk1 (by simp [hprim]) c7 c8 c9
        (by rw [am_nn0 c7, am_nn0 c9, arrV_size]; omega) (by rw [am_nn0 c8, am_nn0 c9, arrV_size]; omega)
        (fun vm₁ _ i hi => by rw [g0 i hi]; exact ⟨hfit _, trivial⟩)
        (g := F0 m pc lsC (.int n :: .int dp :: .ref (w.2.2.1 + d) :: .int sp :: .ref (w.2.2.1 + s0) :: r.map (am_v w))) rfl (by rw [hml]; exact hL.2.1) (rest := r.map (am_v w)) rfl (by rw [hb]; exact hd) (Nat.le_trans c1 hRf) (by show 2 * 0 + _ + _ ≤ _; rw [am_w8_map]; omega)
      have e1 : copied (arrV (w.2.1 tc) (am_len h s0) (fun j => .int (mk (h.1 s0 j)))) (arrV (w.2.1 tc) (am_len h d) (fun j => .int (mk (h.1 d j)))) sp dp n = arrV (w.2.1 tc) (am_len h d) (fun j => .int (mk (va_cpy (h.1 s0) (h.1 d) sp.toNatClampNeg dp.toNatClampNeg n.toNatClampNeg j))) := va_copied (fun z => .int (mk z)) _ _ (h.1 s0) (h.1 d) c10
      rw [e1] at X' step
      have hlt : w.2.2.1 + d < H.size := (Array.getElem?_eq_some_iff.mp hcd).1
      have oq : ∀ (cc : Cell) (q : Nat), q ≠ w.2.2.1 + d → (H.setIfInBounds (w.2.2.1 + d) cc)[q]? = H[q]? := fun cc q hq => by simp [Array.getElem?_setIfInBounds, Ne.symm hq]
      have hzz : ∀ cc : Cell, (H.setIfInBounds (w.2.2.1 + d) cc).size = H.size := fun cc => by simp
      have g := G (H.setIfInBounds (w.2.2.1 + d) (arrV (w.2.1 tc) (am_len h d) (fun j => .int (mk (va_cpy (h.1 s0) (h.1 d) sp.toNatClampNeg dp.toNatClampNeg n.toNatClampNeg j))))) _ lsC
        (hR.ast htd am_but_cp (hzz _) (oq _) (by rw [hty, am_cp_row]; simp [Array.getElem?_setIfInBounds, hlt]))
        (⟨by rw [hzz]; exact hS.1, fun q g1 g2 => by rw [oq _ q (fun e => g2 (by rw [e]; exact am_A0_at))]; exact hS.2.1 q g1 g2, fun q hq => by
          rcases List.mem_append.mp hq with z | z
          · exact hS.2.2 q z
          · obtain ⟨zz, -, hzz⟩ := List.mem_map.mp z
            rw [← hzz]
            exact am_A0_at⟩ : va_S (am_A0 w) s.heap _ (locs ++ ((arrV (w.2.1 tc) (am_len h s0) (fun j => .int (mk (h.1 s0 j)))).stretch sp.toNatClampNeg n.toNatClampNeg).zipIdx.map fun q => ⟨w.2.2.1 + d, dp.toNatClampNeg + q.2⟩)) hL hX
      have g2 := am_fin (h := h) am_but_cp g
      obtain ⟨t, a1, b1⟩ := g2 _ (by rw [← hT]; rfl) X'
      exact ⟨t, step t a1, b1⟩
    · cases ha
  · cases ha
theorem am_x_ldc {idx : Nat} (F : am_Fx w X y p s m args meth c) {v : Int32} {n : Nat} (hl : am_lk am_kit (am_own y) idx = some (v, n)) (hd : decode y.2.1 pc = .ok (.ldc idx, 2)) (ha : am_go (pc + 2) ls (.int v :: st) h = some (.inl k)) (G : am_G p l e R s m args below meth c Q w X y n0 z0 k) : am_G p l e R s m args below meth c Q w X y n0 z0 (pc, ls, st, h) := by
  obtain ⟨hx, hb, hr, hml, hown, hts, hlocks, hnm, hK, hC, hz⟩ := F
  obtain rfl := am_go_inv ha
  intro H locs lsC hR hS hL hX
  exact lv_ldc hx hb hown (hts _ (am_ki_ok hl)) hd (G H locs lsC hR hS hL hX)
theorem am_x_ldcw {idx : Nat} (F : am_Fx w X y p s m args meth c) {v : Int32} {n : Nat} (hl : am_lk am_kit (am_own y) idx = some (v, n)) (hd : decode y.2.1 pc = .ok (.ldc_w idx, 3)) (ha : am_go (pc + 3) ls (.int v :: st) h = some (.inl k)) (G : am_G p l e R s m args below meth c Q w X y n0 z0 k) : am_G p l e R s m args below meth c Q w X y n0 z0 (pc, ls, st, h) := by
  obtain ⟨hx, hb, hr, hml, hown, hts, hlocks, hnm, hK, hC, hz⟩ := F
  obtain rfl := am_go_inv ha
  intro H locs lsC hR hS hL hX
  exact lv_ldcw hx hb hown (hts _ (am_ki_ok hl)) hd (G H locs lsC hR hS hL hX)
theorem am_x_ldc2 {idx : Nat} (F : am_Fx w X y p s m args meth c) {v : Int64} {n : Nat} (hl : am_lk am_klt (am_own y) idx = some (v, n)) (hd : decode y.2.1 pc = .ok (.ldc2_w idx, 3)) (ha : am_go (pc + 3) ls (.long v :: st) h = some (.inl k)) (G : am_G p l e R s m args below meth c Q w X y n0 z0 k) : am_G p l e R s m args below meth c Q w X y n0 z0 (pc, ls, st, h) := by
  obtain ⟨hx, hb, hr, hml, hown, hts, hlocks, hnm, hK, hC, hz⟩ := F
  obtain rfl := am_go_inv ha
  intro H locs lsC hR hS hL hX
  exact lv_ldc2 hx hb hown (hts _ (am_kl_ok hl)) hd (G H locs lsC hR hS hL hX)
end AMN
