/-! part 07: cells: how a store in the small machine's heap is one in the machine's -/
theorem am_kd_lt {h : am_H} {i : Nat} {kd : am_K} (hk : am_kd h i = some kd) : i < am_n h := (List.getElem?_eq_some_iff.mp hk).1
theorem am_a_lt {w : am_Wd} {i : Nat} (h : i < am_CB) : am_a w i = w.2.2.1 + i := by
  unfold am_a
  rw [if_pos h]
theorem am_Rep.lt {w : am_Wd} {h : am_H} {H : Heap} {i : Nat} {kd : am_K} (hR : am_Rep w h H) (hk : am_kd h i = some kd) : i < am_CB := Nat.lt_trans (am_kd_lt hk) hR.2.1
theorem am_e_congr {w : am_Wd} {h h' : am_H} {i : Nat} (h1 : h'.1 i = h.1 i) (h2 : h'.2.1 i = h.2.1 i) (h3 : h'.2.2.1 i = h.2.2.1 i) (kd : am_K) : am_e w h' i kd = am_e w h i kd := by
  have hg : ∀ ty k, am_gv ty h' i k = am_gv ty h i k := fun ty k => by
    cases ty <;> simp only [am_gv, h1, h2, h3]
  rcases kd with ci | ⟨tc, n⟩
  · show Sum.inr (ci, am_fs w h' i ci) = Sum.inr (ci, am_fs w h i ci)
    unfold am_fs
    simp only [hg]
  · show Sum.inl (w.2.1 tc, n, am_row w tc h' i) = Sum.inl (w.2.1 tc, n, am_row w tc h i)
    have : am_row w tc h' i = am_row w tc h i := by
      unfold am_row
      split <;> simp only [h1, h2, h3]
    rw [this]
theorem am_up_ne {α : Type} {f : Nat → Nat → α} {o k i : Nat} {v : α} (h : i ≠ o) : am_up f o k v i = f i := by
  funext b
  unfold am_up
  rw [if_neg (fun q => h q.1)]
theorem am_up_at {α : Type} {f : Nat → Nat → α} {o k : Nat} {v : α} : am_up f o k v o k = v := by
  unfold am_up
  rw [if_pos ⟨rfl, rfl⟩]
theorem am_up_nk {α : Type} {f : Nat → Nat → α} {o k i j : Nat} {v : α} (h : j ≠ k) : am_up f o k v i j = f i j := by
  unfold am_up
  rw [if_neg (fun q => h q.2)]
/-- what stays the same but for one cell -/
def am_but (o : Nat) (h h' : am_H) : Prop := (∀ i, i ≠ o → h'.1 i = h.1 i ∧ h'.2.1 i = h.2.1 i ∧ h'.2.2.1 i = h.2.2.1 i) ∧ h'.2.2.2 = h.2.2.2
theorem am_but_sI {h : am_H} {o k : Nat} {v : Int32} : am_but o h (am_sI h o k v) := ⟨fun _ hi => ⟨am_up_ne hi, rfl, rfl⟩, rfl⟩
theorem am_but_sL {h : am_H} {o k : Nat} {v : Int64} : am_but o h (am_sL h o k v) := ⟨fun _ hi => ⟨rfl, am_up_ne hi, rfl⟩, rfl⟩
theorem am_but_sR {h : am_H} {o k : Nat} {v : Option Nat} : am_but o h (am_sR h o k v) := ⟨fun _ hi => ⟨rfl, rfl, am_up_ne hi⟩, rfl⟩
theorem am_but.kd {o : Nat} {h h' : am_H} (hb : am_but o h h') (i : Nat) : am_kd h' i = am_kd h i := by
  unfold am_kd
  rw [hb.2]
theorem am_but.n {o : Nat} {h h' : am_H} (hb : am_but o h h') : am_n h' = am_n h := by
  unfold am_n
  rw [hb.2]
theorem am_but.z {o : Nat} {h h' : am_H} (hb : am_but o h h') : am_z h' = am_z h := by
  unfold am_z
  rw [hb.2]
theorem am_Rep.upd {w : am_Wd} {h h' : am_H} {H H' : Heap} {o : Nat} (hR : am_Rep w h H) (hb : am_but o h h') (hz : H'.size = H.size) (oq : ∀ q : Nat, q ≠ w.2.2.1 + o → H'[q]? = H[q]?)
    (ho : ∀ kd, am_kd h o = some kd → va_at w.1 am_cl (w.2.2.1 + o, am_e w h' o kd) H') : am_Rep w h' H' := by
  refine ⟨by rw [hz, hb.n]; exact hR.1, by rw [hb.n]; exact hR.2.1, fun i kd hk => ?_⟩
  rw [hb.kd] at hk
  obtain ⟨h1, h2⟩ := hR.2.2 i kd hk
  refine ⟨h1, ?_⟩
  by_cases hi : i = o
  · subst hi
    exact ho kd hk
  · obtain ⟨e1, e2, e3⟩ := hb.1 i hi
    rw [am_e_congr e1 e2 e3]
    exact h2.kept (oq _ (by show w.2.2.1 + i ≠ w.2.2.1 + o; omega))
theorem am_va_S_put {A : Nat → Prop} {H0 H H1 : Heap} {locs : List Loc} {a k : Nat} (h : va_S A H0 H locs) (z : H1.size = H.size) (oq : ∀ q : Nat, q ≠ a → H1[q]? = H[q]?) (ha : A a) : va_S A H0 H1 (locs ++ [⟨a, k⟩]) := h.put z oq ha
theorem am_A0_at {w : am_Wd} {o : Nat} : am_A0 w (w.2.2.1 + o) := Nat.le_add_right _ _
-- fields
theorem am_fs_at {w : am_Wd} {h : am_H} {o ci k : Nat} (hk : k < am_nf ci) : (am_fs w h o ci)[k]? = some (am_v w (am_gv (am_ty ci k) h o k)) := by
  unfold am_fs
  rw [List.getElem?_map, List.getElem?_range hk]
  rfl
theorem am_fs_len {w : am_Wd} {h : am_H} {o ci : Nat} : (am_fs w h o ci).length = am_nf ci := by
  unfold am_fs
  rw [List.length_map, List.length_range]
theorem am_fs_V {w : am_Wd} {h : am_H} {o ci k : Nat} (hk : k < am_nf ci) : vp_V (am_fs w h o ci) k = am_v w (am_gv (am_ty ci k) h o k) := by
  unfold vp_V
  rw [List.getD_eq_getElem?_getD, am_fs_at hk]
  rfl
theorem am_pv_spec {ty : FieldType} {h h' : am_H} {o k : Nat} {v : Value} (w : am_Wd) (hp : am_pv ty h o k v = some h') :
    am_but o h h' ∧ am_gv ty h' o k = v ∧ (∀ ty' j, j ≠ k → am_gv ty' h' o j = am_gv ty' h o j) ∧ narrow ty (am_v w v) = am_v w v ∧ fits ty (am_v w v) = true := by
  have gI : ∀ (a : Int32) (ty' : FieldType) (j : Nat), j ≠ k → am_gv ty' (am_sI h o k a) o j = am_gv ty' h o j := fun a ty' j hj => by
    cases ty' <;> first | rfl | (show Value.int (am_up h.1 o k a o j) = _; rw [am_up_nk hj]; rfl)
  have gL : ∀ (a : Int64) (ty' : FieldType) (j : Nat), j ≠ k → am_gv ty' (am_sL h o k a) o j = am_gv ty' h o j := fun a ty' j hj => by
    cases ty' <;> first | rfl | (show Value.long (am_up h.2.1 o k a o j) = _; rw [am_up_nk hj]; rfl)
  have gR : ∀ (a : Option Nat) (ty' : FieldType) (j : Nat), j ≠ k → am_gv ty' (am_sR h o k a) o j = am_gv ty' h o j := fun a ty' j hj => by
    cases ty' <;> first | rfl | (show va_rf (am_up h.2.2.1 o k a o j) = _; rw [am_up_nk hj]; rfl)
  unfold am_pv at hp
  split at hp
  · split at hp
    · rename_i a
      cases hp
      exact ⟨am_but_sI, by show Value.int (am_up h.1 o k a o k) = _; rw [am_up_at], gI a, rfl, rfl⟩
    · cases hp
  · split at hp
    · rename_i a
      split at hp
      · rename_i h1
        cases hp
        refine ⟨am_but_sI, by show Value.int (am_up h.1 o k a o k) = _; rw [am_up_at], gI a, ?_, ?_⟩
        · rcases h1 with rfl | rfl <;> rfl
        · rcases h1 with rfl | rfl <;> rfl
      · cases hp
    · cases hp
  · split at hp
    · rename_i a
      cases hp
      exact ⟨am_but_sL, by show Value.long (am_up h.2.1 o k a o k) = _; rw [am_up_at], gL a, rfl, rfl⟩
    · cases hp
  · split at hp
    · rename_i a
      cases hp
      exact ⟨am_but_sR, by show va_rf (am_up h.2.2.1 o k (some a) o k) = _; rw [am_up_at]; rfl, gR _, rfl, rfl⟩
    · cases hp
      exact ⟨am_but_sR, by show va_rf (am_up h.2.2.1 o k none o k) = _; rw [am_up_at]; rfl, gR _, rfl, rfl⟩
    · cases hp
  · split at hp
    · rename_i a
      cases hp
      exact ⟨am_but_sR, by show va_rf (am_up h.2.2.1 o k (some a) o k) = _; rw [am_up_at]; rfl, gR _, rfl, rfl⟩
    · cases hp
      exact ⟨am_but_sR, by show va_rf (am_up h.2.2.1 o k none o k) = _; rw [am_up_at]; rfl, gR _, rfl, rfl⟩
    · cases hp
  · cases hp
section AMC
variable {p : Program} {l : Launch} {e : Env} {R : Room} {s : State} {m : MethodId} {args : Array Value} {below : List Frame} {meth : Method} {c : Code} {Q : State → Prop} {w : am_Wd} {X : Nat × (Nat → Int32)} {y : am_M} {n0 z0 : Nat}
variable {pc : Nat} {ls : List (Option Value)} {st : List Value} {h : am_H} {k : am_C}
theorem am_x_gf {idx : Nat} (F : am_Fx w X y p s m args meth c) (hd : decode y.2.1 pc = .ok (.getfield idx, 3)) (ha : am_gf y idx pc ls st h = some (.inl k)) (G : am_G p l e R s m args below meth c Q w X y n0 z0 k) : am_G p l e R s m args below meth c Q w X y n0 z0 (pc, ls, st, h) := by
  obtain ⟨hx, hb, hr, hml, hown, hts, hlocks, hnm, hK, hC, hz⟩ := F
  unfold am_gf at ha
  split at ha
  · rename_i o r
    split at ha
    · rename_i ci f wn hl
      split at ha
      · rename_i hkd
        obtain rfl := am_go_inv ha
        intro H locs lsC hR hS hL hX
        obtain ⟨h1, h2, h3⟩ := am_fl_ok hl
        obtain ⟨-, hat⟩ := hR.2.2 o _ hkd
        have hP : va_P w.1 am_cl [(w.2.2.1 + o, .inr (ci, am_fs w h o ci))] H := fun j q hj => by
          cases j with
          | zero => cases hj; exact hat
          | succ j => cases hj
        show W p l e R s m args below meth c H locs (am_n h - n0) (am_z h - z0) Q (F0 m pc lsC (.ref (am_a w o) :: r.map (am_v w)))
        rw [am_a_lt (hR.lt hkd)]
        exact va_get (D := w.1) (ci := ci) (C := am_cn ci) (T := am_T ci) (N := am_nf ci) hx hb hts (am_lay_ok h1) hown hK hP 0 rfl (am_cl_at h1) f h2 (hts _ h3) (fun _ q => q) (am_fs_at h2) hd (G H locs lsC hR hS hL hX)
      · cases ha
    · split at ha
      · rename_i cf wn hl
        split at ha
        · rename_i q hq
          obtain rfl := am_go_inv ha
          intro H locs lsC hR hS hL hX
          have h1 : q.1 = o ∧ q.2.1 = cf := by simpa using List.find?_some hq
          have h2 := hC.2.1 q (List.mem_of_find?_eq_some hq)
          rw [h1.1, h1.2] at h2
          exact vk_getf hx hb h2 hS hown (hts _ (am_fc_ok hl)) (fun _ q => q) hd (G H locs lsC hR hS hL hX)
        · cases ha
      · cases ha
  · cases ha
theorem am_x_gs {idx : Nat} (F : am_Fx w X y p s m args meth c) (hd : decode y.2.1 pc = .ok (.getstatic idx, 3)) (ha : am_gs y idx pc ls st h = some (.inl k)) (G : am_G p l e R s m args below meth c Q w X y n0 z0 k) : am_G p l e R s m args below meth c Q w X y n0 z0 (pc, ls, st, h) := by
  obtain ⟨hx, hb, hr, hml, hown, hts, hlocks, hnm, hK, hC, hz⟩ := F
  unfold am_gs at ha
  split at ha
  · rename_i h0
    obtain rfl := am_go_inv ha
    intro H locs lsC hR hS hL hX
    have h2 := hC.1 ("DogNotary", "LINES", "[LDogNotary$Line;", .ref 1048577) (by decide +kernel)
    rw [h0.1, show am_on.getD 7 "" = "DogNotary$Reader" by decide +kernel] at hown
    have hd' := hd
    rw [h0.2] at hd'
    exact va_getsN hx hb h2 hS hown (va_Nw.use rfl hC.2.2.2.2.2.2.1) (fun _ q => q) hd' (G H locs lsC hR hS hL hX)
  · split at ha
    · rename_i zz wn hl
      split at ha
      · rename_i q hq
        obtain rfl := am_go_inv ha
        intro H locs lsC hR hS hL hX
        have h2 := hC.1 q (List.mem_of_getElem? hq)
        exact va_gets hx hb h2 hS hown (hts _ (am_gs_ok hl hq)) (fun _ q => q) hd (G H locs lsC hR hS hL hX)
      · cases ha
    · cases ha
theorem am_x_pf {idx : Nat} (F : am_Fx w X y p s m args meth c) (hd : decode y.2.1 pc = .ok (.putfield idx, 3)) (ha : am_pf y idx pc ls st h = some (.inl k)) (G : am_G p l e R s m args below meth c Q w X y n0 z0 k) : am_G p l e R s m args below meth c Q w X y n0 z0 (pc, ls, st, h) := by
  obtain ⟨hx, hb, hr, hml, hown, hts, hlocks, hnm, hK, hC, hz⟩ := F
  unfold am_pf at ha
  split at ha
  · rename_i v o r
    split at ha
    · rename_i ci f wn hl
      split at ha
      · rename_i hcnd
        obtain ⟨hkd, hfn⟩ := hcnd
        split at ha
        · rename_i h' hp
          obtain rfl := am_go_inv ha
          intro H locs lsC hR hS hL hX
          have hoC := hR.lt hkd
          obtain ⟨h1, h2, h3⟩ := am_fl_ok hl
          obtain ⟨hbt, hg1, hg2, hn, hfit⟩ := am_pv_spec w hp
          obtain ⟨-, r0, hr0, cell, q1, q2, q3, q4⟩ := hR.2.2 o _ hkd
          have hc := am_cl_at h1
          obtain rfl : r0 = (am_cn ci, am_T ci, am_nf ci) := Option.some.inj (hr0.symm.trans hc)
          have hap := va_apart (own := am_cn ci) hts (am_lay_ok h1) (am_ty ci) (am_typ_ok ci h1) (am_nm_ok ci h1) hK hc
          obtain ⟨hSl, hfc, kC, hkC, hkind⟩ := hK.1 ci _ hc
          obtain ⟨cf, kf, fi, fd, hi, hsl⟩ := hSl f h2
          have hst := (u_facts hfc hkC (u_lays hts (am_lay_ok h1) h2) hi).1
          have hty := am_typ_ok ci h1 f h2
          have hlt : fd.slot < cell.slots.size := by rw [hsl]; exact k2_hasslot (q4 f h2)
          have fin : ∀ (H' : Heap), H'[w.2.2.1 + o]? = some (cell.setSlot fd.slot (am_v w v)) → H'.size = H.size → (∀ q, q ≠ w.2.2.1 + o → H'[q]? = H[q]?) →
              W p l e R s m args below meth c H' (locs ++ [⟨w.2.2.1 + o, fd.slot⟩]) (am_n h - n0) (am_z h - z0) Q (F0 m (pc + 3) lsC (r.map (am_v w))) := by
            intro H' e1 e2 e3
            rw [hsl] at e1
            have hR' : am_Rep w h' H' := hR.upd hbt e2 e3 (fun kd hk => by
              rw [hkd] at hk
              cases hk
              refine ⟨_, hc, t_OB.to (V := updV (vp_V (am_fs w h o ci)) f (am_v w v)) ⟨_, e1, q2, q3, t_set q4 hap h2 (am_v w v)⟩ (fun j hj => ?_)⟩
              rw [am_fs_V hj]
              unfold updV
              by_cases hjf : j = f
              · subst hjf
                rw [if_pos rfl, hg1]
              · rw [if_neg hjf, hg2 _ j hjf, am_fs_V hj])
            have g := G H' (locs ++ [⟨w.2.2.1 + o, fd.slot⟩]) lsC hR' (hS.put e2 e3 am_A0_at) hL (by rw [← hX]; show h'.2.2.2.2 = h.2.2.2.2; rw [hbt.2])
            have en : am_n h' = am_n h := hbt.n
            have ez : am_z h' = am_z h := hbt.z
            show W p l e R s m args below meth c H' _ (am_n h - n0) (am_z h - z0) Q _
            rw [← en, ← ez]
            exact g
          show W p l e R s m args below meth c H locs (am_n h - n0) (am_z h - z0) Q (F0 m pc lsC (am_v w v :: .ref (am_a w o) :: r.map (am_v w)))
          rw [am_a_lt hoC]
          have hlay := hts _ (am_lay_ok h1 _ (u_in_lay h2))
          unfold u_lay at hlay
          by_cases hfl : (am_T ci f).2.2.2 = false
          · rw [if_neg (by rw [hfl]; decide)] at hlay
            exact W.putK hx hb (f := fd) ⟨hown, hts _ h3, ⟨_, _, _, hi⟩, hst⟩ (by rw [q2]; exact u_store hfc hkC hkind hlay hi hty hn hfit) q1 q3 hlt rfl rfl hd fin
          · have hft : (am_T ci f).2.2.2 = true := by simpa using hfl
            rw [if_pos hft] at hlay
            obtain ⟨hin, hdecl⟩ := hfn.resolve_left hfl
            have hcf : m.cls = cf := by
              obtain ⟨_, _, c', _, _, _, -, -, hf', -, -, -, hown2, -⟩ := Cond.laysFinal_spec hlay
              have e1 : c' = cf := by have := hi.symm.trans hf'; simp at this; exact this.1.symm
              rw [hdecl] at hown2
              rw [← e1]; exact Option.some.inj (hown.symm.trans hown2)
            exact W.putFinK hx hb hown (hts _ h3) hi hst hcf (hnm hin) (by rw [q2]; exact u_fits hfc hkC hkind (Or.inr hlay) hi hty hn hfit) q1 q3 hlt rfl rfl hd fin
        · cases ha
      · cases ha
    · cases ha
  · cases ha
end AMC
