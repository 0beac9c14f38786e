/-! part 04: how the small machine's heap lies in the machine's -/
def am_tb : List Cond := lw_tbl.filter goodWord
theorem am_tb_in {w : Cond} (h : w ∈ lw_tbl) (g : goodWord w = true) : w ∈ am_tb := List.mem_filter.mpr ⟨h, g⟩
theorem am_tb_good : GoodIn am_tb am_tb := fun w h => ⟨h, good_of_word (List.mem_filter.mp h).2⟩
/-- class numbers and slots; array classes; where made cells begin; where constants lie; a static that nobody asks -/
abbrev am_Wd : Type := va_G × (Nat → ClassId) × Nat × (Nat → Nat) × Option Nat
def am_a (w : am_Wd) (i : Nat) : Nat := if i < am_CB then w.2.2.1 + i else w.2.2.2.1 i
def am_v (w : am_Wd) (v : Value) : Value := match v with
  | .ref i => .ref (am_a w i)
  | .retAddr _ => va_rf w.2.2.2.2
  | .int a => .int a
  | .long a => .long a
  | .float a => .float a
  | .double a => .double a
  | .null => .null
def am_A0 (w : am_Wd) : Nat → Prop := fun q => w.2.2.1 ≤ q
def am_row (w : am_Wd) (tc : Nat) (h : am_H) (i : Nat) : (Nat → Int32) ⊕ (Nat → Int64) ⊕ (Nat → UInt32) ⊕ (Nat → UInt64) ⊕ (Nat → Option Nat) := match tc with
  | 0 => .inl (h.1 i)
  | 1 => .inl (fun j => am_byte (h.1 i j))
  | 2 => .inl (h.1 i)
  | 3 => .inr (.inl (h.2.1 i))
  | _ => .inr (.inr (.inr (.inr (fun j => (h.2.2.1 i j).map (am_a w)))))
def am_fs (w : am_Wd) (h : am_H) (i ci : Nat) : List Value := (List.range (am_nf ci)).map (fun k => am_v w (am_gv (am_ty ci k) h i k))
def am_e (w : am_Wd) (h : am_H) (i : Nat) (kd : am_K) : va_E := match kd with
  | .inl ci => .inr (ci, am_fs w h i ci)
  | .inr (tc, n) => .inl (w.2.1 tc, n, am_row w tc h i)
def am_okk (kd : am_K) : Prop := match kd with
  | .inl ci => ci < 12
  | .inr (tc, _) => tc ≤ 8
def am_Rep (w : am_Wd) (h : am_H) (H : Heap) : Prop := H.size = w.2.2.1 + am_n h ∧ am_n h < am_CB ∧ ∀ (i : Nat) (kd : am_K), am_kd h i = some kd → am_okk kd ∧ va_at w.1 am_cl (w.2.2.1 + i, am_e w h i kd) H
def am_tys (w : am_Wd) : List (ClassId × FieldType) := (List.range 9).map (fun tc => (w.2.1 tc, am_at tc))
def am_ix1 : Nat := am_CB
def am_Cf (w : am_Wd) (X : Nat × (Nat → Int32)) (U : State) (H : Heap) : Prop :=
  (∀ q ∈ am_kZ, va_Z q.1 q.2.1 q.2.2.1 (am_v w q.2.2.2) (am_A0 w) U H) ∧
  (∀ q ∈ am_kO, va_OF (am_cf.getD q.2.1 ("", "", "")).1 (am_cf.getD q.2.1 ("", "", "")).2.1 (am_cf.getD q.2.1 ("", "", "")).2.2 (am_v w q.2.2) (am_a w q.1) (am_A0 w) U H) ∧
  (∀ q ∈ am_kA, va_T q.2.1 (am_a w q.1) q.2.2.length (fun j => am_v w (q.2.2.getD j .null)) (am_A0 w) U H) ∧
  (∀ q ∈ am_kS, va_O "java/lang/String" (am_a w q) (am_A0 w) U H) ∧
  (X.1 = 0 ∨ (va_X (am_a w am_CB) (X.1 - 1) X.2 U H ∧ am_a w am_CB < w.2.2.1)) ∧
  va_Nw (.methodLinkNest "DogNotary$Reader" 87 ⟨"DogNotary$Fell", "clear", "()V"⟩ "DogNotary") U ∧ va_Nw (.fieldLinkNest "DogNotary$Reader" 136 "DogNotary" "LINES" "[LDogNotary$Line;" "DogNotary") U ∧ (∀ ci ∈ [3, 2, 0, 5, 8], va_AO (am_cn ci) U)
theorem am_Cf.warm {w : am_Wd} {X : Nat × (Nat → Int32)} {u U : State} {H : Heap} (hW : u.WarmedH U.vm) (h : am_Cf w X u H) : am_Cf w X U H := by
  obtain ⟨h1, h2, h3, h4, h5, h7, h8, h9⟩ := h
  exact ⟨fun q hq => (h1 q hq).moved hW.alike, fun q hq => (h2 q hq).moved hW.alike, fun q hq => (h3 q hq).moved hW.alike, fun q hq => (h4 q hq).moved hW.alike, h5.imp_right (fun q => ⟨q.1.moved hW.alike, q.2⟩), h7.warmM hW, h8.warmF hW, fun ci hc => (h9 ci hc).moved hW.alike⟩
theorem am_Cf.same {w : am_Wd} {X : Nat × (Nat → Int32)} {u U : State} {H : Heap} (hv : u.vm = U.vm) (h : am_Cf w X u H) : am_Cf w X U H := by
  obtain ⟨h1, h2, h3, h4, h5, h7, h8, h9⟩ := h
  have ha : u.vm.Alike U.vm := by rw [hv]; exact Vm.Alike.refl _
  exact ⟨fun q hq => (h1 q hq).moved ha, fun q hq => (h2 q hq).moved ha, fun q hq => (h3 q hq).moved ha, fun q hq => (h4 q hq).moved ha, h5.imp_right (fun q => ⟨q.1.moved ha, q.2⟩), h7.same rfl hv, h8.same rfl hv, fun ci hc => (h9 ci hc).moved ha⟩
theorem am_Cf.kept {w : am_Wd} {X : Nat × (Nat → Int32)} {U : State} {H H1 : Heap} (h : am_Cf w X U H) (hz : w.2.2.1 ≤ H.size) (hq : ∀ a : Nat, a < H.size → ¬ am_A0 w a → H1[a]? = H[a]?) : am_Cf w X U H1 := by
  obtain ⟨h1, h2, h3, h4, h5, h7, h8⟩ := h
  exact ⟨fun q k => (h1 q k).kept hq, fun q k => (h2 q k).kept hq, fun q k => (h3 q k).kept hq, fun q k => (h4 q k).kept hq, h5.imp_right (fun q => ⟨q.1.kept (hq _ (Nat.lt_of_lt_of_le q.2 hz) (Nat.not_le.mpr q.2)), q.2⟩), h7, h8⟩
-- the variables of a frame
def am_LR (w : am_Wd) (ls : List (Option Value)) (lsC : Array Slot) (nL : Nat) : Prop := ls.length = nL ∧ lsC.size = nL ∧ lv_wf lsC ∧ ∀ (i : Nat) (v : Value), am_ld ls i = some v → lsC[i]? = some (.val (am_v w v))
def am_lvs (w : am_Wd) (ls : List (Option Value)) : List (Nat × Value) := (List.range ls.length).filterMap (fun i => (am_ld ls i).map (fun v => (i, am_v w v)))
theorem am_ld_lt {ls : List (Option Value)} {i : Nat} {v : Value} (h : am_ld ls i = some v) : i < ls.length := by
  rcases Nat.lt_or_ge i ls.length with q | q
  · exact q
  · rw [am_ld, List.getElem?_eq_none q] at h
    cases h
theorem am_lvs_mem {w : am_Wd} {ls : List (Option Value)} {i : Nat} {v : Value} (h : am_ld ls i = some v) : (i, am_v w v) ∈ am_lvs w ls := List.mem_filterMap.mpr ⟨i, List.mem_range.mpr (am_ld_lt h), by rw [h]; rfl⟩
theorem am_LR.has {w : am_Wd} {ls : List (Option Value)} {lsC : Array Slot} {nL : Nat} (h : am_LR w ls lsC nL) : lv_has lsC nL (am_lvs w ls) := by
  refine ⟨h.2.1, h.2.2.1, fun q hq => ?_⟩
  obtain ⟨i, -, hi⟩ := List.mem_filterMap.mp hq
  cases hl : am_ld ls i with
  | none => rw [hl] at hi; cases hi
  | some v =>
    rw [hl] at hi
    obtain rfl := Option.some.inj hi
    exact h.2.2.2 i v hl
theorem am_v_cat {w : am_Wd} {v : Value} : (am_v w v).category = v.category := by
  cases v <;> first | rfl | (show (va_rf _).category = 1; cases w.2.2.2.2 <;> rfl)
theorem am_ld_ne {ls : List (Option Value)} {i : Nat} {v : Value} (h : am_ld ls i = some v) : v ≠ .retAddr 0 := by
  intro e
  subst e
  have := (am_ld_iff.mp h).2
  cases this
/-- reading behind a store of one word -/
theorem am_ld_set {ls : List (Option Value)} {i j : Nat} {v u : Value} (hu : am_isM (some (some u)) = false) (h : am_ld (ls.set i (some u)) j = some v) (hj : j ≠ i) : am_ld ls j = some v ∧ (v.category = 2 → j + 1 ≠ i) := by
  obtain ⟨h1, h2⟩ := am_ld_iff.mp h
  rw [List.getElem?_set_ne (Ne.symm hj)] at h1
  cases v with
  | long a =>
    have h3 : am_isM (ls.set i (some u))[j + 1]? = true := h2
    have hi : i ≠ j + 1 := by
      intro e
      subst e
      rw [List.getElem?_set] at h3
      simp only [if_true] at h3
      split at h3
      · rw [hu] at h3; cases h3
      · cases h3
    rw [List.getElem?_set_ne hi] at h3
    exact ⟨am_ld_iff.mpr ⟨h1, h3⟩, fun _ e => hi e.symm⟩
  | double a => cases h2
  | _ => exact ⟨am_ld_iff.mpr ⟨h1, h2⟩, fun hc => by cases hc⟩
theorem am_LR.s1 {w : am_Wd} {ls ls' : List (Option Value)} {lsC lsC' : Array Slot} {nL i : Nat} {v : Value} (h : am_LR w ls lsC nL) (hs : am_s1 ls i v = some ls') (hv : v.category = 1) (hm : ∀ a, v ≠ .retAddr a)
    (hn : lv_has lsC' nL ((i, am_v w v) :: (am_lvs w ls).filter (fun q => !(q.1 == i) && !(q.1 + 1 == i && q.2.category == 2)))) : am_LR w ls' lsC' nL := by
  unfold am_s1 at hs
  split at hs
  · rename_i hi
    cases hs
    refine ⟨by rw [List.length_set]; exact h.1, hn.1, hn.2.1, fun j u hu => ?_⟩
    by_cases hj : j = i
    · subst hj
      have h1 := (am_ld_iff.mp hu).1
      rw [List.getElem?_set_self hi] at h1
      obtain rfl := Option.some.inj (Option.some.inj h1)
      exact hn.2.2 (j, _) List.mem_cons_self
    · obtain ⟨h1, h2⟩ := am_ld_set (by cases v <;> first | rfl | exact absurd rfl (hm _)) hu hj
      refine hn.2.2 (j, am_v w u) (List.mem_cons_of_mem _ (List.mem_filter.mpr ⟨am_lvs_mem h1, ?_⟩))
      show (!(j == i) && !(j + 1 == i && (am_v w u).category == 2)) = true
      rw [am_v_cat]
      by_cases hc : u.category = 2
      · simp [hj, h2 hc]
      · simp [hj, hc]
  · cases hs
theorem am_LR.s2 {w : am_Wd} {ls ls' : List (Option Value)} {lsC lsC' : Array Slot} {nL i : Nat} {a : Int64} (h : am_LR w ls lsC nL) (hs : am_s2 ls i (.long a) = some ls')
    (hn : lv_has lsC' nL ((i, .long a) :: (am_lvs w ls).filter (fun q => !(q.1 == i) && (!(q.1 == i + 1) && !(q.1 + 1 == i && q.2.category == 2))))) : am_LR w ls' lsC' nL := by
  unfold am_s2 at hs
  split at hs
  · rename_i hi
    cases hs
    refine ⟨by rw [List.length_set, List.length_set]; exact h.1, hn.1, hn.2.1, fun j u hu => ?_⟩
    by_cases hj1 : j = i + 1
    · subst hj1
      have h1 := (am_ld_iff.mp hu).1
      rw [List.getElem?_set_self (by rw [List.length_set]; exact hi)] at h1
      obtain rfl := Option.some.inj (Option.some.inj h1)
      exact absurd rfl (am_ld_ne hu)
    · by_cases hj : j = i
      · subst hj
        have h1 := (am_ld_iff.mp hu).1
        rw [List.getElem?_set_ne (by omega), List.getElem?_set_self (by omega)] at h1
        obtain rfl := Option.some.inj (Option.some.inj h1)
        exact hn.2.2 (j, _) List.mem_cons_self
      · obtain ⟨h0, h2⟩ := am_ld_iff.mp hu
        rw [List.getElem?_set_ne (by omega), List.getElem?_set_ne (Ne.symm hj)] at h0
        have key : am_ld ls j = some u ∧ (u.category = 2 → j + 1 ≠ i) := by
          cases u with
          | long b =>
            have h3 : am_isM ((ls.set i (some (.long a))).set (i + 1) (some am_mk))[j + 1]? = true := h2
            have hji : j + 1 ≠ i := by
              intro e
              rw [List.getElem?_set_ne (by omega), e, List.getElem?_set_self (by omega)] at h3
              cases h3
            rw [List.getElem?_set_ne (by omega), List.getElem?_set_ne (Ne.symm hji)] at h3
            exact ⟨am_ld_iff.mpr ⟨h0, h3⟩, fun _ => hji⟩
          | double b => cases h2
          | _ => exact ⟨am_ld_iff.mpr ⟨h0, h2⟩, fun hc => by cases hc⟩
        refine hn.2.2 (j, am_v w u) (List.mem_cons_of_mem _ (List.mem_filter.mpr ⟨am_lvs_mem key.1, ?_⟩))
        show (!(j == i) && (!(j == i + 1) && !(j + 1 == i && (am_v w u).category == 2))) = true
        rw [am_v_cat]
        by_cases hc : u.category = 2
        · simp [hj, hj1, key.2 hc]
        · simp [hj, hj1, hc]
  · cases hs
/-- the words of the arguments -/
theorem am_ld_cons (a : Option Value) (l : List (Option Value)) (i : Nat) : am_ld (a :: l) (i + 1) = am_ld l i := by
  unfold am_ld
  rw [List.getElem?_cons_succ]
  have e : ∀ v, am_ok1 (a :: l) (i + 1) v = am_ok1 l i v := fun v => by cases v <;> rfl
  simp only [e]
theorem am_ld_none (n i : Nat) : am_ld (List.replicate n none) i = none := by
  unfold am_ld
  rw [List.getElem?_replicate]
  split
  · rename_i h
    split at h
    · cases h
    · cases h
  · rfl
theorem am_args_ld (w : am_Wd) (n : Nat) : ∀ (as : List Value) (b : Nat), as.all am_okv = true → ∀ (i : Nat) (v : Value), am_ld (am_args as ++ List.replicate n none) i = some v → (b + i, am_v w v) ∈ lv_args b (as.map (am_v w)) := by
  intro as
  induction as with
  | nil =>
    intro b _ i v h
    rw [show am_args [] ++ List.replicate n (none : Option Value) = List.replicate n none from rfl, am_ld_none] at h
    cases h
  | cons u r ih =>
    intro b ho i v h
    rw [List.all_cons, Bool.and_eq_true] at ho
    have one : am_args (u :: r) = some u :: am_args r → u.category ≠ 2 → (b + i, am_v w v) ∈ lv_args b ((u :: r).map (am_v w)) := by
      intro e hc
      rw [e] at h
      cases i with
      | zero =>
        have h1 := (am_ld_iff.mp h).1
        obtain rfl := Option.some.inj (Option.some.inj h1)
        exact List.mem_cons_self
      | succ j =>
        rw [List.cons_append, am_ld_cons] at h
        have := ih (b + 1) ho.2 j v h
        show _ ∈ (b, am_v w u) :: lv_args (if (am_v w u).category = 2 then b + 2 else b + 1) (r.map (am_v w))
        rw [am_v_cat, if_neg hc, show b + (j + 1) = b + 1 + j by omega]
        exact List.mem_cons_of_mem _ this
    cases u with
    | long a =>
      rw [show am_args (.long a :: r) = some (.long a) :: some am_mk :: am_args r from rfl] at h
      match i, h with
      | 0, h =>
        have h1 := (am_ld_iff.mp h).1
        obtain rfl := Option.some.inj (Option.some.inj h1)
        exact List.mem_cons_self
      | 1, h =>
        have h1 := (am_ld_iff.mp h).1
        obtain rfl := Option.some.inj (Option.some.inj h1)
        exact absurd rfl (am_ld_ne h)
      | j + 2, h =>
        rw [List.cons_append, List.cons_append, am_ld_cons, am_ld_cons] at h
        have := ih (b + 2) ho.2 j v h
        show _ ∈ (b, Value.long a) :: lv_args (b + 2) (r.map (am_v w))
        rw [show b + (j + 2) = b + 2 + j by omega]
        exact List.mem_cons_of_mem _ this
    | double a => cases ho.1
    | _ => exact one rfl (by intro hc; cases hc)
theorem am_args_len (w : am_Wd) : ∀ as : List Value, as.all am_okv = true → (lg_sl (as.map (am_v w))).length = (am_args as).length := by
  intro as
  induction as with
  | nil => intro _; rfl
  | cons u r ih =>
    intro ho
    rw [List.all_cons, Bool.and_eq_true] at ho
    have h := ih ho.2
    have e : lg_sl ((u :: r).map (am_v w)) = (if (am_v w u).category = 2 then [Slot.val (am_v w u), .second] else [Slot.val (am_v w u)]) ++ lg_sl (r.map (am_v w)) := rfl
    rw [e, am_v_cat, List.length_append, h]
    cases u with
    | double a => cases ho.1
    | long a =>
      show 2 + (am_args r).length = (some (Value.long a) :: some am_mk :: am_args r).length
      simp only [List.length_cons]
      omega
    | int a => show 1 + (am_args r).length = (some (Value.int a) :: am_args r).length; simp only [List.length_cons]; omega
    | float a => cases ho.1
    | null => show 1 + (am_args r).length = (some Value.null :: am_args r).length; simp only [List.length_cons]; omega
    | ref a => show 1 + (am_args r).length = (some (Value.ref a) :: am_args r).length; simp only [List.length_cons]; omega
    | retAddr a => show 1 + (am_args r).length = (some (Value.retAddr a) :: am_args r).length; simp only [List.length_cons]; omega
theorem am_LR.entry {w : am_Wd} {as : List Value} {n : Nat} (ho : as.all am_okv = true) (hn : (am_args as).length ≤ n) : am_LR w (am_ent n as) ((lg_sl (as.map (am_v w)) ++ List.replicate (n - (lg_sl (as.map (am_v w))).length) Slot.unset).toArray) n := by
  have h := lv_entry (as.map (am_v w)) (n := n) (by rw [am_args_len w as ho]; exact hn)
  refine ⟨?_, h.1, h.2.1, fun i v hv => ?_⟩
  · rw [am_ent, List.length_append, List.length_replicate]
    omega
  · have := am_args_ld w (n - (am_args as).length) as 0 ho i v hv
    rw [Nat.zero_add] at this
    exact h.2.2 (i, am_v w v) this
