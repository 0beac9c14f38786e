/-! part 03: a small machine over the same instructions; its heap is numbered from 0; a call is one step of it -/
def am_CB : Nat := 1048576
abbrev am_K : Type := Nat ⊕ (Nat × Nat)
/-- ints, longs, references by cell and place; the cells' shapes; the script: its length and one more, or 0 where there is none -/
abbrev am_H : Type := (Nat → Nat → Int32) × (Nat → Nat → Int64) × (Nat → Nat → Option Nat) × List am_K × (Nat × (Nat → Int32))
def am_up {α : Type} (f : Nat → Nat → α) (o k : Nat) (v : α) : Nat → Nat → α := fun a b => if a = o ∧ b = k then v else f a b
def am_kd (h : am_H) (o : Nat) : Option am_K := h.2.2.2.1[o]?
def am_n (h : am_H) : Nat := h.2.2.2.1.length
def am_sI (h : am_H) (o k : Nat) (v : Int32) : am_H := (am_up h.1 o k v, h.2)
def am_sL (h : am_H) (o k : Nat) (v : Int64) : am_H := (h.1, am_up h.2.1 o k v, h.2.2)
def am_sR (h : am_H) (o k : Nat) (v : Option Nat) : am_H := (h.1, h.2.1, am_up h.2.2.1 o k v, h.2.2.2)
def am_nw (h : am_H) (kd : am_K) : am_H := (fun a b => if a = am_n h then 0 else h.1 a b, fun a b => if a = am_n h then 0 else h.2.1 a b, fun a b => if a = am_n h then none else h.2.2.1 a b, h.2.2.2.1 ++ [kd], h.2.2.2.2)
def am_cp (h : am_H) (s0 sp d0 dp n : Nat) : am_H := (fun a b => if a = d0 ∧ dp ≤ b ∧ b < dp + n then h.1 s0 (sp + (b - dp)) else h.1 a b, h.2)
-- what the tables say
def am_F (ci : Nat) : List ((String × String × String × Bool) × FieldType) := (am_fd.getD ci ("", [])).2
def am_cn (ci : Nat) : String := (am_fd.getD ci ("", [])).1
def am_T (ci : Nat) : u_T := fun k => ((am_F ci).getD k (("", "", "", false), .int)).1
def am_ty (ci k : Nat) : FieldType := ((am_F ci).getD k (("", "", "", false), .int)).2
def am_nf (ci : Nat) : Nat := (am_F ci).length
def am_cl : List vw_C := (List.range 12).map (fun ci => (am_cn ci, am_T ci, am_nf ci))
def am_sz (kd : am_K) : Nat := match kd with
  | .inl ci => am_nf ci
  | .inr (_, n) => n
def am_z (h : am_H) : Nat := (h.2.2.2.1.map am_sz).sum
def am_lk {α : Type} (t : List (List (Nat × α))) (o idx : Nat) : Option α := ((t.getD o []).find? (fun q => q.1 == idx)).map (fun q => q.2)
def am_own (y : am_M) : Nat := y.2.2.2.2.1
def am_np (y : am_M) : Nat := y.2.2.2.2.2.1
def am_rf (y : am_M) : Nat := y.2.2.2.2.2.2.1
def am_rl (y : am_M) : Nat := y.2.2.2.2.2.2.2
def am_ins (k pc : Nat) : Option (Instr × Nat) := match am_ms[k]? with
  | some y => (match decode y.2.1 pc with
    | .ok r => some r
    | .error _ => none)
  | none => none
-- array kinds: 0 int, 1 byte, 2 boolean, 3 long, 4 Fell, 5 Drive, 6 Book, 7 Log, 8 Told
def am_at (tc : Nat) : FieldType := match tc with
  | 0 => .int
  | 1 => .byte
  | 2 => .boolean
  | 3 => .long
  | 4 => .object "DogNotary$Fell"
  | 5 => .object "DogNotary$Drive"
  | 6 => .object "DogNotary$Book"
  | 7 => .object "DogNotary$Log"
  | _ => .object "DogNotary$Told"
def am_tcOf (ci : Nat) : Option Nat := match ci with
  | 3 => some 4
  | 2 => some 5
  | 0 => some 6
  | 5 => some 7
  | 8 => some 8
  | _ => none
def am_ciOf (tc : Nat) : Nat := match tc with
  | 4 => 3
  | 5 => 2
  | 6 => 0
  | 7 => 5
  | _ => 8
def am_nt (a : ArrayType) : Option Nat := match a with
  | .int => some 0
  | .byte => some 1
  | .boolean => some 2
  | .long => some 3
  | _ => none
def am_tc (h : am_H) (a : Nat) : Option Nat := match am_kd h a with
  | some (.inr (tc, _)) => some tc
  | _ => none
def am_len (h : am_H) (a : Nat) : Nat := match am_kd h a with
  | some (.inr (_, n)) => n
  | _ => 0
/-- a place within -/
def am_ix (i : Int32) (n : Nat) : Bool := decide (0 ≤ i.toInt ∧ i.toInt < n)
theorem am_ix_vp {i : Int32} {n : Nat} (h : am_ix i n = true) : vp_in i n := vp_in_iff.mpr (of_decide_eq_true h)
def am_gv (ty : FieldType) (h : am_H) (o k : Nat) : Value := match ty with
  | .int => .int (h.1 o k)
  | .boolean => .int (h.1 o k)
  | .long => .long (h.2.1 o k)
  | _ => va_rf (h.2.2.1 o k)
def am_pv (ty : FieldType) (h : am_H) (o k : Nat) (v : Value) : Option am_H := match ty with
  | .int => (match v with
    | .int a => some (am_sI h o k a)
    | _ => none)
  | .boolean => (match v with
    | .int a => if a = 0 ∨ a = 1 then some (am_sI h o k a) else none
    | _ => none)
  | .long => (match v with
    | .long a => some (am_sL h o k a)
    | _ => none)
  | .object _ => (match v with
    | .ref a => some (am_sR h o k (some a))
    | .null => some (am_sR h o k none)
    | _ => none)
  | .array _ => (match v with
    | .ref a => some (am_sR h o k (some a))
    | .null => some (am_sR h o k none)
    | _ => none)
  | _ => none
-- the variables of a frame: a long stands at its place with a mark behind it
def am_mk : Value := .retAddr 0
def am_isM (o : Option (Option Value)) : Bool := match o with
  | some (some (.retAddr n)) => n == 0
  | _ => false
def am_ok1 (ls : List (Option Value)) (i : Nat) (v : Value) : Bool := match v with
  | .long _ => am_isM ls[i + 1]?
  | .double _ => false
  | .retAddr n => !(n == 0)
  | _ => true
def am_ld (ls : List (Option Value)) (i : Nat) : Option Value := match ls[i]? with
  | some (some v) => if am_ok1 ls i v = true then some v else none
  | _ => none
theorem am_ld_iff {ls : List (Option Value)} {i : Nat} {v : Value} : am_ld ls i = some v ↔ ls[i]? = some (some v) ∧ am_ok1 ls i v = true := by
  unfold am_ld
  constructor
  · intro h
    split at h
    · rename_i v' h1
      split at h
      · rename_i h2
        cases h
        exact ⟨h1, h2⟩
      · cases h
    · cases h
  · intro ⟨h1, h2⟩
    rw [h1]
    simp only [h2, if_true]
def am_s1 (ls : List (Option Value)) (i : Nat) (v : Value) : Option (List (Option Value)) := if i < ls.length then some (ls.set i (some v)) else none
def am_s2 (ls : List (Option Value)) (i : Nat) (v : Value) : Option (List (Option Value)) := if i + 1 < ls.length then some ((ls.set i (some v)).set (i + 1) (some am_mk)) else none
def am_args : List Value → List (Option Value)
  | [] => []
  | .long x :: r => some (.long x) :: some am_mk :: am_args r
  | v :: r => some v :: am_args r
def am_okv (v : Value) : Bool := match v with
  | .float _ => false
  | .double _ => false
  | .retAddr n => !(n == 0)
  | _ => true
def am_ent (n : Nat) (as : List Value) : List (Option Value) := am_args as ++ List.replicate (n - (am_args as).length) none
-- what one instruction does: on to a place, a call, or the end
abbrev am_C : Type := Nat × List (Option Value) × List Value × am_H
abbrev am_A : Type := Option (am_C ⊕ ((Nat × List Value × Nat × List Value) ⊕ Option Value))
def am_go (pc : Nat) (ls : List (Option Value)) (st : List Value) (h : am_H) : am_A := some (.inl (pc, ls, st, h))
def am_ii (f : Int32 → Int32 → Int32) (pc : Nat) (ls : List (Option Value)) (st : List Value) (h : am_H) : am_A := match st with
  | .int b :: .int a :: r => am_go pc ls (.int (f a b) :: r) h
  | _ => none
def am_iz (f : Int32 → Int32 → Int32) (pc : Nat) (ls : List (Option Value)) (st : List Value) (h : am_H) : am_A := match st with
  | .int b :: .int a :: r => if b = 0 then none else am_go pc ls (.int (f a b) :: r) h
  | _ => none
def am_ll (f : Int64 → Int64 → Int64) (pc : Nat) (ls : List (Option Value)) (st : List Value) (h : am_H) : am_A := match st with
  | .long b :: .long a :: r => am_go pc ls (.long (f a b) :: r) h
  | _ => none
def am_lz (f : Int64 → Int64 → Int64) (pc : Nat) (ls : List (Option Value)) (st : List Value) (h : am_H) : am_A := match st with
  | .long b :: .long a :: r => if b = 0 then none else am_go pc ls (.long (f a b) :: r) h
  | _ => none
def am_li (f : Int64 → Int32 → Int64) (pc : Nat) (ls : List (Option Value)) (st : List Value) (h : am_H) : am_A := match st with
  | .int b :: .long a :: r => am_go pc ls (.long (f a b) :: r) h
  | _ => none
def am_i1 (f : Int32 → Value) (pc : Nat) (ls : List (Option Value)) (st : List Value) (h : am_H) : am_A := match st with
  | .int a :: r => am_go pc ls (f a :: r) h
  | _ => none
def am_l1 (f : Int64 → Value) (pc : Nat) (ls : List (Option Value)) (st : List Value) (h : am_H) : am_A := match st with
  | .long a :: r => am_go pc ls (f a :: r) h
  | _ => none
def am_lI (i pc : Nat) (ls : List (Option Value)) (st : List Value) (h : am_H) : am_A := match am_ld ls i with
  | some (.int a) => am_go pc ls (.int a :: st) h
  | _ => none
def am_lL (i pc : Nat) (ls : List (Option Value)) (st : List Value) (h : am_H) : am_A := match am_ld ls i with
  | some (.long a) => am_go pc ls (.long a :: st) h
  | _ => none
def am_lA (i pc : Nat) (ls : List (Option Value)) (st : List Value) (h : am_H) : am_A := match am_ld ls i with
  | some (.ref a) => am_go pc ls (.ref a :: st) h
  | some .null => am_go pc ls (.null :: st) h
  | _ => none
def am_tI (i pc : Nat) (ls : List (Option Value)) (st : List Value) (h : am_H) : am_A := match st with
  | .int a :: r => (match am_s1 ls i (.int a) with
    | some ls' => am_go pc ls' r h
    | none => none)
  | _ => none
def am_tL (i pc : Nat) (ls : List (Option Value)) (st : List Value) (h : am_H) : am_A := match st with
  | .long a :: r => (match am_s2 ls i (.long a) with
    | some ls' => am_go pc ls' r h
    | none => none)
  | _ => none
def am_tA (i pc : Nat) (ls : List (Option Value)) (st : List Value) (h : am_H) : am_A := match st with
  | .ref a :: r => (match am_s1 ls i (.ref a) with
    | some ls' => am_go pc ls' r h
    | none => none)
  | .null :: r => (match am_s1 ls i .null with
    | some ls' => am_go pc ls' r h
    | none => none)
  | _ => none
def am_jt (pc : Nat) (off : Int) : Nat := ((pc : Int) + off).toNat
def am_c1 (c : ClassFile.Cond) (a : Int32) : Prop := match c with
  | .eq => a = 0
  | .ne => ¬ a = 0
  | .lt => a < 0
  | .ge => 0 ≤ a
  | .gt => 0 < a
  | .le => a ≤ 0
def am_c2 (c : ClassFile.Cond) (a b : Int32) : Prop := match c with
  | .eq => a = b
  | .ne => ¬ a = b
  | .lt => a < b
  | .ge => b ≤ a
  | .gt => b < a
  | .le => a ≤ b
def am_d1 (c : ClassFile.Cond) (a : Int32) : Decidable (am_c1 c a) := by cases c <;> (unfold am_c1; infer_instance)
def am_d2 (c : ClassFile.Cond) (a b : Int32) : Decidable (am_c2 c a b) := by cases c <;> (unfold am_c2; infer_instance)
def am_if1 (c : ClassFile.Cond) (off : Int) (pc : Nat) (ls : List (Option Value)) (st : List Value) (h : am_H) : am_A := match st with
  | .int a :: r => if 0 ≤ (pc : Int) + off then am_go (@ite _ (am_c1 c a) (am_d1 c a) (am_jt pc off) (pc + 3)) ls r h else none
  | _ => none
def am_if2 (c : ClassFile.Cond) (off : Int) (pc : Nat) (ls : List (Option Value)) (st : List Value) (h : am_H) : am_A := match st with
  | .int b :: .int a :: r => if 0 ≤ (pc : Int) + off then am_go (@ite _ (am_c2 c a b) (am_d2 c a b) (am_jt pc off) (pc + 3)) ls r h else none
  | _ => none
def am_sw (d lo hi : Int) (offs : Array Int) (pc : Nat) (ls : List (Option Value)) (st : List Value) (h : am_H) : am_A := match st with
  | .int a :: r => if a.toInt < lo ∨ hi < a.toInt then (if 0 ≤ (pc : Int) + d then am_go (am_jt pc d) ls r h else none)
      else (match offs[(a.toInt - lo).toNat]? with
        | some off => if 0 ≤ (pc : Int) + off then am_go (am_jt pc off) ls r h else none
        | none => none)
  | _ => none
def am_gf (y : am_M) (idx pc : Nat) (ls : List (Option Value)) (st : List Value) (h : am_H) : am_A := match st with
  | .ref o :: r => (match am_lk am_flt (am_own y) idx with
      | some (ci, k, _) => if am_kd h o = some (.inl ci) then am_go (pc + 3) ls (am_gv (am_ty ci k) h o k :: r) h else none
      | none => (match am_lk am_fct (am_own y) idx with
        | some (cf, _) => (match am_kO.find? (fun q => q.1 == o && q.2.1 == cf) with
          | some q => am_go (pc + 3) ls (q.2.2 :: r) h
          | none => none)
        | none => none))
  | _ => none
def am_pf (y : am_M) (idx pc : Nat) (ls : List (Option Value)) (st : List Value) (h : am_H) : am_A := match st with
  | v :: .ref o :: r => (match am_lk am_flt (am_own y) idx with
      | some (ci, k, _) => if am_kd h o = some (.inl ci) ∧ ((am_T ci k).2.2.2 = false ∨ (y.1.name = "<init>" ∧ (am_T ci k).1 = am_on.getD (am_own y) "")) then
          (match am_pv (am_ty ci k) h o k v with
            | some h' => am_go (pc + 3) ls r h'
            | none => none) else none
      | none => none)
  | _ => none
def am_gs (y : am_M) (idx pc : Nat) (ls : List (Option Value)) (st : List Value) (h : am_H) : am_A :=
  if am_own y = 7 ∧ idx = 136 then am_go (pc + 3) ls (.ref 1048577 :: st) h
  else (match am_lk am_gst (am_own y) idx with
    | some (z, _) => (match am_kZ[z]? with
      | some q => am_go (pc + 3) ls (q.2.2.2 :: st) h
      | none => none)
    | none => none)
def am_byte (a : Int32) : Int32 := a.toInt8.toInt32
def am_rI (pc : Nat) (ls : List (Option Value)) (st : List Value) (h : am_H) : am_A := match st with
  | .int i :: .ref a :: r => if am_tc h a = some 0 then (if am_ix i (am_len h a) = true then am_go pc ls (.int (h.1 a i.toNatClampNeg) :: r) h else none)
    else if a = am_CB ∧ 1 ≤ h.2.2.2.2.1 ∧ am_ix i (h.2.2.2.2.1 - 1) = true then am_go pc ls (.int (h.2.2.2.2.2 i.toNatClampNeg) :: r) h else none
  | _ => none
def am_rB (pc : Nat) (ls : List (Option Value)) (st : List Value) (h : am_H) : am_A := match st with
  | .int i :: .ref a :: r => if am_tc h a = some 1 then (if am_ix i (am_len h a) = true then am_go pc ls (.int (am_byte (h.1 a i.toNatClampNeg)) :: r) h else none)
    else if am_tc h a = some 2 then (if am_ix i (am_len h a) = true then am_go pc ls (.int (h.1 a i.toNatClampNeg) :: r) h else none)
    else (match am_kA.find? (fun q => q.1 == a) with
      | some (_, .byte, f) => if am_ix i f.length = true then am_go pc ls (f.getD i.toNatClampNeg .null :: r) h else none
      | _ => none)
  | _ => none
def am_rL (pc : Nat) (ls : List (Option Value)) (st : List Value) (h : am_H) : am_A := match st with
  | .int i :: .ref a :: r => if am_tc h a = some 3 then (if am_ix i (am_len h a) = true then am_go pc ls (.long (h.2.1 a i.toNatClampNeg) :: r) h else none) else none
  | _ => none
def am_rA (pc : Nat) (ls : List (Option Value)) (st : List Value) (h : am_H) : am_A := match st with
  | .int i :: .ref a :: r => (match am_tc h a with
      | some tc => if 4 ≤ tc ∧ tc ≤ 8 then (if am_ix i (am_len h a) = true then am_go pc ls (va_rf (h.2.2.1 a i.toNatClampNeg) :: r) h else none) else none
      | none => (match am_kA.find? (fun q => q.1 == a) with
        | some (_, .object _, f) => if am_ix i f.length = true then am_go pc ls (f.getD i.toNatClampNeg .null :: r) h else none
        | _ => none))
  | _ => none
def am_wI (pc : Nat) (ls : List (Option Value)) (st : List Value) (h : am_H) : am_A := match st with
  | .int v :: .int i :: .ref a :: r => if am_tc h a = some 0 then (if am_ix i (am_len h a) = true then am_go pc ls r (am_sI h a i.toNatClampNeg v) else none) else none
  | _ => none
def am_wB (pc : Nat) (ls : List (Option Value)) (st : List Value) (h : am_H) : am_A := match st with
  | .int v :: .int i :: .ref a :: r => if am_tc h a = some 1 then (if am_ix i (am_len h a) = true then am_go pc ls r (am_sI h a i.toNatClampNeg (am_byte v)) else none)
    else if am_tc h a = some 2 then (if am_ix i (am_len h a) = true ∧ (v = 0 ∨ v = 1) then am_go pc ls r (am_sI h a i.toNatClampNeg v) else none) else none
  | _ => none
def am_wL (pc : Nat) (ls : List (Option Value)) (st : List Value) (h : am_H) : am_A := match st with
  | .long v :: .int i :: .ref a :: r => if am_tc h a = some 3 then (if am_ix i (am_len h a) = true then am_go pc ls r (am_sL h a i.toNatClampNeg v) else none) else none
  | _ => none
def am_wA (pc : Nat) (ls : List (Option Value)) (st : List Value) (h : am_H) : am_A := match st with
  | .ref v :: .int i :: .ref a :: r => (match am_tc h a with
      | some tc => if 4 ≤ tc ∧ tc ≤ 8 ∧ am_kd h v = some (.inl (am_ciOf tc)) ∧ am_ix i (am_len h a) = true then am_go pc ls r (am_sR h a i.toNatClampNeg (some v)) else none
      | none => none)
  | _ => none
def am_al (pc : Nat) (ls : List (Option Value)) (st : List Value) (h : am_H) : am_A := match st with
  | .ref a :: r => (match am_tc h a with
        | some tc => if tc ≤ 8 then am_go pc ls (.int (Int32.ofNat (am_len h a)) :: r) h else none
        | none => if a = am_CB ∧ 1 ≤ h.2.2.2.2.1 then am_go pc ls (.int (Int32.ofNat (h.2.2.2.2.1 - 1)) :: r) h
          else (match am_kA.find? (fun q => q.1 == a) with
            | some q => am_go pc ls (.int (Int32.ofNat q.2.2.length) :: r) h
            | none => none))
  | _ => none
def am_new (y : am_M) (idx pc : Nat) (ls : List (Option Value)) (st : List Value) (h : am_H) : am_A := match am_lk am_clt (am_own y) idx with
  | some (ci, _) => if am_n h + 1 < am_CB then am_go (pc + 3) ls (.ref (am_n h) :: st) (am_nw h (.inl ci)) else none
  | none => none
def am_na (a : ArrayType) (pc : Nat) (ls : List (Option Value)) (st : List Value) (h : am_H) : am_A := match st with
  | .int n :: r => (match am_nt a with
      | some tc => if am_n h + 1 < am_CB ∧ ¬ n < 0 ∧ n.toNatClampNeg ≤ 67108864 then am_go (pc + 2) ls (.ref (am_n h) :: r) (am_nw h (.inr (tc, n.toNatClampNeg))) else none
      | none => none)
  | _ => none
def am_an (y : am_M) (idx pc : Nat) (ls : List (Option Value)) (st : List Value) (h : am_H) : am_A := match st with
  | .int n :: r => (match am_lk am_clt (am_own y) idx with
      | some (ci, _) => (match am_tcOf ci with
        | some tc => if am_n h + 1 < am_CB ∧ ¬ n < 0 ∧ n.toNatClampNeg ≤ 67108864 then am_go (pc + 3) ls (.ref (am_n h) :: r) (am_nw h (.inr (tc, n.toNatClampNeg))) else none
        | none => none)
      | none => none)
  | _ => none
def am_w8 (r : List Value) : Nat := (r.map fun v => v.category).sum
/-- a call: kind 0 virtual, 1 of a class, 2 of a maker, 5 of a nest mate; y0 calls y -/
def am_call (y0 : am_M) (kind n pc : Nat) (st : List Value) (h : am_H) : am_A := match am_ms[n]? with
  | some y => if am_rf y + 1 ≤ am_rf y0 ∧ 8 + (y.2.2.1 + 11) + am_rl y ≤ am_rl y0 ∧ am_np y ≤ st.length ∧ am_w8 (st.drop (am_np y)) ≤ 8 ∧ (am_args ((st.take (am_np y)).reverse)).length ≤ y.2.2.1 ∧ ((st.take (am_np y)).reverse).all am_okv = true then
      (if kind = 1 then some (.inr (.inl (n, (st.take (am_np y)).reverse, pc + 3, st.drop (am_np y))))
       else (match (st.take (am_np y)).reverse with
        | .ref o :: as => if kind = 2 ∨ (am_own y < 12 ∧ am_kd h o = some (.inl (am_own y))) ∨ (kind = 0 ∧ o ∈ am_kS ∧ y.1.cls = "java/lang/String") then some (.inr (.inl (n, .ref o :: as, pc + 3, st.drop (am_np y)))) else none
        | _ => none)) else none
  | none => none
def am_oi (y0 : am_M) (pc : Nat) (ls : List (Option Value)) (st : List Value) (h : am_H) : am_A := match st with
  | .ref _ :: r => if 1 ≤ am_rf y0 ∧ am_w8 r + 12 ≤ am_rl y0 then am_go (pc + 3) ls r h else none
  | _ => none
def am_ac (y0 : am_M) (pc : Nat) (ls : List (Option Value)) (st : List Value) (h : am_H) : am_A := match st with
  | .int n :: .int dp :: .ref d :: .int sp :: .ref s0 :: r =>
      if 1 ≤ am_rf y0 ∧ am_w8 r + (nativeFrameWords "java/lang/System" "arraycopy" 5 + 11) ≤ am_rl y0 ∧ am_tc h s0 = am_tc h d ∧ (am_tc h d = some 0 ∨ am_tc h d = some 1) ∧ ¬ sp < 0 ∧ ¬ dp < 0 ∧ ¬ n < 0 ∧ sp.toNatClampNeg + n.toNatClampNeg ≤ am_len h s0 ∧ dp.toNatClampNeg + n.toNatClampNeg ≤ am_len h d then
        am_go (pc + 3) ls r (am_cp h s0 sp.toNatClampNeg d dp.toNatClampNeg n.toNatClampNeg) else none
  | _ => none
/-- Math's own: 6 the lesser, 7 the greater, 8 the amount -/
def am_mt (y0 : am_M) (kind pc : Nat) (ls : List (Option Value)) (st : List Value) (h : am_H) : am_A :=
  if kind = 8 then (match st with
    | .int a :: r => if 1 ≤ am_rf y0 ∧ am_w8 r + 13 ≤ am_rl y0 then am_go (pc + 3) ls (.int (if 0 ≤ a then a else 0 - a) :: r) h else none
    | _ => none)
  else (match st with
    | .int b :: .int a :: r => if 1 ≤ am_rf y0 ∧ am_w8 r + 13 ≤ am_rl y0 then (if kind = 6 then am_go (pc + 3) ls (.int (if b < a then b else a) :: r) h else am_go (pc + 3) ls (.int (if a < b then b else a) :: r) h) else none
    | _ => none)
def am_inv (y0 : am_M) (want : Nat → Bool) (idx pc : Nat) (ls : List (Option Value)) (st : List Value) (h : am_H) : am_A := match am_lk am_mlt (am_own y0) idx with
  | some (kind, n, _) => if want kind = true then (if kind = 3 then am_oi y0 pc ls st h else if kind = 4 then am_ac y0 pc ls st h else if 6 ≤ kind then am_mt y0 kind pc ls st h else am_call y0 kind n pc st h) else none
  | none => none
def am_rt (y0 : am_M) (st : List Value) : am_A := match st with
  | [.int a] => (match y0.2.2.2.1 with
      | some ty => if narrow ty (.int a) = .int a ∧ (ty = .int ∨ ty = .boolean ∨ ty = .byte ∨ ty = .char) then some (.inr (.inr (some (.int a)))) else none
      | none => none)
  | _ => none
def am_rtL (y0 : am_M) (st : List Value) : am_A := match st with
  | [.long a] => if y0.2.2.2.1 = some .long then some (.inr (.inr (some (.long a)))) else none
  | _ => none
def am_rtA (y0 : am_M) (st : List Value) : am_A := match y0.2.2.2.1 with
  | some (.object _) => (match st with
    | [.ref a] => some (.inr (.inr (some (.ref a))))
    | [.null] => some (.inr (.inr (some .null)))
    | _ => none)
  | _ => none
def am_rtV (y0 : am_M) (st : List Value) : am_A := match st with
  | [] => if y0.2.2.2.1 = none then some (.inr (.inr none)) else none
  | _ => none
def am_dup (pc : Nat) (ls : List (Option Value)) (st : List Value) (h : am_H) : am_A := match st with
  | v :: r => if v.category = 1 then am_go pc ls (v :: v :: r) h else none
  | _ => none
def am_dup2 (pc : Nat) (ls : List (Option Value)) (st : List Value) (h : am_H) : am_A := match st with
  | v :: w :: r => if v.category = 1 ∧ w.category = 1 then am_go pc ls (v :: w :: v :: w :: r) h else none
  | _ => none
def am_pop (pc : Nat) (ls : List (Option Value)) (st : List Value) (h : am_H) : am_A := match st with
  | v :: r => if v.category = 1 then am_go pc ls r h else none
  | _ => none
def am_inc (i : Nat) (n : Int) (pc : Nat) (ls : List (Option Value)) (st : List Value) (h : am_H) : am_A := match am_ld ls i with
  | some (.int a) => (match am_s1 ls i (.int (a + Int32.ofInt n)) with
    | some ls' => am_go pc ls' st h
    | none => none)
  | _ => none
def am_nn (off : Int) (pc : Nat) (ls : List (Option Value)) (st : List Value) (h : am_H) : am_A := match st with
  | .ref _ :: r => if 0 ≤ (pc : Int) + off then am_go (am_jt pc off) ls r h else none
  | .null :: r => am_go (pc + 3) ls r h
  | _ => none
def am_act (y : am_M) (i : Instr) (len pc : Nat) (ls : List (Option Value)) (st : List Value) (h : am_H) : am_A := match i with
  | .iconst c => if len = 1 then am_go (pc + 1) ls (.int (Int32.ofInt c) :: st) h else none
  | .bipush c => if len = 2 then am_go (pc + 2) ls (.int (Int8.ofInt c).toInt32 :: st) h else none
  | .sipush c => if len = 3 then am_go (pc + 3) ls (.int (Int16.ofInt c).toInt32 :: st) h else none
  | .lconst c => if len = 1 then am_go (pc + 1) ls (.long (Int64.ofNat (c : Nat)) :: st) h else none
  | .aconst_null => if len = 1 then am_go (pc + 1) ls (.null :: st) h else none
  | .ldc idx => if len = 2 then (match am_lk am_kit (am_own y) idx with
    | some (v, _) => am_go (pc + 2) ls (.int v :: st) h
    | none => none) else none
  | .ldc_w idx => if len = 3 then (match am_lk am_kit (am_own y) idx with
    | some (v, _) => am_go (pc + 3) ls (.int v :: st) h
    | none => none) else none
  | .ldc2_w idx => if len = 3 then (match am_lk am_klt (am_own y) idx with
    | some (v, _) => am_go (pc + 3) ls (.long v :: st) h
    | none => none) else none
  | .iload i => if len = 2 then am_lI i (pc + 2) ls st h else none
  | .iload_n i => if len = 1 then am_lI i (pc + 1) ls st h else none
  | .lload i => if len = 2 then am_lL i (pc + 2) ls st h else none
  | .lload_n i => if len = 1 then am_lL i (pc + 1) ls st h else none
  | .aload i => if len = 2 then am_lA i (pc + 2) ls st h else none
  | .aload_n i => if len = 1 then am_lA i (pc + 1) ls st h else none
  | .istore i => if len = 2 then am_tI i (pc + 2) ls st h else none
  | .istore_n i => if len = 1 then am_tI i (pc + 1) ls st h else none
  | .lstore i => if len = 2 then am_tL i (pc + 2) ls st h else none
  | .lstore_n i => if len = 1 then am_tL i (pc + 1) ls st h else none
  | .astore i => if len = 2 then am_tA i (pc + 2) ls st h else none
  | .astore_n i => if len = 1 then am_tA i (pc + 1) ls st h else none
  | .iinc i n => if len = 3 then am_inc i n (pc + 3) ls st h else none
  | .iadd => if len = 1 then am_ii (fun a b => a + b) (pc + 1) ls st h else none
  | .isub => if len = 1 then am_ii (fun a b => a - b) (pc + 1) ls st h else none
  | .imul => if len = 1 then am_ii (fun a b => a * b) (pc + 1) ls st h else none
  | .iand => if len = 1 then am_ii (fun a b => a &&& b) (pc + 1) ls st h else none
  | .ior => if len = 1 then am_ii (fun a b => a ||| b) (pc + 1) ls st h else none
  | .ixor => if len = 1 then am_ii (fun a b => a ^^^ b) (pc + 1) ls st h else none
  | .ishl => if len = 1 then am_ii (fun a b => a <<< (b &&& 31)) (pc + 1) ls st h else none
  | .ishr => if len = 1 then am_ii (fun a b => a >>> (b &&& 31)) (pc + 1) ls st h else none
  | .iushr => if len = 1 then am_ii (fun a b => (a.toUInt32 >>> (b.toUInt32 &&& Int32.toUInt32 31)).toInt32) (pc + 1) ls st h else none
  | .idiv => if len = 1 then am_iz (fun a b => a / b) (pc + 1) ls st h else none
  | .irem => if len = 1 then am_iz (fun a b => a - a / b * b) (pc + 1) ls st h else none
  | .ineg => if len = 1 then am_i1 (fun a => .int (-a)) (pc + 1) ls st h else none
  | .i2b => if len = 1 then am_i1 (fun a => .int a.toInt8.toInt32) (pc + 1) ls st h else none
  | .i2c => if len = 1 then am_i1 (fun a => .int (a.toUInt32 % 65536).toInt32) (pc + 1) ls st h else none
  | .i2l => if len = 1 then am_i1 (fun a => .long a.toInt64) (pc + 1) ls st h else none
  | .l2i => if len = 1 then am_l1 (fun a => .int a.toInt32) (pc + 1) ls st h else none
  | .ladd => if len = 1 then am_ll (fun a b => a + b) (pc + 1) ls st h else none
  | .lsub => if len = 1 then am_ll (fun a b => a - b) (pc + 1) ls st h else none
  | .lmul => if len = 1 then am_ll (fun a b => a * b) (pc + 1) ls st h else none
  | .land => if len = 1 then am_ll (fun a b => a &&& b) (pc + 1) ls st h else none
  | .lor => if len = 1 then am_ll (fun a b => a ||| b) (pc + 1) ls st h else none
  | .ldiv => if len = 1 then am_lz (fun a b => a / b) (pc + 1) ls st h else none
  | .lrem => if len = 1 then am_lz (fun a b => a - a / b * b) (pc + 1) ls st h else none
  | .lshl => if len = 1 then am_li (fun a b => a <<< (b.toInt64 &&& 63)) (pc + 1) ls st h else none
  | .lshr => if len = 1 then am_li (fun a b => a >>> (b.toInt64 &&& 63)) (pc + 1) ls st h else none
  | .lushr => if len = 1 then am_li (fun a b => (a.toUInt64 >>> (b.toInt64.toUInt64 &&& Int64.toUInt64 63)).toInt64) (pc + 1) ls st h else none
  | .lcmp => if len = 1 then (match st with
    | .long b :: .long a :: r => am_go (pc + 1) ls (.int (lg_cmp a b) :: r) h
    | _ => none) else none
  | .dup => if len = 1 then am_dup (pc + 1) ls st h else none
  | .dup2 => if len = 1 then am_dup2 (pc + 1) ls st h else none
  | .pop => if len = 1 then am_pop (pc + 1) ls st h else none
  | .ifCond c off => if len = 3 then am_if1 c off pc ls st h else none
  | .if_icmp c off => if len = 3 then am_if2 c off pc ls st h else none
  | .ifnonnull off => if len = 3 then am_nn off pc ls st h else none
  | .goto off => if len = 3 ∧ 0 ≤ (pc : Int) + off then am_go (am_jt pc off) ls st h else none
  | .tableswitch d lo hi offs => am_sw d lo hi offs pc ls st h
  | .getfield idx => if len = 3 then am_gf y idx pc ls st h else none
  | .putfield idx => if len = 3 then am_pf y idx pc ls st h else none
  | .getstatic idx => if len = 3 then am_gs y idx pc ls st h else none
  | .iaload => if len = 1 then am_rI (pc + 1) ls st h else none
  | .baload => if len = 1 then am_rB (pc + 1) ls st h else none
  | .laload => if len = 1 then am_rL (pc + 1) ls st h else none
  | .aaload => if len = 1 then am_rA (pc + 1) ls st h else none
  | .iastore => if len = 1 then am_wI (pc + 1) ls st h else none
  | .bastore => if len = 1 then am_wB (pc + 1) ls st h else none
  | .lastore => if len = 1 then am_wL (pc + 1) ls st h else none
  | .aastore => if len = 1 then am_wA (pc + 1) ls st h else none
  | .arraylength => if len = 1 then am_al (pc + 1) ls st h else none
  | .new idx => if len = 3 then am_new y idx pc ls st h else none
  | .newarray a => if len = 2 then am_na a pc ls st h else none
  | .anewarray idx => if len = 3 then am_an y idx pc ls st h else none
  | .invokevirtual idx => if len = 3 then am_inv y (fun k => k == 0 || k == 5) idx pc ls st h else none
  | .invokestatic idx => if len = 3 then am_inv y (fun k => k == 1 || k == 4 || k == 6 || k == 7 || k == 8) idx pc ls st h else none
  | .invokespecial idx => if len = 3 then am_inv y (fun k => k == 2 || k == 3) idx pc ls st h else none
  | .ireturn => if len = 1 then am_rt y st else none
  | .lreturn => if len = 1 then am_rtL y st else none
  | .areturn => if len = 1 then am_rtA y st else none
  | .return_ => if len = 1 then am_rtV y st else none
  | _ => none
/-- the machine: n bounds the steps and the depth -/
def am_run : Nat → Nat → Nat → List (Option Value) → List Value → am_H → Option (Option Value × am_H)
  | 0, _, _, _, _, _ => none
  | n + 1, k, pc, ls, st, h => (match am_ms[k]? with
    | none => none
    | some y => (match decode y.2.1 pc with
      | .error _ => none
      | .ok (i, len) => (match am_act y i len pc ls st h with
        | none => none
        | some (.inl c) => am_run n k c.1 c.2.1 c.2.2.1 c.2.2.2
        | some (.inr (.inl q)) => (match am_ms[q.1]? with
          | none => none
          | some y1 => (match am_run n q.1 0 (am_ent y1.2.2.1 q.2.1) [] h with
            | none => none
            | some r => am_run n k q.2.2.1 ls (r.1.toList ++ q.2.2.2) r.2))
        | some (.inr (.inr v)) => some (v, h))))
theorem am_mono : ∀ (n k pc : Nat) (ls : List (Option Value)) (st : List Value) (h : am_H) (r : Option Value × am_H), am_run n k pc ls st h = some r → am_run (n + 1) k pc ls st h = some r := by
  intro n
  induction n with
  | zero => intro k pc ls st h r hr; cases hr
  | succ n ih =>
    intro k pc ls st h r hr
    rw [am_run] at hr ⊢
    split at hr
    · cases hr
    · rename_i y hy
      split at hr
      · cases hr
      · rename_i i len hd
        split at hr
        · cases hr
        · rename_i c ha
          exact ih _ _ _ _ _ _ hr
        · rename_i q ha
          split at hr
          · cases hr
          · rename_i y1 hy1
            split at hr
            · cases hr
            · rename_i r1 hr1
              rw [ih _ _ _ _ _ _ hr1]
              exact ih _ _ _ _ _ _ hr
        · rename_i v ha
          exact hr
theorem am_mono_le {n n' k pc : Nat} {ls : List (Option Value)} {st : List Value} {h : am_H} {r : Option Value × am_H} (hn : n ≤ n') (hr : am_run n k pc ls st h = some r) : am_run n' k pc ls st h = some r := by
  induction hn with
  | refl => exact hr
  | step _ ih => exact am_mono _ _ _ _ _ _ _ ih
