/-! part 17: the constants at the law's entry (by wip/whole/world.py) -/
theorem am_eqR {args : Array Value} {s : State} {t u : Term} {a : Nat} (h : (Cond.eq t u).before args s = true) (hu : u.eval args s none [] s = some (.ref a)) : t.eval args s none [] s = some (.ref a) := by
  cases hv : t.eval args s none [] s with
  | none => simp [Cond.before, Cond.holds, Cond.value, hv] at h
  | some w =>
    simp only [Cond.before, Cond.holds, Cond.value, hv, hu] at h
    cases w <;> simp_all
theorem am_exR {args : Array Value} {s : State} {t : Term} {nm : String} (h : (Cond.exactly t nm).before args s = true) : ∃ a : Nat, t.eval args s none [] s = some (.ref a) := by
  obtain ⟨a, c, cA, kA, q1, -⟩ := Cond.exactly_spec (args := args) (first := s) (o := none) (s := s) (idx := []) (t := t) (cls := nm) h
  exact ⟨a, q1⟩
theorem am_Tc {ty : FieldType} {t N : Nat} {f g : Nat → Value} {A : Nat → Prop} {U : State} {H : Heap} (h : va_T ty t N f A U H) (hfg : ∀ j, j < N → f j = g j) : va_T ty t N g A U H := by
  obtain ⟨cell, h1, h2, h3, h4, h5, h6, h7⟩ := h
  exact ⟨cell, h1, h2, h3, h4, h5, fun j hj => by rw [← hfg j hj]; exact h6 j hj, h7⟩
set_option maxHeartbeats 8000000 in
set_option maxRecDepth 100000 in
theorem am_consts {args : Array Value} {s : State} (hts : ∀ t ∈ lw_tbl, t.before args s = true) (hgv : (Jvm.Cond.and given_1 narrow_1).before args s = true) {b L : Nat} {xs : Nat → Int32} (hX : va_X b L xs s s.heap) (hbl : b < s.heap.size) (D : va_G) (dA : Nat → ClassId) : ∃ (ad : Nat → Nat) (vF : Option Nat), am_a (D, dA, s.heap.size, ad, vF) am_CB = b ∧ am_Cf (D, dA, s.heap.size, ad, vF) (L + 1, xs) s s.heap := by
  have hs := flat_of_before _ hgv
  have hA : ∀ a : Nat, a < s.heap.size → ¬ (fun q : Nat => s.heap.size ≤ q) a := fun a h q => absurd h (Nat.not_lt.mpr q)
  have x0 : (Cond.exactly (.static "DogNotary$Line" "EWE" "LDogNotary$Line;") "DogNotary$Line").before args s = true := hs _ (by decide +kernel)
  obtain ⟨a0, h0⟩ := am_exR x0
  have x1 : (Cond.exactly (.static "DogNotary$Line" "RAM" "LDogNotary$Line;") "DogNotary$Line").before args s = true := hs _ (by decide +kernel)
  obtain ⟨a1, h1⟩ := am_exR x1
  have x2 : (Cond.exactly (.static "DogNotary$Line" "BOLTER" "LDogNotary$Line;") "DogNotary$Line").before args s = true := hs _ (by decide +kernel)
  obtain ⟨a2, h2⟩ := am_exR x2
  have x3 : (Cond.exactly (.static "DogNotary$Line" "GOOSE" "LDogNotary$Line;") "DogNotary$Line").before args s = true := hs _ (by decide +kernel)
  obtain ⟨a3, h3⟩ := am_exR x3
  have x4 : (Cond.exactly (.static "DogNotary$Line" "WALL" "LDogNotary$Line;") "DogNotary$Line").before args s = true := hs _ (by decide +kernel)
  obtain ⟨a4, h4⟩ := am_exR x4
  have x5 : (Cond.exactly (.static "DogNotary$Line" "PEN" "LDogNotary$Line;") "DogNotary$Line").before args s = true := hs _ (by decide +kernel)
  obtain ⟨a5, h5⟩ := am_exR x5
  have x6 : (Cond.exactly (.static "DogNotary$Line" "SIZE" "LDogNotary$Line;") "DogNotary$Line").before args s = true := hs _ (by decide +kernel)
  obtain ⟨a6, h6⟩ := am_exR x6
  have x7 : (Cond.exactly (.static "DogNotary$Line" "DOG" "LDogNotary$Line;") "DogNotary$Line").before args s = true := hs _ (by decide +kernel)
  obtain ⟨a7, h7⟩ := am_exR x7
  have x8 : (Cond.exactly (.static "DogNotary$Line" "GO" "LDogNotary$Line;") "DogNotary$Line").before args s = true := hs _ (by decide +kernel)
  obtain ⟨a8, h8⟩ := am_exR x8
  have x9 : (Cond.exactly (.static "DogNotary$Line" "LIE" "LDogNotary$Line;") "DogNotary$Line").before args s = true := hs _ (by decide +kernel)
  obtain ⟨a9, h9⟩ := am_exR x9
  have x10 : (Cond.exactly (.static "DogNotary$Line" "STAND" "LDogNotary$Line;") "DogNotary$Line").before args s = true := hs _ (by decide +kernel)
  obtain ⟨a10, h10⟩ := am_exR x10
  have x11 : (Cond.exactly (.static "DogNotary$Line" "BACK" "LDogNotary$Line;") "DogNotary$Line").before args s = true := hs _ (by decide +kernel)
  obtain ⟨a11, h11⟩ := am_exR x11
  have x12 : (Cond.exactly (.static "DogNotary$Line" "HELPER" "LDogNotary$Line;") "DogNotary$Line").before args s = true := hs _ (by decide +kernel)
  obtain ⟨a12, h12⟩ := am_exR x12
  have x13 : (Cond.exactly (.static "DogNotary$Line" "BARGAIN" "LDogNotary$Line;") "DogNotary$Line").before args s = true := hs _ (by decide +kernel)
  obtain ⟨a13, h13⟩ := am_exR x13
  have x14 : (Cond.exactly (.static "DogNotary$Line" "FIELD" "LDogNotary$Line;") "DogNotary$Line").before args s = true := hs _ (by decide +kernel)
  obtain ⟨a14, h14⟩ := am_exR x14
  have x15 : (Cond.exactly (.static "DogNotary$Line" "WENT" "LDogNotary$Line;") "DogNotary$Line").before args s = true := hs _ (by decide +kernel)
  obtain ⟨a15, h15⟩ := am_exR x15
  have x16 : (Cond.exactly (.static "DogNotary$Line" "TWICE" "LDogNotary$Line;") "DogNotary$Line").before args s = true := hs _ (by decide +kernel)
  obtain ⟨a16, h16⟩ := am_exR x16
  have x17 : (Cond.exactly (.static "DogNotary$Line" "STAYED" "LDogNotary$Line;") "DogNotary$Line").before args s = true := hs _ (by decide +kernel)
  obtain ⟨a17, h17⟩ := am_exR x17
  have y0 : (Cond.exactly (.string "DogNotary$Line" 122) "java/lang/String").before args s = true := hs _ (by decide +kernel)
  obtain ⟨s0, g0⟩ := am_exR y0
  obtain ⟨t0, u0, v0⟩ := va_Tof (args := args) (s := s) (tm := (.field (.string "DogNotary$Line" 122) "java/lang/String" "value" "[B")) (ty := .byte) (N := 3) (f := fun j => ([.int 100, .int 111, .int 103] : List Value).getD j .null) (A := fun q : Nat => s.heap.size ≤ q) (by decide) (hs _ (by decide +kernel)) (va_eqt (hs (.eq (.length (.field (.string "DogNotary$Line" 122) "java/lang/String" "value" "[B")) (.int 3)) (by decide +kernel))) (fun j hj => by
      match j, hj with
      | 0, _ => exact va_eqt (hs (.eq (.elem (.field (.string "DogNotary$Line" 122) "java/lang/String" "value" "[B") (.int 0)) (.int 100)) (by decide +kernel))
      | 1, _ => exact va_eqt (hs (.eq (.elem (.field (.string "DogNotary$Line" 122) "java/lang/String" "value" "[B") (.int 1)) (.int 111)) (by decide +kernel))
      | 2, _ => exact va_eqt (hs (.eq (.elem (.field (.string "DogNotary$Line" 122) "java/lang/String" "value" "[B") (.int 2)) (.int 103)) (by decide +kernel))
      | j + 3, q => exact absurd q (by omega)) hA
  have y1 : (Cond.exactly (.string "DogNotary$Line" 143) "java/lang/String").before args s = true := hs _ (by decide +kernel)
  obtain ⟨s1, g1⟩ := am_exR y1
  obtain ⟨t1, u1, v1⟩ := va_Tof (args := args) (s := s) (tm := (.field (.string "DogNotary$Line" 143) "java/lang/String" "value" "[B")) (ty := .byte) (N := 2) (f := fun j => ([.int 101, .int 100] : List Value).getD j .null) (A := fun q : Nat => s.heap.size ≤ q) (by decide) (hs _ (by decide +kernel)) (va_eqt (hs (.eq (.length (.field (.string "DogNotary$Line" 143) "java/lang/String" "value" "[B")) (.int 2)) (by decide +kernel))) (fun j hj => by
      match j, hj with
      | 0, _ => exact va_eqt (hs (.eq (.elem (.field (.string "DogNotary$Line" 143) "java/lang/String" "value" "[B") (.int 0)) (.int 101)) (by decide +kernel))
      | 1, _ => exact va_eqt (hs (.eq (.elem (.field (.string "DogNotary$Line" 143) "java/lang/String" "value" "[B") (.int 1)) (.int 100)) (by decide +kernel))
      | j + 2, q => exact absurd q (by omega)) hA
  have y2 : (Cond.exactly (.string "DogNotary$Line" 146) "java/lang/String").before args s = true := hs _ (by decide +kernel)
  obtain ⟨s2, g2⟩ := am_exR y2
  obtain ⟨t2, u2, v2⟩ := va_Tof (args := args) (s := s) (tm := (.field (.string "DogNotary$Line" 146) "java/lang/String" "value" "[B")) (ty := .byte) (N := 7) (f := fun j => ([.int 98, .int 97, .int 114, .int 103, .int 97, .int 105, .int 110] : List Value).getD j .null) (A := fun q : Nat => s.heap.size ≤ q) (by decide) (hs _ (by decide +kernel)) (va_eqt (hs (.eq (.length (.field (.string "DogNotary$Line" 146) "java/lang/String" "value" "[B")) (.int 7)) (by decide +kernel))) (fun j hj => by
      match j, hj with
      | 0, _ => exact va_eqt (hs (.eq (.elem (.field (.string "DogNotary$Line" 146) "java/lang/String" "value" "[B") (.int 0)) (.int 98)) (by decide +kernel))
      | 1, _ => exact va_eqt (hs (.eq (.elem (.field (.string "DogNotary$Line" 146) "java/lang/String" "value" "[B") (.int 1)) (.int 97)) (by decide +kernel))
      | 2, _ => exact va_eqt (hs (.eq (.elem (.field (.string "DogNotary$Line" 146) "java/lang/String" "value" "[B") (.int 2)) (.int 114)) (by decide +kernel))
      | 3, _ => exact va_eqt (hs (.eq (.elem (.field (.string "DogNotary$Line" 146) "java/lang/String" "value" "[B") (.int 3)) (.int 103)) (by decide +kernel))
      | 4, _ => exact va_eqt (hs (.eq (.elem (.field (.string "DogNotary$Line" 146) "java/lang/String" "value" "[B") (.int 4)) (.int 97)) (by decide +kernel))
      | 5, _ => exact va_eqt (hs (.eq (.elem (.field (.string "DogNotary$Line" 146) "java/lang/String" "value" "[B") (.int 5)) (.int 105)) (by decide +kernel))
      | 6, _ => exact va_eqt (hs (.eq (.elem (.field (.string "DogNotary$Line" 146) "java/lang/String" "value" "[B") (.int 6)) (.int 110)) (by decide +kernel))
      | j + 7, q => exact absurd q (by omega)) hA
  have y3 : (Cond.exactly (.string "DogNotary$Line" 148) "java/lang/String").before args s = true := hs _ (by decide +kernel)
  obtain ⟨s3, g3⟩ := am_exR y3
  obtain ⟨t3, u3, v3⟩ := va_Tof (args := args) (s := s) (tm := (.field (.string "DogNotary$Line" 148) "java/lang/String" "value" "[B")) (ty := .byte) (N := 2) (f := fun j => ([.int 101, .int 119] : List Value).getD j .null) (A := fun q : Nat => s.heap.size ≤ q) (by decide) (hs _ (by decide +kernel)) (va_eqt (hs (.eq (.length (.field (.string "DogNotary$Line" 148) "java/lang/String" "value" "[B")) (.int 2)) (by decide +kernel))) (fun j hj => by
      match j, hj with
      | 0, _ => exact va_eqt (hs (.eq (.elem (.field (.string "DogNotary$Line" 148) "java/lang/String" "value" "[B") (.int 0)) (.int 101)) (by decide +kernel))
      | 1, _ => exact va_eqt (hs (.eq (.elem (.field (.string "DogNotary$Line" 148) "java/lang/String" "value" "[B") (.int 1)) (.int 119)) (by decide +kernel))
      | j + 2, q => exact absurd q (by omega)) hA
  have y4 : (Cond.exactly (.string "DogNotary$Line" 117) "java/lang/String").before args s = true := hs _ (by decide +kernel)
  obtain ⟨s4, g4⟩ := am_exR y4
  obtain ⟨t4, u4, v4⟩ := va_Tof (args := args) (s := s) (tm := (.field (.string "DogNotary$Line" 117) "java/lang/String" "value" "[B")) (ty := .byte) (N := 4) (f := fun j => ([.int 115, .int 105, .int 122, .int 101] : List Value).getD j .null) (A := fun q : Nat => s.heap.size ≤ q) (by decide) (hs _ (by decide +kernel)) (va_eqt (hs (.eq (.length (.field (.string "DogNotary$Line" 117) "java/lang/String" "value" "[B")) (.int 4)) (by decide +kernel))) (fun j hj => by
      match j, hj with
      | 0, _ => exact va_eqt (hs (.eq (.elem (.field (.string "DogNotary$Line" 117) "java/lang/String" "value" "[B") (.int 0)) (.int 115)) (by decide +kernel))
      | 1, _ => exact va_eqt (hs (.eq (.elem (.field (.string "DogNotary$Line" 117) "java/lang/String" "value" "[B") (.int 1)) (.int 105)) (by decide +kernel))
      | 2, _ => exact va_eqt (hs (.eq (.elem (.field (.string "DogNotary$Line" 117) "java/lang/String" "value" "[B") (.int 2)) (.int 122)) (by decide +kernel))
      | 3, _ => exact va_eqt (hs (.eq (.elem (.field (.string "DogNotary$Line" 117) "java/lang/String" "value" "[B") (.int 3)) (.int 101)) (by decide +kernel))
      | j + 4, q => exact absurd q (by omega)) hA
  have y5 : (Cond.exactly (.string "DogNotary$Line" 119) "java/lang/String").before args s = true := hs _ (by decide +kernel)
  obtain ⟨s5, g5⟩ := am_exR y5
  obtain ⟨t5, u5, v5⟩ := va_Tof (args := args) (s := s) (tm := (.field (.string "DogNotary$Line" 119) "java/lang/String" "value" "[B")) (ty := .byte) (N := 2) (f := fun j => ([.int 115, .int 115] : List Value).getD j .null) (A := fun q : Nat => s.heap.size ≤ q) (by decide) (hs _ (by decide +kernel)) (va_eqt (hs (.eq (.length (.field (.string "DogNotary$Line" 119) "java/lang/String" "value" "[B")) (.int 2)) (by decide +kernel))) (fun j hj => by
      match j, hj with
      | 0, _ => exact va_eqt (hs (.eq (.elem (.field (.string "DogNotary$Line" 119) "java/lang/String" "value" "[B") (.int 0)) (.int 115)) (by decide +kernel))
      | 1, _ => exact va_eqt (hs (.eq (.elem (.field (.string "DogNotary$Line" 119) "java/lang/String" "value" "[B") (.int 1)) (.int 115)) (by decide +kernel))
      | j + 2, q => exact absurd q (by omega)) hA
  have y6 : (Cond.exactly (.string "DogNotary$Line" 111) "java/lang/String").before args s = true := hs _ (by decide +kernel)
  obtain ⟨s6, g6⟩ := am_exR y6
  obtain ⟨t6, u6, v6⟩ := va_Tof (args := args) (s := s) (tm := (.field (.string "DogNotary$Line" 111) "java/lang/String" "value" "[B")) (ty := .byte) (N := 4) (f := fun j => ([.int 119, .int 97, .int 108, .int 108] : List Value).getD j .null) (A := fun q : Nat => s.heap.size ≤ q) (by decide) (hs _ (by decide +kernel)) (va_eqt (hs (.eq (.length (.field (.string "DogNotary$Line" 111) "java/lang/String" "value" "[B")) (.int 4)) (by decide +kernel))) (fun j hj => by
      match j, hj with
      | 0, _ => exact va_eqt (hs (.eq (.elem (.field (.string "DogNotary$Line" 111) "java/lang/String" "value" "[B") (.int 0)) (.int 119)) (by decide +kernel))
      | 1, _ => exact va_eqt (hs (.eq (.elem (.field (.string "DogNotary$Line" 111) "java/lang/String" "value" "[B") (.int 1)) (.int 97)) (by decide +kernel))
      | 2, _ => exact va_eqt (hs (.eq (.elem (.field (.string "DogNotary$Line" 111) "java/lang/String" "value" "[B") (.int 2)) (.int 108)) (by decide +kernel))
      | 3, _ => exact va_eqt (hs (.eq (.elem (.field (.string "DogNotary$Line" 111) "java/lang/String" "value" "[B") (.int 3)) (.int 108)) (by decide +kernel))
      | j + 4, q => exact absurd q (by omega)) hA
  have y7 : (Cond.exactly (.string "DogNotary$Line" 96) "java/lang/String").before args s = true := hs _ (by decide +kernel)
  obtain ⟨s7, g7⟩ := am_exR y7
  obtain ⟨t7, u7, v7⟩ := va_Tof (args := args) (s := s) (tm := (.field (.string "DogNotary$Line" 96) "java/lang/String" "value" "[B")) (ty := .byte) (N := 2) (f := fun j => ([.int 99, .int 99] : List Value).getD j .null) (A := fun q : Nat => s.heap.size ≤ q) (by decide) (hs _ (by decide +kernel)) (va_eqt (hs (.eq (.length (.field (.string "DogNotary$Line" 96) "java/lang/String" "value" "[B")) (.int 2)) (by decide +kernel))) (fun j hj => by
      match j, hj with
      | 0, _ => exact va_eqt (hs (.eq (.elem (.field (.string "DogNotary$Line" 96) "java/lang/String" "value" "[B") (.int 0)) (.int 99)) (by decide +kernel))
      | 1, _ => exact va_eqt (hs (.eq (.elem (.field (.string "DogNotary$Line" 96) "java/lang/String" "value" "[B") (.int 1)) (.int 99)) (by decide +kernel))
      | j + 2, q => exact absurd q (by omega)) hA
  have y8 : (Cond.exactly (.string "DogNotary$Line" 114) "java/lang/String").before args s = true := hs _ (by decide +kernel)
  obtain ⟨s8, g8⟩ := am_exR y8
  obtain ⟨t8, u8, v8⟩ := va_Tof (args := args) (s := s) (tm := (.field (.string "DogNotary$Line" 114) "java/lang/String" "value" "[B")) (ty := .byte) (N := 3) (f := fun j => ([.int 112, .int 101, .int 110] : List Value).getD j .null) (A := fun q : Nat => s.heap.size ≤ q) (by decide) (hs _ (by decide +kernel)) (va_eqt (hs (.eq (.length (.field (.string "DogNotary$Line" 114) "java/lang/String" "value" "[B")) (.int 3)) (by decide +kernel))) (fun j hj => by
      match j, hj with
      | 0, _ => exact va_eqt (hs (.eq (.elem (.field (.string "DogNotary$Line" 114) "java/lang/String" "value" "[B") (.int 0)) (.int 112)) (by decide +kernel))
      | 1, _ => exact va_eqt (hs (.eq (.elem (.field (.string "DogNotary$Line" 114) "java/lang/String" "value" "[B") (.int 1)) (.int 101)) (by decide +kernel))
      | 2, _ => exact va_eqt (hs (.eq (.elem (.field (.string "DogNotary$Line" 114) "java/lang/String" "value" "[B") (.int 2)) (.int 110)) (by decide +kernel))
      | j + 3, q => exact absurd q (by omega)) hA
  have y9 : (Cond.exactly (.string "DogNotary$Line" 151) "java/lang/String").before args s = true := hs _ (by decide +kernel)
  obtain ⟨s9, g9⟩ := am_exR y9
  obtain ⟨t9, u9, v9⟩ := va_Tof (args := args) (s := s) (tm := (.field (.string "DogNotary$Line" 151) "java/lang/String" "value" "[B")) (ty := .byte) (N := 5) (f := fun j => ([.int 102, .int 105, .int 101, .int 108, .int 100] : List Value).getD j .null) (A := fun q : Nat => s.heap.size ≤ q) (by decide) (hs _ (by decide +kernel)) (va_eqt (hs (.eq (.length (.field (.string "DogNotary$Line" 151) "java/lang/String" "value" "[B")) (.int 5)) (by decide +kernel))) (fun j hj => by
      match j, hj with
      | 0, _ => exact va_eqt (hs (.eq (.elem (.field (.string "DogNotary$Line" 151) "java/lang/String" "value" "[B") (.int 0)) (.int 102)) (by decide +kernel))
      | 1, _ => exact va_eqt (hs (.eq (.elem (.field (.string "DogNotary$Line" 151) "java/lang/String" "value" "[B") (.int 1)) (.int 105)) (by decide +kernel))
      | 2, _ => exact va_eqt (hs (.eq (.elem (.field (.string "DogNotary$Line" 151) "java/lang/String" "value" "[B") (.int 2)) (.int 101)) (by decide +kernel))
      | 3, _ => exact va_eqt (hs (.eq (.elem (.field (.string "DogNotary$Line" 151) "java/lang/String" "value" "[B") (.int 3)) (.int 108)) (by decide +kernel))
      | 4, _ => exact va_eqt (hs (.eq (.elem (.field (.string "DogNotary$Line" 151) "java/lang/String" "value" "[B") (.int 4)) (.int 100)) (by decide +kernel))
      | j + 5, q => exact absurd q (by omega)) hA
  have y10 : (Cond.exactly (.string "DogNotary$Line" 153) "java/lang/String").before args s = true := hs _ (by decide +kernel)
  obtain ⟨s10, g10⟩ := am_exR y10
  obtain ⟨t10, u10, v10⟩ := va_Tof (args := args) (s := s) (tm := (.field (.string "DogNotary$Line" 153) "java/lang/String" "value" "[B")) (ty := .byte) (N := 1) (f := fun j => ([.int 119] : List Value).getD j .null) (A := fun q : Nat => s.heap.size ≤ q) (by decide) (hs _ (by decide +kernel)) (va_eqt (hs (.eq (.length (.field (.string "DogNotary$Line" 153) "java/lang/String" "value" "[B")) (.int 1)) (by decide +kernel))) (fun j hj => by
      match j, hj with
      | 0, _ => exact va_eqt (hs (.eq (.elem (.field (.string "DogNotary$Line" 153) "java/lang/String" "value" "[B") (.int 0)) (.int 119)) (by decide +kernel))
      | j + 1, q => exact absurd q (by omega)) hA
  have y11 : (Cond.exactly (.string "DogNotary$Line" 94) "java/lang/String").before args s = true := hs _ (by decide +kernel)
  obtain ⟨s11, g11⟩ := am_exR y11
  obtain ⟨t11, u11, v11⟩ := va_Tof (args := args) (s := s) (tm := (.field (.string "DogNotary$Line" 94) "java/lang/String" "value" "[B")) (ty := .byte) (N := 3) (f := fun j => ([.int 101, .int 119, .int 101] : List Value).getD j .null) (A := fun q : Nat => s.heap.size ≤ q) (by decide) (hs _ (by decide +kernel)) (va_eqt (hs (.eq (.length (.field (.string "DogNotary$Line" 94) "java/lang/String" "value" "[B")) (.int 3)) (by decide +kernel))) (fun j hj => by
      match j, hj with
      | 0, _ => exact va_eqt (hs (.eq (.elem (.field (.string "DogNotary$Line" 94) "java/lang/String" "value" "[B") (.int 0)) (.int 101)) (by decide +kernel))
      | 1, _ => exact va_eqt (hs (.eq (.elem (.field (.string "DogNotary$Line" 94) "java/lang/String" "value" "[B") (.int 1)) (.int 119)) (by decide +kernel))
      | 2, _ => exact va_eqt (hs (.eq (.elem (.field (.string "DogNotary$Line" 94) "java/lang/String" "value" "[B") (.int 2)) (.int 101)) (by decide +kernel))
      | j + 3, q => exact absurd q (by omega)) hA
  have y12 : (Cond.exactly (.string "DogNotary$Line" 102) "java/lang/String").before args s = true := hs _ (by decide +kernel)
  obtain ⟨s12, g12⟩ := am_exR y12
  obtain ⟨t12, u12, v12⟩ := va_Tof (args := args) (s := s) (tm := (.field (.string "DogNotary$Line" 102) "java/lang/String" "value" "[B")) (ty := .byte) (N := 3) (f := fun j => ([.int 114, .int 97, .int 109] : List Value).getD j .null) (A := fun q : Nat => s.heap.size ≤ q) (by decide) (hs _ (by decide +kernel)) (va_eqt (hs (.eq (.length (.field (.string "DogNotary$Line" 102) "java/lang/String" "value" "[B")) (.int 3)) (by decide +kernel))) (fun j hj => by
      match j, hj with
      | 0, _ => exact va_eqt (hs (.eq (.elem (.field (.string "DogNotary$Line" 102) "java/lang/String" "value" "[B") (.int 0)) (.int 114)) (by decide +kernel))
      | 1, _ => exact va_eqt (hs (.eq (.elem (.field (.string "DogNotary$Line" 102) "java/lang/String" "value" "[B") (.int 1)) (.int 97)) (by decide +kernel))
      | 2, _ => exact va_eqt (hs (.eq (.elem (.field (.string "DogNotary$Line" 102) "java/lang/String" "value" "[B") (.int 2)) (.int 109)) (by decide +kernel))
      | j + 3, q => exact absurd q (by omega)) hA
  have y13 : (Cond.exactly (.string "DogNotary$Line" 105) "java/lang/String").before args s = true := hs _ (by decide +kernel)
  obtain ⟨s13, g13⟩ := am_exR y13
  obtain ⟨t13, u13, v13⟩ := va_Tof (args := args) (s := s) (tm := (.field (.string "DogNotary$Line" 105) "java/lang/String" "value" "[B")) (ty := .byte) (N := 6) (f := fun j => ([.int 98, .int 111, .int 108, .int 116, .int 101, .int 114] : List Value).getD j .null) (A := fun q : Nat => s.heap.size ≤ q) (by decide) (hs _ (by decide +kernel)) (va_eqt (hs (.eq (.length (.field (.string "DogNotary$Line" 105) "java/lang/String" "value" "[B")) (.int 6)) (by decide +kernel))) (fun j hj => by
      match j, hj with
      | 0, _ => exact va_eqt (hs (.eq (.elem (.field (.string "DogNotary$Line" 105) "java/lang/String" "value" "[B") (.int 0)) (.int 98)) (by decide +kernel))
      | 1, _ => exact va_eqt (hs (.eq (.elem (.field (.string "DogNotary$Line" 105) "java/lang/String" "value" "[B") (.int 1)) (.int 111)) (by decide +kernel))
      | 2, _ => exact va_eqt (hs (.eq (.elem (.field (.string "DogNotary$Line" 105) "java/lang/String" "value" "[B") (.int 2)) (.int 108)) (by decide +kernel))
      | 3, _ => exact va_eqt (hs (.eq (.elem (.field (.string "DogNotary$Line" 105) "java/lang/String" "value" "[B") (.int 3)) (.int 116)) (by decide +kernel))
      | 4, _ => exact va_eqt (hs (.eq (.elem (.field (.string "DogNotary$Line" 105) "java/lang/String" "value" "[B") (.int 4)) (.int 101)) (by decide +kernel))
      | 5, _ => exact va_eqt (hs (.eq (.elem (.field (.string "DogNotary$Line" 105) "java/lang/String" "value" "[B") (.int 5)) (.int 114)) (by decide +kernel))
      | j + 6, q => exact absurd q (by omega)) hA
  have y14 : (Cond.exactly (.string "DogNotary$Line" 108) "java/lang/String").before args s = true := hs _ (by decide +kernel)
  obtain ⟨s14, g14⟩ := am_exR y14
  obtain ⟨t14, u14, v14⟩ := va_Tof (args := args) (s := s) (tm := (.field (.string "DogNotary$Line" 108) "java/lang/String" "value" "[B")) (ty := .byte) (N := 5) (f := fun j => ([.int 103, .int 111, .int 111, .int 115, .int 101] : List Value).getD j .null) (A := fun q : Nat => s.heap.size ≤ q) (by decide) (hs _ (by decide +kernel)) (va_eqt (hs (.eq (.length (.field (.string "DogNotary$Line" 108) "java/lang/String" "value" "[B")) (.int 5)) (by decide +kernel))) (fun j hj => by
      match j, hj with
      | 0, _ => exact va_eqt (hs (.eq (.elem (.field (.string "DogNotary$Line" 108) "java/lang/String" "value" "[B") (.int 0)) (.int 103)) (by decide +kernel))
      | 1, _ => exact va_eqt (hs (.eq (.elem (.field (.string "DogNotary$Line" 108) "java/lang/String" "value" "[B") (.int 1)) (.int 111)) (by decide +kernel))
      | 2, _ => exact va_eqt (hs (.eq (.elem (.field (.string "DogNotary$Line" 108) "java/lang/String" "value" "[B") (.int 2)) (.int 111)) (by decide +kernel))
      | 3, _ => exact va_eqt (hs (.eq (.elem (.field (.string "DogNotary$Line" 108) "java/lang/String" "value" "[B") (.int 3)) (.int 115)) (by decide +kernel))
      | 4, _ => exact va_eqt (hs (.eq (.elem (.field (.string "DogNotary$Line" 108) "java/lang/String" "value" "[B") (.int 4)) (.int 101)) (by decide +kernel))
      | j + 5, q => exact absurd q (by omega)) hA
  have y15 : (Cond.exactly (.string "DogNotary$Line" 124) "java/lang/String").before args s = true := hs _ (by decide +kernel)
  obtain ⟨s15, g15⟩ := am_exR y15
  obtain ⟨t15, u15, v15⟩ := va_Tof (args := args) (s := s) (tm := (.field (.string "DogNotary$Line" 124) "java/lang/String" "value" "[B")) (ty := .byte) (N := 3) (f := fun j => ([.int 99, .int 99, .int 101] : List Value).getD j .null) (A := fun q : Nat => s.heap.size ≤ q) (by decide) (hs _ (by decide +kernel)) (va_eqt (hs (.eq (.length (.field (.string "DogNotary$Line" 124) "java/lang/String" "value" "[B")) (.int 3)) (by decide +kernel))) (fun j hj => by
      match j, hj with
      | 0, _ => exact va_eqt (hs (.eq (.elem (.field (.string "DogNotary$Line" 124) "java/lang/String" "value" "[B") (.int 0)) (.int 99)) (by decide +kernel))
      | 1, _ => exact va_eqt (hs (.eq (.elem (.field (.string "DogNotary$Line" 124) "java/lang/String" "value" "[B") (.int 1)) (.int 99)) (by decide +kernel))
      | 2, _ => exact va_eqt (hs (.eq (.elem (.field (.string "DogNotary$Line" 124) "java/lang/String" "value" "[B") (.int 2)) (.int 101)) (by decide +kernel))
      | j + 3, q => exact absurd q (by omega)) hA
  have y16 : (Cond.exactly (.string "DogNotary$Line" 127) "java/lang/String").before args s = true := hs _ (by decide +kernel)
  obtain ⟨s16, g16⟩ := am_exR y16
  obtain ⟨t16, u16, v16⟩ := va_Tof (args := args) (s := s) (tm := (.field (.string "DogNotary$Line" 127) "java/lang/String" "value" "[B")) (ty := .byte) (N := 2) (f := fun j => ([.int 103, .int 111] : List Value).getD j .null) (A := fun q : Nat => s.heap.size ≤ q) (by decide) (hs _ (by decide +kernel)) (va_eqt (hs (.eq (.length (.field (.string "DogNotary$Line" 127) "java/lang/String" "value" "[B")) (.int 2)) (by decide +kernel))) (fun j hj => by
      match j, hj with
      | 0, _ => exact va_eqt (hs (.eq (.elem (.field (.string "DogNotary$Line" 127) "java/lang/String" "value" "[B") (.int 0)) (.int 103)) (by decide +kernel))
      | 1, _ => exact va_eqt (hs (.eq (.elem (.field (.string "DogNotary$Line" 127) "java/lang/String" "value" "[B") (.int 1)) (.int 111)) (by decide +kernel))
      | j + 2, q => exact absurd q (by omega)) hA
  have y17 : (Cond.exactly (.string "DogNotary$Line" 129) "java/lang/String").before args s = true := hs _ (by decide +kernel)
  obtain ⟨s17, g17⟩ := am_exR y17
  obtain ⟨t17, u17, v17⟩ := va_Tof (args := args) (s := s) (tm := (.field (.string "DogNotary$Line" 129) "java/lang/String" "value" "[B")) (ty := .byte) (N := 1) (f := fun j => ([.int 100] : List Value).getD j .null) (A := fun q : Nat => s.heap.size ≤ q) (by decide) (hs _ (by decide +kernel)) (va_eqt (hs (.eq (.length (.field (.string "DogNotary$Line" 129) "java/lang/String" "value" "[B")) (.int 1)) (by decide +kernel))) (fun j hj => by
      match j, hj with
      | 0, _ => exact va_eqt (hs (.eq (.elem (.field (.string "DogNotary$Line" 129) "java/lang/String" "value" "[B") (.int 0)) (.int 100)) (by decide +kernel))
      | j + 1, q => exact absurd q (by omega)) hA
  have y18 : (Cond.exactly (.string "DogNotary$Line" 132) "java/lang/String").before args s = true := hs _ (by decide +kernel)
  obtain ⟨s18, g18⟩ := am_exR y18
  obtain ⟨t18, u18, v18⟩ := va_Tof (args := args) (s := s) (tm := (.field (.string "DogNotary$Line" 132) "java/lang/String" "value" "[B")) (ty := .byte) (N := 3) (f := fun j => ([.int 108, .int 105, .int 101] : List Value).getD j .null) (A := fun q : Nat => s.heap.size ≤ q) (by decide) (hs _ (by decide +kernel)) (va_eqt (hs (.eq (.length (.field (.string "DogNotary$Line" 132) "java/lang/String" "value" "[B")) (.int 3)) (by decide +kernel))) (fun j hj => by
      match j, hj with
      | 0, _ => exact va_eqt (hs (.eq (.elem (.field (.string "DogNotary$Line" 132) "java/lang/String" "value" "[B") (.int 0)) (.int 108)) (by decide +kernel))
      | 1, _ => exact va_eqt (hs (.eq (.elem (.field (.string "DogNotary$Line" 132) "java/lang/String" "value" "[B") (.int 1)) (.int 105)) (by decide +kernel))
      | 2, _ => exact va_eqt (hs (.eq (.elem (.field (.string "DogNotary$Line" 132) "java/lang/String" "value" "[B") (.int 2)) (.int 101)) (by decide +kernel))
      | j + 3, q => exact absurd q (by omega)) hA
  have y19 : (Cond.exactly (.string "DogNotary$Line" 134) "java/lang/String").before args s = true := hs _ (by decide +kernel)
  obtain ⟨s19, g19⟩ := am_exR y19
  obtain ⟨t19, u19, v19⟩ := va_Tof (args := args) (s := s) (tm := (.field (.string "DogNotary$Line" 134) "java/lang/String" "value" "[B")) (ty := .byte) (N := 0) (f := fun j => ([] : List Value).getD j .null) (A := fun q : Nat => s.heap.size ≤ q) (by decide) (hs _ (by decide +kernel)) (va_eqt (hs (.eq (.length (.field (.string "DogNotary$Line" 134) "java/lang/String" "value" "[B")) (.int 0)) (by decide +kernel))) (fun j hj => absurd hj (Nat.not_lt_zero j)) hA
  have y20 : (Cond.exactly (.string "DogNotary$Line" 137) "java/lang/String").before args s = true := hs _ (by decide +kernel)
  obtain ⟨s20, g20⟩ := am_exR y20
  obtain ⟨t20, u20, v20⟩ := va_Tof (args := args) (s := s) (tm := (.field (.string "DogNotary$Line" 137) "java/lang/String" "value" "[B")) (ty := .byte) (N := 5) (f := fun j => ([.int 115, .int 116, .int 97, .int 110, .int 100] : List Value).getD j .null) (A := fun q : Nat => s.heap.size ≤ q) (by decide) (hs _ (by decide +kernel)) (va_eqt (hs (.eq (.length (.field (.string "DogNotary$Line" 137) "java/lang/String" "value" "[B")) (.int 5)) (by decide +kernel))) (fun j hj => by
      match j, hj with
      | 0, _ => exact va_eqt (hs (.eq (.elem (.field (.string "DogNotary$Line" 137) "java/lang/String" "value" "[B") (.int 0)) (.int 115)) (by decide +kernel))
      | 1, _ => exact va_eqt (hs (.eq (.elem (.field (.string "DogNotary$Line" 137) "java/lang/String" "value" "[B") (.int 1)) (.int 116)) (by decide +kernel))
      | 2, _ => exact va_eqt (hs (.eq (.elem (.field (.string "DogNotary$Line" 137) "java/lang/String" "value" "[B") (.int 2)) (.int 97)) (by decide +kernel))
      | 3, _ => exact va_eqt (hs (.eq (.elem (.field (.string "DogNotary$Line" 137) "java/lang/String" "value" "[B") (.int 3)) (.int 110)) (by decide +kernel))
      | 4, _ => exact va_eqt (hs (.eq (.elem (.field (.string "DogNotary$Line" 137) "java/lang/String" "value" "[B") (.int 4)) (.int 100)) (by decide +kernel))
      | j + 5, q => exact absurd q (by omega)) hA
  have y21 : (Cond.exactly (.string "DogNotary$Line" 140) "java/lang/String").before args s = true := hs _ (by decide +kernel)
  obtain ⟨s21, g21⟩ := am_exR y21
  obtain ⟨t21, u21, v21⟩ := va_Tof (args := args) (s := s) (tm := (.field (.string "DogNotary$Line" 140) "java/lang/String" "value" "[B")) (ty := .byte) (N := 4) (f := fun j => ([.int 98, .int 97, .int 99, .int 107] : List Value).getD j .null) (A := fun q : Nat => s.heap.size ≤ q) (by decide) (hs _ (by decide +kernel)) (va_eqt (hs (.eq (.length (.field (.string "DogNotary$Line" 140) "java/lang/String" "value" "[B")) (.int 4)) (by decide +kernel))) (fun j hj => by
      match j, hj with
      | 0, _ => exact va_eqt (hs (.eq (.elem (.field (.string "DogNotary$Line" 140) "java/lang/String" "value" "[B") (.int 0)) (.int 98)) (by decide +kernel))
      | 1, _ => exact va_eqt (hs (.eq (.elem (.field (.string "DogNotary$Line" 140) "java/lang/String" "value" "[B") (.int 1)) (.int 97)) (by decide +kernel))
      | 2, _ => exact va_eqt (hs (.eq (.elem (.field (.string "DogNotary$Line" 140) "java/lang/String" "value" "[B") (.int 2)) (.int 99)) (by decide +kernel))
      | 3, _ => exact va_eqt (hs (.eq (.elem (.field (.string "DogNotary$Line" 140) "java/lang/String" "value" "[B") (.int 3)) (.int 107)) (by decide +kernel))
      | j + 4, q => exact absurd q (by omega)) hA
  have y22 : (Cond.exactly (.string "DogNotary$Line" 156) "java/lang/String").before args s = true := hs _ (by decide +kernel)
  obtain ⟨s22, g22⟩ := am_exR y22
  obtain ⟨t22, u22, v22⟩ := va_Tof (args := args) (s := s) (tm := (.field (.string "DogNotary$Line" 156) "java/lang/String" "value" "[B")) (ty := .byte) (N := 4) (f := fun j => ([.int 119, .int 101, .int 110, .int 116] : List Value).getD j .null) (A := fun q : Nat => s.heap.size ≤ q) (by decide) (hs _ (by decide +kernel)) (va_eqt (hs (.eq (.length (.field (.string "DogNotary$Line" 156) "java/lang/String" "value" "[B")) (.int 4)) (by decide +kernel))) (fun j hj => by
      match j, hj with
      | 0, _ => exact va_eqt (hs (.eq (.elem (.field (.string "DogNotary$Line" 156) "java/lang/String" "value" "[B") (.int 0)) (.int 119)) (by decide +kernel))
      | 1, _ => exact va_eqt (hs (.eq (.elem (.field (.string "DogNotary$Line" 156) "java/lang/String" "value" "[B") (.int 1)) (.int 101)) (by decide +kernel))
      | 2, _ => exact va_eqt (hs (.eq (.elem (.field (.string "DogNotary$Line" 156) "java/lang/String" "value" "[B") (.int 2)) (.int 110)) (by decide +kernel))
      | 3, _ => exact va_eqt (hs (.eq (.elem (.field (.string "DogNotary$Line" 156) "java/lang/String" "value" "[B") (.int 3)) (.int 116)) (by decide +kernel))
      | j + 4, q => exact absurd q (by omega)) hA
  have y23 : (Cond.exactly (.string "DogNotary$Line" 158) "java/lang/String").before args s = true := hs _ (by decide +kernel)
  obtain ⟨s23, g23⟩ := am_exR y23
  obtain ⟨t23, u23, v23⟩ := va_Tof (args := args) (s := s) (tm := (.field (.string "DogNotary$Line" 158) "java/lang/String" "value" "[B")) (ty := .byte) (N := 5) (f := fun j => ([.int 99, .int 99, .int 99, .int 114, .int 100] : List Value).getD j .null) (A := fun q : Nat => s.heap.size ≤ q) (by decide) (hs _ (by decide +kernel)) (va_eqt (hs (.eq (.length (.field (.string "DogNotary$Line" 158) "java/lang/String" "value" "[B")) (.int 5)) (by decide +kernel))) (fun j hj => by
      match j, hj with
      | 0, _ => exact va_eqt (hs (.eq (.elem (.field (.string "DogNotary$Line" 158) "java/lang/String" "value" "[B") (.int 0)) (.int 99)) (by decide +kernel))
      | 1, _ => exact va_eqt (hs (.eq (.elem (.field (.string "DogNotary$Line" 158) "java/lang/String" "value" "[B") (.int 1)) (.int 99)) (by decide +kernel))
      | 2, _ => exact va_eqt (hs (.eq (.elem (.field (.string "DogNotary$Line" 158) "java/lang/String" "value" "[B") (.int 2)) (.int 99)) (by decide +kernel))
      | 3, _ => exact va_eqt (hs (.eq (.elem (.field (.string "DogNotary$Line" 158) "java/lang/String" "value" "[B") (.int 3)) (.int 114)) (by decide +kernel))
      | 4, _ => exact va_eqt (hs (.eq (.elem (.field (.string "DogNotary$Line" 158) "java/lang/String" "value" "[B") (.int 4)) (.int 100)) (by decide +kernel))
      | j + 5, q => exact absurd q (by omega)) hA
  have y24 : (Cond.exactly (.string "DogNotary$Line" 161) "java/lang/String").before args s = true := hs _ (by decide +kernel)
  obtain ⟨s24, g24⟩ := am_exR y24
  obtain ⟨t24, u24, v24⟩ := va_Tof (args := args) (s := s) (tm := (.field (.string "DogNotary$Line" 161) "java/lang/String" "value" "[B")) (ty := .byte) (N := 5) (f := fun j => ([.int 116, .int 119, .int 105, .int 99, .int 101] : List Value).getD j .null) (A := fun q : Nat => s.heap.size ≤ q) (by decide) (hs _ (by decide +kernel)) (va_eqt (hs (.eq (.length (.field (.string "DogNotary$Line" 161) "java/lang/String" "value" "[B")) (.int 5)) (by decide +kernel))) (fun j hj => by
      match j, hj with
      | 0, _ => exact va_eqt (hs (.eq (.elem (.field (.string "DogNotary$Line" 161) "java/lang/String" "value" "[B") (.int 0)) (.int 116)) (by decide +kernel))
      | 1, _ => exact va_eqt (hs (.eq (.elem (.field (.string "DogNotary$Line" 161) "java/lang/String" "value" "[B") (.int 1)) (.int 119)) (by decide +kernel))
      | 2, _ => exact va_eqt (hs (.eq (.elem (.field (.string "DogNotary$Line" 161) "java/lang/String" "value" "[B") (.int 2)) (.int 105)) (by decide +kernel))
      | 3, _ => exact va_eqt (hs (.eq (.elem (.field (.string "DogNotary$Line" 161) "java/lang/String" "value" "[B") (.int 3)) (.int 99)) (by decide +kernel))
      | 4, _ => exact va_eqt (hs (.eq (.elem (.field (.string "DogNotary$Line" 161) "java/lang/String" "value" "[B") (.int 4)) (.int 101)) (by decide +kernel))
      | j + 5, q => exact absurd q (by omega)) hA
  have y25 : (Cond.exactly (.string "DogNotary$Line" 164) "java/lang/String").before args s = true := hs _ (by decide +kernel)
  obtain ⟨s25, g25⟩ := am_exR y25
  obtain ⟨t25, u25, v25⟩ := va_Tof (args := args) (s := s) (tm := (.field (.string "DogNotary$Line" 164) "java/lang/String" "value" "[B")) (ty := .byte) (N := 6) (f := fun j => ([.int 115, .int 116, .int 97, .int 121, .int 101, .int 100] : List Value).getD j .null) (A := fun q : Nat => s.heap.size ≤ q) (by decide) (hs _ (by decide +kernel)) (va_eqt (hs (.eq (.length (.field (.string "DogNotary$Line" 164) "java/lang/String" "value" "[B")) (.int 6)) (by decide +kernel))) (fun j hj => by
      match j, hj with
      | 0, _ => exact va_eqt (hs (.eq (.elem (.field (.string "DogNotary$Line" 164) "java/lang/String" "value" "[B") (.int 0)) (.int 115)) (by decide +kernel))
      | 1, _ => exact va_eqt (hs (.eq (.elem (.field (.string "DogNotary$Line" 164) "java/lang/String" "value" "[B") (.int 1)) (.int 116)) (by decide +kernel))
      | 2, _ => exact va_eqt (hs (.eq (.elem (.field (.string "DogNotary$Line" 164) "java/lang/String" "value" "[B") (.int 2)) (.int 97)) (by decide +kernel))
      | 3, _ => exact va_eqt (hs (.eq (.elem (.field (.string "DogNotary$Line" 164) "java/lang/String" "value" "[B") (.int 3)) (.int 121)) (by decide +kernel))
      | 4, _ => exact va_eqt (hs (.eq (.elem (.field (.string "DogNotary$Line" 164) "java/lang/String" "value" "[B") (.int 4)) (.int 101)) (by decide +kernel))
      | 5, _ => exact va_eqt (hs (.eq (.elem (.field (.string "DogNotary$Line" 164) "java/lang/String" "value" "[B") (.int 5)) (.int 100)) (by decide +kernel))
      | j + 6, q => exact absurd q (by omega)) hA
  have y26 : (Cond.exactly (.string "DogNotary$Line" 166) "java/lang/String").before args s = true := hs _ (by decide +kernel)
  obtain ⟨s26, g26⟩ := am_exR y26
  obtain ⟨t26, u26, v26⟩ := va_Tof (args := args) (s := s) (tm := (.field (.string "DogNotary$Line" 166) "java/lang/String" "value" "[B")) (ty := .byte) (N := 4) (f := fun j => ([.int 99, .int 99, .int 99, .int 114] : List Value).getD j .null) (A := fun q : Nat => s.heap.size ≤ q) (by decide) (hs _ (by decide +kernel)) (va_eqt (hs (.eq (.length (.field (.string "DogNotary$Line" 166) "java/lang/String" "value" "[B")) (.int 4)) (by decide +kernel))) (fun j hj => by
      match j, hj with
      | 0, _ => exact va_eqt (hs (.eq (.elem (.field (.string "DogNotary$Line" 166) "java/lang/String" "value" "[B") (.int 0)) (.int 99)) (by decide +kernel))
      | 1, _ => exact va_eqt (hs (.eq (.elem (.field (.string "DogNotary$Line" 166) "java/lang/String" "value" "[B") (.int 1)) (.int 99)) (by decide +kernel))
      | 2, _ => exact va_eqt (hs (.eq (.elem (.field (.string "DogNotary$Line" 166) "java/lang/String" "value" "[B") (.int 2)) (.int 99)) (by decide +kernel))
      | 3, _ => exact va_eqt (hs (.eq (.elem (.field (.string "DogNotary$Line" 166) "java/lang/String" "value" "[B") (.int 3)) (.int 114)) (by decide +kernel))
      | j + 4, q => exact absurd q (by omega)) hA
  obtain ⟨tL, uL, vL⟩ := va_Tof (args := args) (s := s) (tm := (.static "DogNotary" "LINES" "[LDogNotary$Line;")) (ty := .object "DogNotary$Line") (N := 18) (f := fun j => ([.ref a0, .ref a1, .ref a2, .ref a3, .ref a4, .ref a5, .ref a6, .ref a7, .ref a8, .ref a9, .ref a10, .ref a11, .ref a12, .ref a13, .ref a14, .ref a15, .ref a16, .ref a17] : List Value).getD j .null) (A := fun q : Nat => s.heap.size ≤ q) (by decide) (hs _ (by decide +kernel)) (va_eqt (hs (.eq (.length (.static "DogNotary" "LINES" "[LDogNotary$Line;")) (.int 18)) (by decide +kernel))) (fun j hj => by
      match j, hj with
      | 0, _ => exact am_eqR (hs (.eq (.elem (.static "DogNotary" "LINES" "[LDogNotary$Line;") (.int 0)) (.static "DogNotary$Line" "EWE" "LDogNotary$Line;")) (by decide +kernel)) h0
      | 1, _ => exact am_eqR (hs (.eq (.elem (.static "DogNotary" "LINES" "[LDogNotary$Line;") (.int 1)) (.static "DogNotary$Line" "RAM" "LDogNotary$Line;")) (by decide +kernel)) h1
      | 2, _ => exact am_eqR (hs (.eq (.elem (.static "DogNotary" "LINES" "[LDogNotary$Line;") (.int 2)) (.static "DogNotary$Line" "BOLTER" "LDogNotary$Line;")) (by decide +kernel)) h2
      | 3, _ => exact am_eqR (hs (.eq (.elem (.static "DogNotary" "LINES" "[LDogNotary$Line;") (.int 3)) (.static "DogNotary$Line" "GOOSE" "LDogNotary$Line;")) (by decide +kernel)) h3
      | 4, _ => exact am_eqR (hs (.eq (.elem (.static "DogNotary" "LINES" "[LDogNotary$Line;") (.int 4)) (.static "DogNotary$Line" "WALL" "LDogNotary$Line;")) (by decide +kernel)) h4
      | 5, _ => exact am_eqR (hs (.eq (.elem (.static "DogNotary" "LINES" "[LDogNotary$Line;") (.int 5)) (.static "DogNotary$Line" "PEN" "LDogNotary$Line;")) (by decide +kernel)) h5
      | 6, _ => exact am_eqR (hs (.eq (.elem (.static "DogNotary" "LINES" "[LDogNotary$Line;") (.int 6)) (.static "DogNotary$Line" "SIZE" "LDogNotary$Line;")) (by decide +kernel)) h6
      | 7, _ => exact am_eqR (hs (.eq (.elem (.static "DogNotary" "LINES" "[LDogNotary$Line;") (.int 7)) (.static "DogNotary$Line" "DOG" "LDogNotary$Line;")) (by decide +kernel)) h7
      | 8, _ => exact am_eqR (hs (.eq (.elem (.static "DogNotary" "LINES" "[LDogNotary$Line;") (.int 8)) (.static "DogNotary$Line" "GO" "LDogNotary$Line;")) (by decide +kernel)) h8
      | 9, _ => exact am_eqR (hs (.eq (.elem (.static "DogNotary" "LINES" "[LDogNotary$Line;") (.int 9)) (.static "DogNotary$Line" "LIE" "LDogNotary$Line;")) (by decide +kernel)) h9
      | 10, _ => exact am_eqR (hs (.eq (.elem (.static "DogNotary" "LINES" "[LDogNotary$Line;") (.int 10)) (.static "DogNotary$Line" "STAND" "LDogNotary$Line;")) (by decide +kernel)) h10
      | 11, _ => exact am_eqR (hs (.eq (.elem (.static "DogNotary" "LINES" "[LDogNotary$Line;") (.int 11)) (.static "DogNotary$Line" "BACK" "LDogNotary$Line;")) (by decide +kernel)) h11
      | 12, _ => exact am_eqR (hs (.eq (.elem (.static "DogNotary" "LINES" "[LDogNotary$Line;") (.int 12)) (.static "DogNotary$Line" "HELPER" "LDogNotary$Line;")) (by decide +kernel)) h12
      | 13, _ => exact am_eqR (hs (.eq (.elem (.static "DogNotary" "LINES" "[LDogNotary$Line;") (.int 13)) (.static "DogNotary$Line" "BARGAIN" "LDogNotary$Line;")) (by decide +kernel)) h13
      | 14, _ => exact am_eqR (hs (.eq (.elem (.static "DogNotary" "LINES" "[LDogNotary$Line;") (.int 14)) (.static "DogNotary$Line" "FIELD" "LDogNotary$Line;")) (by decide +kernel)) h14
      | 15, _ => exact am_eqR (hs (.eq (.elem (.static "DogNotary" "LINES" "[LDogNotary$Line;") (.int 15)) (.static "DogNotary$Line" "WENT" "LDogNotary$Line;")) (by decide +kernel)) h15
      | 16, _ => exact am_eqR (hs (.eq (.elem (.static "DogNotary" "LINES" "[LDogNotary$Line;") (.int 16)) (.static "DogNotary$Line" "TWICE" "LDogNotary$Line;")) (by decide +kernel)) h16
      | 17, _ => exact am_eqR (hs (.eq (.elem (.static "DogNotary" "LINES" "[LDogNotary$Line;") (.int 17)) (.static "DogNotary$Line" "STAYED" "LDogNotary$Line;")) (by decide +kernel)) h17
      | j + 18, q => exact absurd q (by omega)) hA
  have zq := va_Zqof (args := args) (s := s) (C := "jdk/internal/util/Preconditions") (n := "SIOOBE_FORMATTER") (d := "Ljava/util/function/BiFunction;") (A := fun q : Nat => s.heap.size ≤ q) (hts _ (am_tbc_in (n := 3) (List.mem_of_getElem? (i := 37) (by decide +kernel)))) (hts _ (am_tbc_in (n := 1) (List.mem_of_getElem? (i := 16) (by decide +kernel)))) (hs _ (by decide +kernel)) hA
  obtain ⟨vF, zF⟩ : ∃ vF : Option Nat, va_Z "jdk/internal/util/Preconditions" "SIOOBE_FORMATTER" "Ljava/util/function/BiFunction;" (va_rf vF) (fun q : Nat => s.heap.size ≤ q) s s.heap := by
    rcases zq with z | ⟨t, z⟩
    · exact ⟨none, z⟩
    · exact ⟨some t, z⟩
  refine ⟨fun c => ([b, tL, a0, a1, a2, a3, a4, a5, a6, a7, a8, a9, a10, a11, a12, a13, a14, a15, a16, a17, s0, s1, s2, s3, s4, s5, s6, s7, s8, s9, s10, s11, s12, s13, s14, s15, s16, s17, s18, s19, s20, s21, s22, s23, s24, s25, s26, 0, 0, 0, 0, 0, 0, 0, 0, 0, 0, 0, 0, 0, t0, t1, t2, t3, t4, t5, t6, t7, t8, t9, t10, t11, t12, t13, t14, t15, t16, t17, t18, t19, t20, t21, t22, t23, t24, t25, t26] : List Nat).getD (c - 1048576) 0, vF, rfl, ?_, ?_, ?_, ?_, Or.inr ⟨hX, hbl⟩, ?_, ?_, ?_⟩
  · exact List.forall_mem_cons.mpr ⟨va_Zof (v := .int 1) (hts _ (am_tbc_in (n := 3) (List.mem_of_getElem? (i := 21) (by decide +kernel)))) (hts _ (am_tbc_in (n := 1) (List.mem_of_getElem? (i := 14) (by decide +kernel)))) (va_eqi (hs _ (by decide +kernel))) hA, List.forall_mem_cons.mpr ⟨zF, List.forall_mem_cons.mpr ⟨va_Zof (v := .ref a12) (hts _ (am_tbc_in (n := 3) (List.mem_of_getElem? (i := 73) (by decide +kernel)))) (hts _ (am_tbc_in (n := 1) (List.mem_of_getElem? (i := 19) (by decide +kernel)))) h12 hA, List.forall_mem_cons.mpr ⟨va_Zof (v := .ref a13) (hts _ (am_tbc_in (n := 3) (List.mem_of_getElem? (i := 75) (by decide +kernel)))) (hts _ (am_tbc_in (n := 1) (List.mem_of_getElem? (i := 19) (by decide +kernel)))) h13 hA, List.forall_mem_cons.mpr ⟨va_Zof (v := .ref a4) (hts _ (am_tbc_in (n := 3) (List.mem_of_getElem? (i := 99) (by decide +kernel)))) (hts _ (am_tbc_in (n := 1) (List.mem_of_getElem? (i := 19) (by decide +kernel)))) h4 hA, List.forall_mem_cons.mpr ⟨va_Zof (v := .ref a5) (hts _ (am_tbc_in (n := 3) (List.mem_of_getElem? (i := 101) (by decide +kernel)))) (hts _ (am_tbc_in (n := 1) (List.mem_of_getElem? (i := 19) (by decide +kernel)))) h5 hA, List.forall_mem_cons.mpr ⟨va_Zof (v := .ref a6) (hts _ (am_tbc_in (n := 3) (List.mem_of_getElem? (i := 93) (by decide +kernel)))) (hts _ (am_tbc_in (n := 1) (List.mem_of_getElem? (i := 19) (by decide +kernel)))) h6 hA, List.forall_mem_cons.mpr ⟨va_Zof (v := .ref a14) (hts _ (am_tbc_in (n := 3) (List.mem_of_getElem? (i := 111) (by decide +kernel)))) (hts _ (am_tbc_in (n := 1) (List.mem_of_getElem? (i := 19) (by decide +kernel)))) h14 hA, List.forall_mem_cons.mpr ⟨va_Zof (v := .ref tL) (hts _ (am_tbc_in (n := 3) (List.mem_of_getElem? (i := 7) (by decide +kernel)))) (hts _ (am_tbc_in (n := 1) (List.mem_of_getElem? (i := 1) (by decide +kernel)))) uL hA, fun _ h => absurd h List.not_mem_nil⟩⟩⟩⟩⟩⟩⟩⟩⟩
  · exact List.forall_mem_cons.mpr ⟨vk_OFof (v := .int 0) h0 (va_eqt (hs (.eq (.field (.static "DogNotary$Line" "EWE" "LDogNotary$Line;") "DogNotary$Line" "sort" "I") (.int 0)) (by decide +kernel))) hA, List.forall_mem_cons.mpr ⟨vk_OFof (v := .int 0) h0 (va_eqt (hs (.eq (.field (.static "DogNotary$Line" "EWE" "LDogNotary$Line;") "DogNotary$Line" "code" "I") (.int 0)) (by decide +kernel))) hA, List.forall_mem_cons.mpr ⟨vk_OFof (v := .ref s11) h0 (am_eqR (hs (.eq (.field (.static "DogNotary$Line" "EWE" "LDogNotary$Line;") "DogNotary$Line" "word" "Ljava/lang/String;") (.string "DogNotary$Line" 94)) (by decide +kernel)) g11) hA, List.forall_mem_cons.mpr ⟨vk_OFof (v := .ref s7) h0 (am_eqR (hs (.eq (.field (.static "DogNotary$Line" "EWE" "LDogNotary$Line;") "DogNotary$Line" "ranges" "Ljava/lang/String;") (.string "DogNotary$Line" 96)) (by decide +kernel)) g7) hA, List.forall_mem_cons.mpr ⟨vk_OFof (v := .int 0) h1 (va_eqt (hs (.eq (.field (.static "DogNotary$Line" "RAM" "LDogNotary$Line;") "DogNotary$Line" "sort" "I") (.int 0)) (by decide +kernel))) hA, List.forall_mem_cons.mpr ⟨vk_OFof (v := .int 1) h1 (va_eqt (hs (.eq (.field (.static "DogNotary$Line" "RAM" "LDogNotary$Line;") "DogNotary$Line" "code" "I") (.int 1)) (by decide +kernel))) hA, List.forall_mem_cons.mpr ⟨vk_OFof (v := .ref s12) h1 (am_eqR (hs (.eq (.field (.static "DogNotary$Line" "RAM" "LDogNotary$Line;") "DogNotary$Line" "word" "Ljava/lang/String;") (.string "DogNotary$Line" 102)) (by decide +kernel)) g12) hA, List.forall_mem_cons.mpr ⟨vk_OFof (v := .ref s7) h1 (am_eqR (hs (.eq (.field (.static "DogNotary$Line" "RAM" "LDogNotary$Line;") "DogNotary$Line" "ranges" "Ljava/lang/String;") (.string "DogNotary$Line" 96)) (by decide +kernel)) g7) hA, List.forall_mem_cons.mpr ⟨vk_OFof (v := .int 0) h2 (va_eqt (hs (.eq (.field (.static "DogNotary$Line" "BOLTER" "LDogNotary$Line;") "DogNotary$Line" "sort" "I") (.int 0)) (by decide +kernel))) hA, List.forall_mem_cons.mpr ⟨vk_OFof (v := .int 2) h2 (va_eqt (hs (.eq (.field (.static "DogNotary$Line" "BOLTER" "LDogNotary$Line;") "DogNotary$Line" "code" "I") (.int 2)) (by decide +kernel))) hA, List.forall_mem_cons.mpr ⟨vk_OFof (v := .ref s13) h2 (am_eqR (hs (.eq (.field (.static "DogNotary$Line" "BOLTER" "LDogNotary$Line;") "DogNotary$Line" "word" "Ljava/lang/String;") (.string "DogNotary$Line" 105)) (by decide +kernel)) g13) hA, List.forall_mem_cons.mpr ⟨vk_OFof (v := .ref s7) h2 (am_eqR (hs (.eq (.field (.static "DogNotary$Line" "BOLTER" "LDogNotary$Line;") "DogNotary$Line" "ranges" "Ljava/lang/String;") (.string "DogNotary$Line" 96)) (by decide +kernel)) g7) hA, List.forall_mem_cons.mpr ⟨vk_OFof (v := .int 0) h3 (va_eqt (hs (.eq (.field (.static "DogNotary$Line" "GOOSE" "LDogNotary$Line;") "DogNotary$Line" "sort" "I") (.int 0)) (by decide +kernel))) hA, List.forall_mem_cons.mpr ⟨vk_OFof (v := .int 3) h3 (va_eqt (hs (.eq (.field (.static "DogNotary$Line" "GOOSE" "LDogNotary$Line;") "DogNotary$Line" "code" "I") (.int 3)) (by decide +kernel))) hA, List.forall_mem_cons.mpr ⟨vk_OFof (v := .ref s14) h3 (am_eqR (hs (.eq (.field (.static "DogNotary$Line" "GOOSE" "LDogNotary$Line;") "DogNotary$Line" "word" "Ljava/lang/String;") (.string "DogNotary$Line" 108)) (by decide +kernel)) g14) hA, List.forall_mem_cons.mpr ⟨vk_OFof (v := .ref s7) h3 (am_eqR (hs (.eq (.field (.static "DogNotary$Line" "GOOSE" "LDogNotary$Line;") "DogNotary$Line" "ranges" "Ljava/lang/String;") (.string "DogNotary$Line" 96)) (by decide +kernel)) g7) hA, List.forall_mem_cons.mpr ⟨vk_OFof (v := .int 0) h4 (va_eqt (hs (.eq (.field (.static "DogNotary$Line" "WALL" "LDogNotary$Line;") "DogNotary$Line" "sort" "I") (.int 0)) (by decide +kernel))) hA, List.forall_mem_cons.mpr ⟨vk_OFof (v := .int 4) h4 (va_eqt (hs (.eq (.field (.static "DogNotary$Line" "WALL" "LDogNotary$Line;") "DogNotary$Line" "code" "I") (.int 4)) (by decide +kernel))) hA, List.forall_mem_cons.mpr ⟨vk_OFof (v := .ref s6) h4 (am_eqR (hs (.eq (.field (.static "DogNotary$Line" "WALL" "LDogNotary$Line;") "DogNotary$Line" "word" "Ljava/lang/String;") (.string "DogNotary$Line" 111)) (by decide +kernel)) g6) hA, List.forall_mem_cons.mpr ⟨vk_OFof (v := .ref s7) h4 (am_eqR (hs (.eq (.field (.static "DogNotary$Line" "WALL" "LDogNotary$Line;") "DogNotary$Line" "ranges" "Ljava/lang/String;") (.string "DogNotary$Line" 96)) (by decide +kernel)) g7) hA, List.forall_mem_cons.mpr ⟨vk_OFof (v := .int 0) h5 (va_eqt (hs (.eq (.field (.static "DogNotary$Line" "PEN" "LDogNotary$Line;") "DogNotary$Line" "sort" "I") (.int 0)) (by decide +kernel))) hA, List.forall_mem_cons.mpr ⟨vk_OFof (v := .int 5) h5 (va_eqt (hs (.eq (.field (.static "DogNotary$Line" "PEN" "LDogNotary$Line;") "DogNotary$Line" "code" "I") (.int 5)) (by decide +kernel))) hA, List.forall_mem_cons.mpr ⟨vk_OFof (v := .ref s8) h5 (am_eqR (hs (.eq (.field (.static "DogNotary$Line" "PEN" "LDogNotary$Line;") "DogNotary$Line" "word" "Ljava/lang/String;") (.string "DogNotary$Line" 114)) (by decide +kernel)) g8) hA, List.forall_mem_cons.mpr ⟨vk_OFof (v := .ref s7) h5 (am_eqR (hs (.eq (.field (.static "DogNotary$Line" "PEN" "LDogNotary$Line;") "DogNotary$Line" "ranges" "Ljava/lang/String;") (.string "DogNotary$Line" 96)) (by decide +kernel)) g7) hA, List.forall_mem_cons.mpr ⟨vk_OFof (v := .int 0) h6 (va_eqt (hs (.eq (.field (.static "DogNotary$Line" "SIZE" "LDogNotary$Line;") "DogNotary$Line" "sort" "I") (.int 0)) (by decide +kernel))) hA, List.forall_mem_cons.mpr ⟨vk_OFof (v := .int 6) h6 (va_eqt (hs (.eq (.field (.static "DogNotary$Line" "SIZE" "LDogNotary$Line;") "DogNotary$Line" "code" "I") (.int 6)) (by decide +kernel))) hA, List.forall_mem_cons.mpr ⟨vk_OFof (v := .ref s4) h6 (am_eqR (hs (.eq (.field (.static "DogNotary$Line" "SIZE" "LDogNotary$Line;") "DogNotary$Line" "word" "Ljava/lang/String;") (.string "DogNotary$Line" 117)) (by decide +kernel)) g4) hA, List.forall_mem_cons.mpr ⟨vk_OFof (v := .ref s5) h6 (am_eqR (hs (.eq (.field (.static "DogNotary$Line" "SIZE" "LDogNotary$Line;") "DogNotary$Line" "ranges" "Ljava/lang/String;") (.string "DogNotary$Line" 119)) (by decide +kernel)) g5) hA, List.forall_mem_cons.mpr ⟨vk_OFof (v := .int 0) h7 (va_eqt (hs (.eq (.field (.static "DogNotary$Line" "DOG" "LDogNotary$Line;") "DogNotary$Line" "sort" "I") (.int 0)) (by decide +kernel))) hA, List.forall_mem_cons.mpr ⟨vk_OFof (v := .int 7) h7 (va_eqt (hs (.eq (.field (.static "DogNotary$Line" "DOG" "LDogNotary$Line;") "DogNotary$Line" "code" "I") (.int 7)) (by decide +kernel))) hA, List.forall_mem_cons.mpr ⟨vk_OFof (v := .ref s0) h7 (am_eqR (hs (.eq (.field (.static "DogNotary$Line" "DOG" "LDogNotary$Line;") "DogNotary$Line" "word" "Ljava/lang/String;") (.string "DogNotary$Line" 122)) (by decide +kernel)) g0) hA, List.forall_mem_cons.mpr ⟨vk_OFof (v := .ref s15) h7 (am_eqR (hs (.eq (.field (.static "DogNotary$Line" "DOG" "LDogNotary$Line;") "DogNotary$Line" "ranges" "Ljava/lang/String;") (.string "DogNotary$Line" 124)) (by decide +kernel)) g15) hA, List.forall_mem_cons.mpr ⟨vk_OFof (v := .int 1) h8 (va_eqt (hs (.eq (.field (.static "DogNotary$Line" "GO" "LDogNotary$Line;") "DogNotary$Line" "sort" "I") (.int 1)) (by decide +kernel))) hA, List.forall_mem_cons.mpr ⟨vk_OFof (v := .int 0) h8 (va_eqt (hs (.eq (.field (.static "DogNotary$Line" "GO" "LDogNotary$Line;") "DogNotary$Line" "code" "I") (.int 0)) (by decide +kernel))) hA, List.forall_mem_cons.mpr ⟨vk_OFof (v := .ref s16) h8 (am_eqR (hs (.eq (.field (.static "DogNotary$Line" "GO" "LDogNotary$Line;") "DogNotary$Line" "word" "Ljava/lang/String;") (.string "DogNotary$Line" 127)) (by decide +kernel)) g16) hA, List.forall_mem_cons.mpr ⟨vk_OFof (v := .ref s17) h8 (am_eqR (hs (.eq (.field (.static "DogNotary$Line" "GO" "LDogNotary$Line;") "DogNotary$Line" "ranges" "Ljava/lang/String;") (.string "DogNotary$Line" 129)) (by decide +kernel)) g17) hA, List.forall_mem_cons.mpr ⟨vk_OFof (v := .int 1) h9 (va_eqt (hs (.eq (.field (.static "DogNotary$Line" "LIE" "LDogNotary$Line;") "DogNotary$Line" "sort" "I") (.int 1)) (by decide +kernel))) hA, List.forall_mem_cons.mpr ⟨vk_OFof (v := .int 4) h9 (va_eqt (hs (.eq (.field (.static "DogNotary$Line" "LIE" "LDogNotary$Line;") "DogNotary$Line" "code" "I") (.int 4)) (by decide +kernel))) hA, List.forall_mem_cons.mpr ⟨vk_OFof (v := .ref s18) h9 (am_eqR (hs (.eq (.field (.static "DogNotary$Line" "LIE" "LDogNotary$Line;") "DogNotary$Line" "word" "Ljava/lang/String;") (.string "DogNotary$Line" 132)) (by decide +kernel)) g18) hA, List.forall_mem_cons.mpr ⟨vk_OFof (v := .ref s19) h9 (am_eqR (hs (.eq (.field (.static "DogNotary$Line" "LIE" "LDogNotary$Line;") "DogNotary$Line" "ranges" "Ljava/lang/String;") (.string "DogNotary$Line" 134)) (by decide +kernel)) g19) hA, List.forall_mem_cons.mpr ⟨vk_OFof (v := .int 1) h10 (va_eqt (hs (.eq (.field (.static "DogNotary$Line" "STAND" "LDogNotary$Line;") "DogNotary$Line" "sort" "I") (.int 1)) (by decide +kernel))) hA, List.forall_mem_cons.mpr ⟨vk_OFof (v := .int 5) h10 (va_eqt (hs (.eq (.field (.static "DogNotary$Line" "STAND" "LDogNotary$Line;") "DogNotary$Line" "code" "I") (.int 5)) (by decide +kernel))) hA, List.forall_mem_cons.mpr ⟨vk_OFof (v := .ref s20) h10 (am_eqR (hs (.eq (.field (.static "DogNotary$Line" "STAND" "LDogNotary$Line;") "DogNotary$Line" "word" "Ljava/lang/String;") (.string "DogNotary$Line" 137)) (by decide +kernel)) g20) hA, List.forall_mem_cons.mpr ⟨vk_OFof (v := .ref s19) h10 (am_eqR (hs (.eq (.field (.static "DogNotary$Line" "STAND" "LDogNotary$Line;") "DogNotary$Line" "ranges" "Ljava/lang/String;") (.string "DogNotary$Line" 134)) (by decide +kernel)) g19) hA, List.forall_mem_cons.mpr ⟨vk_OFof (v := .int 1) h11 (va_eqt (hs (.eq (.field (.static "DogNotary$Line" "BACK" "LDogNotary$Line;") "DogNotary$Line" "sort" "I") (.int 1)) (by decide +kernel))) hA, List.forall_mem_cons.mpr ⟨vk_OFof (v := .int 6) h11 (va_eqt (hs (.eq (.field (.static "DogNotary$Line" "BACK" "LDogNotary$Line;") "DogNotary$Line" "code" "I") (.int 6)) (by decide +kernel))) hA, List.forall_mem_cons.mpr ⟨vk_OFof (v := .ref s21) h11 (am_eqR (hs (.eq (.field (.static "DogNotary$Line" "BACK" "LDogNotary$Line;") "DogNotary$Line" "word" "Ljava/lang/String;") (.string "DogNotary$Line" 140)) (by decide +kernel)) g21) hA, List.forall_mem_cons.mpr ⟨vk_OFof (v := .ref s19) h11 (am_eqR (hs (.eq (.field (.static "DogNotary$Line" "BACK" "LDogNotary$Line;") "DogNotary$Line" "ranges" "Ljava/lang/String;") (.string "DogNotary$Line" 134)) (by decide +kernel)) g19) hA, List.forall_mem_cons.mpr ⟨vk_OFof (v := .int 2) h12 (va_eqt (hs (.eq (.field (.static "DogNotary$Line" "HELPER" "LDogNotary$Line;") "DogNotary$Line" "sort" "I") (.int 2)) (by decide +kernel))) hA, List.forall_mem_cons.mpr ⟨vk_OFof (v := .int 0) h12 (va_eqt (hs (.eq (.field (.static "DogNotary$Line" "HELPER" "LDogNotary$Line;") "DogNotary$Line" "code" "I") (.int 0)) (by decide +kernel))) hA, List.forall_mem_cons.mpr ⟨vk_OFof (v := .ref s0) h12 (am_eqR (hs (.eq (.field (.static "DogNotary$Line" "HELPER" "LDogNotary$Line;") "DogNotary$Line" "word" "Ljava/lang/String;") (.string "DogNotary$Line" 122)) (by decide +kernel)) g0) hA, List.forall_mem_cons.mpr ⟨vk_OFof (v := .ref s1) h12 (am_eqR (hs (.eq (.field (.static "DogNotary$Line" "HELPER" "LDogNotary$Line;") "DogNotary$Line" "ranges" "Ljava/lang/String;") (.string "DogNotary$Line" 143)) (by decide +kernel)) g1) hA, List.forall_mem_cons.mpr ⟨vk_OFof (v := .int 2) h13 (va_eqt (hs (.eq (.field (.static "DogNotary$Line" "BARGAIN" "LDogNotary$Line;") "DogNotary$Line" "sort" "I") (.int 2)) (by decide +kernel))) hA, List.forall_mem_cons.mpr ⟨vk_OFof (v := .int 1) h13 (va_eqt (hs (.eq (.field (.static "DogNotary$Line" "BARGAIN" "LDogNotary$Line;") "DogNotary$Line" "code" "I") (.int 1)) (by decide +kernel))) hA, List.forall_mem_cons.mpr ⟨vk_OFof (v := .ref s2) h13 (am_eqR (hs (.eq (.field (.static "DogNotary$Line" "BARGAIN" "LDogNotary$Line;") "DogNotary$Line" "word" "Ljava/lang/String;") (.string "DogNotary$Line" 146)) (by decide +kernel)) g2) hA, List.forall_mem_cons.mpr ⟨vk_OFof (v := .ref s3) h13 (am_eqR (hs (.eq (.field (.static "DogNotary$Line" "BARGAIN" "LDogNotary$Line;") "DogNotary$Line" "ranges" "Ljava/lang/String;") (.string "DogNotary$Line" 148)) (by decide +kernel)) g3) hA, List.forall_mem_cons.mpr ⟨vk_OFof (v := .int 2) h14 (va_eqt (hs (.eq (.field (.static "DogNotary$Line" "FIELD" "LDogNotary$Line;") "DogNotary$Line" "sort" "I") (.int 2)) (by decide +kernel))) hA, List.forall_mem_cons.mpr ⟨vk_OFof (v := .int 2) h14 (va_eqt (hs (.eq (.field (.static "DogNotary$Line" "FIELD" "LDogNotary$Line;") "DogNotary$Line" "code" "I") (.int 2)) (by decide +kernel))) hA, List.forall_mem_cons.mpr ⟨vk_OFof (v := .ref s9) h14 (am_eqR (hs (.eq (.field (.static "DogNotary$Line" "FIELD" "LDogNotary$Line;") "DogNotary$Line" "word" "Ljava/lang/String;") (.string "DogNotary$Line" 151)) (by decide +kernel)) g9) hA, List.forall_mem_cons.mpr ⟨vk_OFof (v := .ref s10) h14 (am_eqR (hs (.eq (.field (.static "DogNotary$Line" "FIELD" "LDogNotary$Line;") "DogNotary$Line" "ranges" "Ljava/lang/String;") (.string "DogNotary$Line" 153)) (by decide +kernel)) g10) hA, List.forall_mem_cons.mpr ⟨vk_OFof (v := .int 3) h15 (va_eqt (hs (.eq (.field (.static "DogNotary$Line" "WENT" "LDogNotary$Line;") "DogNotary$Line" "sort" "I") (.int 3)) (by decide +kernel))) hA, List.forall_mem_cons.mpr ⟨vk_OFof (v := .int 0) h15 (va_eqt (hs (.eq (.field (.static "DogNotary$Line" "WENT" "LDogNotary$Line;") "DogNotary$Line" "code" "I") (.int 0)) (by decide +kernel))) hA, List.forall_mem_cons.mpr ⟨vk_OFof (v := .ref s22) h15 (am_eqR (hs (.eq (.field (.static "DogNotary$Line" "WENT" "LDogNotary$Line;") "DogNotary$Line" "word" "Ljava/lang/String;") (.string "DogNotary$Line" 156)) (by decide +kernel)) g22) hA, List.forall_mem_cons.mpr ⟨vk_OFof (v := .ref s23) h15 (am_eqR (hs (.eq (.field (.static "DogNotary$Line" "WENT" "LDogNotary$Line;") "DogNotary$Line" "ranges" "Ljava/lang/String;") (.string "DogNotary$Line" 158)) (by decide +kernel)) g23) hA, List.forall_mem_cons.mpr ⟨vk_OFof (v := .int 3) h16 (va_eqt (hs (.eq (.field (.static "DogNotary$Line" "TWICE" "LDogNotary$Line;") "DogNotary$Line" "sort" "I") (.int 3)) (by decide +kernel))) hA, List.forall_mem_cons.mpr ⟨vk_OFof (v := .int 1) h16 (va_eqt (hs (.eq (.field (.static "DogNotary$Line" "TWICE" "LDogNotary$Line;") "DogNotary$Line" "code" "I") (.int 1)) (by decide +kernel))) hA, List.forall_mem_cons.mpr ⟨vk_OFof (v := .ref s24) h16 (am_eqR (hs (.eq (.field (.static "DogNotary$Line" "TWICE" "LDogNotary$Line;") "DogNotary$Line" "word" "Ljava/lang/String;") (.string "DogNotary$Line" 161)) (by decide +kernel)) g24) hA, List.forall_mem_cons.mpr ⟨vk_OFof (v := .ref s23) h16 (am_eqR (hs (.eq (.field (.static "DogNotary$Line" "TWICE" "LDogNotary$Line;") "DogNotary$Line" "ranges" "Ljava/lang/String;") (.string "DogNotary$Line" 158)) (by decide +kernel)) g23) hA, List.forall_mem_cons.mpr ⟨vk_OFof (v := .int 3) h17 (va_eqt (hs (.eq (.field (.static "DogNotary$Line" "STAYED" "LDogNotary$Line;") "DogNotary$Line" "sort" "I") (.int 3)) (by decide +kernel))) hA, List.forall_mem_cons.mpr ⟨vk_OFof (v := .int 2) h17 (va_eqt (hs (.eq (.field (.static "DogNotary$Line" "STAYED" "LDogNotary$Line;") "DogNotary$Line" "code" "I") (.int 2)) (by decide +kernel))) hA, List.forall_mem_cons.mpr ⟨vk_OFof (v := .ref s25) h17 (am_eqR (hs (.eq (.field (.static "DogNotary$Line" "STAYED" "LDogNotary$Line;") "DogNotary$Line" "word" "Ljava/lang/String;") (.string "DogNotary$Line" 164)) (by decide +kernel)) g25) hA, List.forall_mem_cons.mpr ⟨vk_OFof (v := .ref s26) h17 (am_eqR (hs (.eq (.field (.static "DogNotary$Line" "STAYED" "LDogNotary$Line;") "DogNotary$Line" "ranges" "Ljava/lang/String;") (.string "DogNotary$Line" 166)) (by decide +kernel)) g26) hA, List.forall_mem_cons.mpr ⟨vk_OFof (v := .int 0) g0 (va_eqt (hs (.eq (.field (.string "DogNotary$Line" 122) "java/lang/String" "coder" "B") (.int 0)) (by decide +kernel))) hA, List.forall_mem_cons.mpr ⟨vk_OFof (v := .ref t0) g0 u0 hA, List.forall_mem_cons.mpr ⟨vk_OFof (v := .int 0) g1 (va_eqt (hs (.eq (.field (.string "DogNotary$Line" 143) "java/lang/String" "coder" "B") (.int 0)) (by decide +kernel))) hA, List.forall_mem_cons.mpr ⟨vk_OFof (v := .ref t1) g1 u1 hA, List.forall_mem_cons.mpr ⟨vk_OFof (v := .int 0) g2 (va_eqt (hs (.eq (.field (.string "DogNotary$Line" 146) "java/lang/String" "coder" "B") (.int 0)) (by decide +kernel))) hA, List.forall_mem_cons.mpr ⟨vk_OFof (v := .ref t2) g2 u2 hA, List.forall_mem_cons.mpr ⟨vk_OFof (v := .int 0) g3 (va_eqt (hs (.eq (.field (.string "DogNotary$Line" 148) "java/lang/String" "coder" "B") (.int 0)) (by decide +kernel))) hA, List.forall_mem_cons.mpr ⟨vk_OFof (v := .ref t3) g3 u3 hA, List.forall_mem_cons.mpr ⟨vk_OFof (v := .int 0) g4 (va_eqt (hs (.eq (.field (.string "DogNotary$Line" 117) "java/lang/String" "coder" "B") (.int 0)) (by decide +kernel))) hA, List.forall_mem_cons.mpr ⟨vk_OFof (v := .ref t4) g4 u4 hA, List.forall_mem_cons.mpr ⟨vk_OFof (v := .int 0) g5 (va_eqt (hs (.eq (.field (.string "DogNotary$Line" 119) "java/lang/String" "coder" "B") (.int 0)) (by decide +kernel))) hA, List.forall_mem_cons.mpr ⟨vk_OFof (v := .ref t5) g5 u5 hA, List.forall_mem_cons.mpr ⟨vk_OFof (v := .int 0) g6 (va_eqt (hs (.eq (.field (.string "DogNotary$Line" 111) "java/lang/String" "coder" "B") (.int 0)) (by decide +kernel))) hA, List.forall_mem_cons.mpr ⟨vk_OFof (v := .ref t6) g6 u6 hA, List.forall_mem_cons.mpr ⟨vk_OFof (v := .int 0) g7 (va_eqt (hs (.eq (.field (.string "DogNotary$Line" 96) "java/lang/String" "coder" "B") (.int 0)) (by decide +kernel))) hA, List.forall_mem_cons.mpr ⟨vk_OFof (v := .ref t7) g7 u7 hA, List.forall_mem_cons.mpr ⟨vk_OFof (v := .int 0) g8 (va_eqt (hs (.eq (.field (.string "DogNotary$Line" 114) "java/lang/String" "coder" "B") (.int 0)) (by decide +kernel))) hA, List.forall_mem_cons.mpr ⟨vk_OFof (v := .ref t8) g8 u8 hA, List.forall_mem_cons.mpr ⟨vk_OFof (v := .int 0) g9 (va_eqt (hs (.eq (.field (.string "DogNotary$Line" 151) "java/lang/String" "coder" "B") (.int 0)) (by decide +kernel))) hA, List.forall_mem_cons.mpr ⟨vk_OFof (v := .ref t9) g9 u9 hA, List.forall_mem_cons.mpr ⟨vk_OFof (v := .int 0) g10 (va_eqt (hs (.eq (.field (.string "DogNotary$Line" 153) "java/lang/String" "coder" "B") (.int 0)) (by decide +kernel))) hA, List.forall_mem_cons.mpr ⟨vk_OFof (v := .ref t10) g10 u10 hA, List.forall_mem_cons.mpr ⟨vk_OFof (v := .int 0) g11 (va_eqt (hs (.eq (.field (.string "DogNotary$Line" 94) "java/lang/String" "coder" "B") (.int 0)) (by decide +kernel))) hA, List.forall_mem_cons.mpr ⟨vk_OFof (v := .ref t11) g11 u11 hA, List.forall_mem_cons.mpr ⟨vk_OFof (v := .int 0) g12 (va_eqt (hs (.eq (.field (.string "DogNotary$Line" 102) "java/lang/String" "coder" "B") (.int 0)) (by decide +kernel))) hA, List.forall_mem_cons.mpr ⟨vk_OFof (v := .ref t12) g12 u12 hA, List.forall_mem_cons.mpr ⟨vk_OFof (v := .int 0) g13 (va_eqt (hs (.eq (.field (.string "DogNotary$Line" 105) "java/lang/String" "coder" "B") (.int 0)) (by decide +kernel))) hA, List.forall_mem_cons.mpr ⟨vk_OFof (v := .ref t13) g13 u13 hA, List.forall_mem_cons.mpr ⟨vk_OFof (v := .int 0) g14 (va_eqt (hs (.eq (.field (.string "DogNotary$Line" 108) "java/lang/String" "coder" "B") (.int 0)) (by decide +kernel))) hA, List.forall_mem_cons.mpr ⟨vk_OFof (v := .ref t14) g14 u14 hA, List.forall_mem_cons.mpr ⟨vk_OFof (v := .int 0) g15 (va_eqt (hs (.eq (.field (.string "DogNotary$Line" 124) "java/lang/String" "coder" "B") (.int 0)) (by decide +kernel))) hA, List.forall_mem_cons.mpr ⟨vk_OFof (v := .ref t15) g15 u15 hA, List.forall_mem_cons.mpr ⟨vk_OFof (v := .int 0) g16 (va_eqt (hs (.eq (.field (.string "DogNotary$Line" 127) "java/lang/String" "coder" "B") (.int 0)) (by decide +kernel))) hA, List.forall_mem_cons.mpr ⟨vk_OFof (v := .ref t16) g16 u16 hA, List.forall_mem_cons.mpr ⟨vk_OFof (v := .int 0) g17 (va_eqt (hs (.eq (.field (.string "DogNotary$Line" 129) "java/lang/String" "coder" "B") (.int 0)) (by decide +kernel))) hA, List.forall_mem_cons.mpr ⟨vk_OFof (v := .ref t17) g17 u17 hA, List.forall_mem_cons.mpr ⟨vk_OFof (v := .int 0) g18 (va_eqt (hs (.eq (.field (.string "DogNotary$Line" 132) "java/lang/String" "coder" "B") (.int 0)) (by decide +kernel))) hA, List.forall_mem_cons.mpr ⟨vk_OFof (v := .ref t18) g18 u18 hA, List.forall_mem_cons.mpr ⟨vk_OFof (v := .int 0) g19 (va_eqt (hs (.eq (.field (.string "DogNotary$Line" 134) "java/lang/String" "coder" "B") (.int 0)) (by decide +kernel))) hA, List.forall_mem_cons.mpr ⟨vk_OFof (v := .ref t19) g19 u19 hA, List.forall_mem_cons.mpr ⟨vk_OFof (v := .int 0) g20 (va_eqt (hs (.eq (.field (.string "DogNotary$Line" 137) "java/lang/String" "coder" "B") (.int 0)) (by decide +kernel))) hA, List.forall_mem_cons.mpr ⟨vk_OFof (v := .ref t20) g20 u20 hA, List.forall_mem_cons.mpr ⟨vk_OFof (v := .int 0) g21 (va_eqt (hs (.eq (.field (.string "DogNotary$Line" 140) "java/lang/String" "coder" "B") (.int 0)) (by decide +kernel))) hA, List.forall_mem_cons.mpr ⟨vk_OFof (v := .ref t21) g21 u21 hA, List.forall_mem_cons.mpr ⟨vk_OFof (v := .int 0) g22 (va_eqt (hs (.eq (.field (.string "DogNotary$Line" 156) "java/lang/String" "coder" "B") (.int 0)) (by decide +kernel))) hA, List.forall_mem_cons.mpr ⟨vk_OFof (v := .ref t22) g22 u22 hA, List.forall_mem_cons.mpr ⟨vk_OFof (v := .int 0) g23 (va_eqt (hs (.eq (.field (.string "DogNotary$Line" 158) "java/lang/String" "coder" "B") (.int 0)) (by decide +kernel))) hA, List.forall_mem_cons.mpr ⟨vk_OFof (v := .ref t23) g23 u23 hA, List.forall_mem_cons.mpr ⟨vk_OFof (v := .int 0) g24 (va_eqt (hs (.eq (.field (.string "DogNotary$Line" 161) "java/lang/String" "coder" "B") (.int 0)) (by decide +kernel))) hA, List.forall_mem_cons.mpr ⟨vk_OFof (v := .ref t24) g24 u24 hA, List.forall_mem_cons.mpr ⟨vk_OFof (v := .int 0) g25 (va_eqt (hs (.eq (.field (.string "DogNotary$Line" 164) "java/lang/String" "coder" "B") (.int 0)) (by decide +kernel))) hA, List.forall_mem_cons.mpr ⟨vk_OFof (v := .ref t25) g25 u25 hA, List.forall_mem_cons.mpr ⟨vk_OFof (v := .int 0) g26 (va_eqt (hs (.eq (.field (.string "DogNotary$Line" 166) "java/lang/String" "coder" "B") (.int 0)) (by decide +kernel))) hA, List.forall_mem_cons.mpr ⟨vk_OFof (v := .ref t26) g26 u26 hA, fun _ h => absurd h List.not_mem_nil⟩⟩⟩⟩⟩⟩⟩⟩⟩⟩⟩⟩⟩⟩⟩⟩⟩⟩⟩⟩⟩⟩⟩⟩⟩⟩⟩⟩⟩⟩⟩⟩⟩⟩⟩⟩⟩⟩⟩⟩⟩⟩⟩⟩⟩⟩⟩⟩⟩⟩⟩⟩⟩⟩⟩⟩⟩⟩⟩⟩⟩⟩⟩⟩⟩⟩⟩⟩⟩⟩⟩⟩⟩⟩⟩⟩⟩⟩⟩⟩⟩⟩⟩⟩⟩⟩⟩⟩⟩⟩⟩⟩⟩⟩⟩⟩⟩⟩⟩⟩⟩⟩⟩⟩⟩⟩⟩⟩⟩⟩⟩⟩⟩⟩⟩⟩⟩⟩⟩⟩⟩⟩⟩⟩⟩⟩
  · refine List.forall_mem_cons.mpr ⟨?_, List.forall_mem_cons.mpr ⟨?_, List.forall_mem_cons.mpr ⟨?_, List.forall_mem_cons.mpr ⟨?_, List.forall_mem_cons.mpr ⟨?_, List.forall_mem_cons.mpr ⟨?_, List.forall_mem_cons.mpr ⟨?_, List.forall_mem_cons.mpr ⟨?_, List.forall_mem_cons.mpr ⟨?_, List.forall_mem_cons.mpr ⟨?_, List.forall_mem_cons.mpr ⟨?_, List.forall_mem_cons.mpr ⟨?_, List.forall_mem_cons.mpr ⟨?_, List.forall_mem_cons.mpr ⟨?_, List.forall_mem_cons.mpr ⟨?_, List.forall_mem_cons.mpr ⟨?_, List.forall_mem_cons.mpr ⟨?_, List.forall_mem_cons.mpr ⟨?_, List.forall_mem_cons.mpr ⟨?_, List.forall_mem_cons.mpr ⟨?_, List.forall_mem_cons.mpr ⟨?_, List.forall_mem_cons.mpr ⟨?_, List.forall_mem_cons.mpr ⟨?_, List.forall_mem_cons.mpr ⟨?_, List.forall_mem_cons.mpr ⟨?_, List.forall_mem_cons.mpr ⟨?_, List.forall_mem_cons.mpr ⟨?_, List.forall_mem_cons.mpr ⟨?_, fun _ h => absurd h List.not_mem_nil⟩⟩⟩⟩⟩⟩⟩⟩⟩⟩⟩⟩⟩⟩⟩⟩⟩⟩⟩⟩⟩⟩⟩⟩⟩⟩⟩⟩
    · exact am_Tc vL (fun j hj => by
        match j, hj with
        | 0, _ => rfl
        | 1, _ => rfl
        | 2, _ => rfl
        | 3, _ => rfl
        | 4, _ => rfl
        | 5, _ => rfl
        | 6, _ => rfl
        | 7, _ => rfl
        | 8, _ => rfl
        | 9, _ => rfl
        | 10, _ => rfl
        | 11, _ => rfl
        | 12, _ => rfl
        | 13, _ => rfl
        | 14, _ => rfl
        | 15, _ => rfl
        | 16, _ => rfl
        | 17, _ => rfl
        | j + 18, q => exact absurd (show j + 18 < 18 from q) (by omega))
    · exact am_Tc v0 (fun j hj => by
        match j, hj with
        | 0, _ => rfl
        | 1, _ => rfl
        | 2, _ => rfl
        | j + 3, q => exact absurd (show j + 3 < 3 from q) (by omega))
    · exact am_Tc v1 (fun j hj => by
        match j, hj with
        | 0, _ => rfl
        | 1, _ => rfl
        | j + 2, q => exact absurd (show j + 2 < 2 from q) (by omega))
    · exact am_Tc v2 (fun j hj => by
        match j, hj with
        | 0, _ => rfl
        | 1, _ => rfl
        | 2, _ => rfl
        | 3, _ => rfl
        | 4, _ => rfl
        | 5, _ => rfl
        | 6, _ => rfl
        | j + 7, q => exact absurd (show j + 7 < 7 from q) (by omega))
    · exact am_Tc v3 (fun j hj => by
        match j, hj with
        | 0, _ => rfl
        | 1, _ => rfl
        | j + 2, q => exact absurd (show j + 2 < 2 from q) (by omega))
    · exact am_Tc v4 (fun j hj => by
        match j, hj with
        | 0, _ => rfl
        | 1, _ => rfl
        | 2, _ => rfl
        | 3, _ => rfl
        | j + 4, q => exact absurd (show j + 4 < 4 from q) (by omega))
    · exact am_Tc v5 (fun j hj => by
        match j, hj with
        | 0, _ => rfl
        | 1, _ => rfl
        | j + 2, q => exact absurd (show j + 2 < 2 from q) (by omega))
    · exact am_Tc v6 (fun j hj => by
        match j, hj with
        | 0, _ => rfl
        | 1, _ => rfl
        | 2, _ => rfl
        | 3, _ => rfl
        | j + 4, q => exact absurd (show j + 4 < 4 from q) (by omega))
    · exact am_Tc v7 (fun j hj => by
        match j, hj with
        | 0, _ => rfl
        | 1, _ => rfl
        | j + 2, q => exact absurd (show j + 2 < 2 from q) (by omega))
    · exact am_Tc v8 (fun j hj => by
        match j, hj with
        | 0, _ => rfl
        | 1, _ => rfl
        | 2, _ => rfl
        | j + 3, q => exact absurd (show j + 3 < 3 from q) (by omega))
    · exact am_Tc v9 (fun j hj => by
        match j, hj with
        | 0, _ => rfl
        | 1, _ => rfl
        | 2, _ => rfl
        | 3, _ => rfl
        | 4, _ => rfl
        | j + 5, q => exact absurd (show j + 5 < 5 from q) (by omega))
    · exact am_Tc v10 (fun j hj => by
        match j, hj with
        | 0, _ => rfl
        | j + 1, q => exact absurd (show j + 1 < 1 from q) (by omega))
    · exact am_Tc v11 (fun j hj => by
        match j, hj with
        | 0, _ => rfl
        | 1, _ => rfl
        | 2, _ => rfl
        | j + 3, q => exact absurd (show j + 3 < 3 from q) (by omega))
    · exact am_Tc v12 (fun j hj => by
        match j, hj with
        | 0, _ => rfl
        | 1, _ => rfl
        | 2, _ => rfl
        | j + 3, q => exact absurd (show j + 3 < 3 from q) (by omega))
    · exact am_Tc v13 (fun j hj => by
        match j, hj with
        | 0, _ => rfl
        | 1, _ => rfl
        | 2, _ => rfl
        | 3, _ => rfl
        | 4, _ => rfl
        | 5, _ => rfl
        | j + 6, q => exact absurd (show j + 6 < 6 from q) (by omega))
    · exact am_Tc v14 (fun j hj => by
        match j, hj with
        | 0, _ => rfl
        | 1, _ => rfl
        | 2, _ => rfl
        | 3, _ => rfl
        | 4, _ => rfl
        | j + 5, q => exact absurd (show j + 5 < 5 from q) (by omega))
    · exact am_Tc v15 (fun j hj => by
        match j, hj with
        | 0, _ => rfl
        | 1, _ => rfl
        | 2, _ => rfl
        | j + 3, q => exact absurd (show j + 3 < 3 from q) (by omega))
    · exact am_Tc v16 (fun j hj => by
        match j, hj with
        | 0, _ => rfl
        | 1, _ => rfl
        | j + 2, q => exact absurd (show j + 2 < 2 from q) (by omega))
    · exact am_Tc v17 (fun j hj => by
        match j, hj with
        | 0, _ => rfl
        | j + 1, q => exact absurd (show j + 1 < 1 from q) (by omega))
    · exact am_Tc v18 (fun j hj => by
        match j, hj with
        | 0, _ => rfl
        | 1, _ => rfl
        | 2, _ => rfl
        | j + 3, q => exact absurd (show j + 3 < 3 from q) (by omega))
    · exact am_Tc v19 (fun j hj => by
        match j, hj with
        | j + 0, q => exact absurd (show j + 0 < 0 from q) (by omega))
    · exact am_Tc v20 (fun j hj => by
        match j, hj with
        | 0, _ => rfl
        | 1, _ => rfl
        | 2, _ => rfl
        | 3, _ => rfl
        | 4, _ => rfl
        | j + 5, q => exact absurd (show j + 5 < 5 from q) (by omega))
    · exact am_Tc v21 (fun j hj => by
        match j, hj with
        | 0, _ => rfl
        | 1, _ => rfl
        | 2, _ => rfl
        | 3, _ => rfl
        | j + 4, q => exact absurd (show j + 4 < 4 from q) (by omega))
    · exact am_Tc v22 (fun j hj => by
        match j, hj with
        | 0, _ => rfl
        | 1, _ => rfl
        | 2, _ => rfl
        | 3, _ => rfl
        | j + 4, q => exact absurd (show j + 4 < 4 from q) (by omega))
    · exact am_Tc v23 (fun j hj => by
        match j, hj with
        | 0, _ => rfl
        | 1, _ => rfl
        | 2, _ => rfl
        | 3, _ => rfl
        | 4, _ => rfl
        | j + 5, q => exact absurd (show j + 5 < 5 from q) (by omega))
    · exact am_Tc v24 (fun j hj => by
        match j, hj with
        | 0, _ => rfl
        | 1, _ => rfl
        | 2, _ => rfl
        | 3, _ => rfl
        | 4, _ => rfl
        | j + 5, q => exact absurd (show j + 5 < 5 from q) (by omega))
    · exact am_Tc v25 (fun j hj => by
        match j, hj with
        | 0, _ => rfl
        | 1, _ => rfl
        | 2, _ => rfl
        | 3, _ => rfl
        | 4, _ => rfl
        | 5, _ => rfl
        | j + 6, q => exact absurd (show j + 6 < 6 from q) (by omega))
    · exact am_Tc v26 (fun j hj => by
        match j, hj with
        | 0, _ => rfl
        | 1, _ => rfl
        | 2, _ => rfl
        | 3, _ => rfl
        | j + 4, q => exact absurd (show j + 4 < 4 from q) (by omega))
  · exact List.forall_mem_cons.mpr ⟨va_Oof y0 g0 hA, List.forall_mem_cons.mpr ⟨va_Oof y1 g1 hA, List.forall_mem_cons.mpr ⟨va_Oof y2 g2 hA, List.forall_mem_cons.mpr ⟨va_Oof y3 g3 hA, List.forall_mem_cons.mpr ⟨va_Oof y4 g4 hA, List.forall_mem_cons.mpr ⟨va_Oof y5 g5 hA, List.forall_mem_cons.mpr ⟨va_Oof y6 g6 hA, List.forall_mem_cons.mpr ⟨va_Oof y7 g7 hA, List.forall_mem_cons.mpr ⟨va_Oof y8 g8 hA, List.forall_mem_cons.mpr ⟨va_Oof y9 g9 hA, List.forall_mem_cons.mpr ⟨va_Oof y10 g10 hA, List.forall_mem_cons.mpr ⟨va_Oof y11 g11 hA, List.forall_mem_cons.mpr ⟨va_Oof y12 g12 hA, List.forall_mem_cons.mpr ⟨va_Oof y13 g13 hA, List.forall_mem_cons.mpr ⟨va_Oof y14 g14 hA, List.forall_mem_cons.mpr ⟨va_Oof y15 g15 hA, List.forall_mem_cons.mpr ⟨va_Oof y16 g16 hA, List.forall_mem_cons.mpr ⟨va_Oof y17 g17 hA, List.forall_mem_cons.mpr ⟨va_Oof y18 g18 hA, List.forall_mem_cons.mpr ⟨va_Oof y19 g19 hA, List.forall_mem_cons.mpr ⟨va_Oof y20 g20 hA, List.forall_mem_cons.mpr ⟨va_Oof y21 g21 hA, List.forall_mem_cons.mpr ⟨va_Oof y22 g22 hA, List.forall_mem_cons.mpr ⟨va_Oof y23 g23 hA, List.forall_mem_cons.mpr ⟨va_Oof y24 g24 hA, List.forall_mem_cons.mpr ⟨va_Oof y25 g25 hA, List.forall_mem_cons.mpr ⟨va_Oof y26 g26 hA, fun _ h => absurd h List.not_mem_nil⟩⟩⟩⟩⟩⟩⟩⟩⟩⟩⟩⟩⟩⟩⟩⟩⟩⟩⟩⟩⟩⟩⟩⟩⟩⟩⟩
  · exact va_Nw.of rfl (hts _ (am_tbc_in (n := 2) (List.mem_of_getElem? (i := 215) (by decide +kernel))))
  · exact va_Nw.of rfl (hts _ (am_tbc_in (n := 3) (List.mem_of_getElem? (i := 6) (by decide +kernel))))
  · exact List.forall_mem_cons.mpr ⟨va_AO.of (hts _ (am_tbc_in (n := 1) (List.mem_of_getElem? (i := 39) (by decide +kernel)))), List.forall_mem_cons.mpr ⟨va_AO.of (hts _ (am_tbc_in (n := 1) (List.mem_of_getElem? (i := 41) (by decide +kernel)))), List.forall_mem_cons.mpr ⟨va_AO.of (hts _ (am_tbc_in (n := 1) (List.mem_of_getElem? (i := 43) (by decide +kernel)))), List.forall_mem_cons.mpr ⟨va_AO.of (hts _ (am_tbc_in (n := 1) (List.mem_of_getElem? (i := 45) (by decide +kernel)))), List.forall_mem_cons.mpr ⟨va_AO.of (hts _ (am_tbc_in (n := 1) (List.mem_of_getElem? (i := 217) (by decide +kernel)))), fun _ h => absurd h List.not_mem_nil⟩⟩⟩⟩⟩
