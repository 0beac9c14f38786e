theorem den_in (v lo hi : Int32) (h : am_H) : am_den 168 [.int v, .int lo, .int hi] h = some (some (.int (if lo ≤ v ∧ v ≤ hi then 1 else 0)), h) := by
  show am_ev 168 0 [some (.int v), some (.int lo), some (.int hi)] [] h = _
  simp only [e168_0, e168_1, e168_2, e168_5, e168_6, e168_7, e168_10, e168_11, e168_14, e168_15, eq_self, or_true, true_or]
  by_cases h1 : v < lo
  · rw [if_pos h1, if_neg (fun q => absurd h1 (Int32.not_lt.mpr q.1))]
  · rw [if_neg h1]
    by_cases h2 : hi < v
    · rw [if_pos h2, if_neg (fun q => absurd h2 (Int32.not_lt.mpr q.2))]
    · rw [if_neg h2, if_pos ⟨Int32.not_lt.mp h1, Int32.not_lt.mp h2⟩]
theorem den_greater (a b : Int32) (h : am_H) : am_den 187 [.int a, .int b] h = some (some (.int (if b < a then a else b)), h) := by
  show am_ev 187 0 [some (.int a), some (.int b)] [] h = _
  simp only [e187_0, e187_1, e187_2, e187_5, e187_6, e187_9, e187_10]
  split <;> (split <;> first | rfl | simp_all)
theorem den_lesser (a b : Int32) (h : am_H) : am_den 242 [.int a, .int b] h = some (some (.int (if a < b then a else b)), h) := by
  show am_ev 242 0 [some (.int a), some (.int b)] [] h = _
  simp only [e242_0, e242_1, e242_2, e242_5, e242_6, e242_9, e242_10]
  split <;> (split <;> first | rfl | simp_all)
theorem den_apart (a b : Int32) (h : am_H) : am_den 221 [.int a, .int b] h = some (some (.int (if a < b then b - a else a - b)), h) := by
  show am_ev 221 0 [some (.int a), some (.int b)] [] h = _
  simp only [e221_0, e221_1, e221_2, e221_5, e221_6, e221_7, e221_8, e221_11, e221_12, e221_13, e221_14]
  split <;> (split <;> first | rfl | simp_all)
theorem den_steps (o : Nat) (a b : Int32) (h : am_H) (hk : am_kd h o = some (.inl 11)) (hw : h.1 o 25 ≠ 0) : am_den 220 [.ref o, .int a, .int b] h = some (some (.int 0), h) := by
  show am_ev 220 0 [some (.ref o), some (.int a), some (.int b)] [] h = _
  simp only [e220_0, e220_1, e220_2, e220_5, e220_6, e220_7, e220_8, e220_11, e220_12, e220_15, e220_16, e220_17, e220_20, e220_21, e220_22, e220_23, e220_26, e220_27, e220_30, e220_31, hk, am_w8, List.map, List.sum_cons, List.sum_nil, Value.category, den_apart, am_bd_some, Option.toList_some, List.cons_append, List.nil_append, hw, if_false, Nat.reduceAdd, Nat.reduceLeDiff]
  trace_state
  sorry

