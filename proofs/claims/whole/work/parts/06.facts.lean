/-! part 06: what the tables hold, by reckoning -/
theorem am_lk_mem {α : Type} {t : List (List (Nat × α))} {o idx : Nat} {v : α} (h : am_lk t o idx = some v) : (idx, v) ∈ t.getD o [] := by
  unfold am_lk at h
  cases hf : (t.getD o []).find? (fun q => q.1 == idx) with
  | none => rw [hf] at h; cases h
  | some q =>
    rw [hf] at h
    have h1 : q.2 = v := Option.some.inj h
    have h2 : q.1 = idx := by simpa using List.find?_some hf
    have h3 := List.mem_of_find?_eq_some hf
    rw [← h1, ← h2]
    exact h3
theorem am_lk_o {α : Type} {t : List (List (Nat × α))} {o idx : Nat} {v : α} (h : am_lk t o idx = some v) : o < t.length := by
  rcases Nat.lt_or_ge o t.length with q | q
  · exact q
  · have := am_lk_mem h
    rw [List.getD_eq_getElem?_getD, List.getElem?_eq_none q] at this
    cases this
def am_tbc (n : Nat) : List Cond := match n with
  | 1 => tables_1_1
  | 2 => tables_1_2
  | 3 => tables_1_3
  | 4 => tables_1_4
  | 5 => tables_1_5
  | 6 => tables_1_6
  | 7 => tables_1_7
  | 8 => tables_1_8
  | 9 => k2_sels lw_privs
  | _ => []
def am_wd (n : Nat) : Option Cond := (am_tbc (n / 1000))[n % 1000]?
theorem am_tbc_in {n : Nat} {t : Cond} (h : t ∈ am_tbc n) : t ∈ lw_tbl := by
  unfold lw_tbl tables_1
  unfold am_tbc at h
  split at h <;> first | (simp only [List.mem_append, h, true_or, or_true]; done) | cases h
def am_isW (n : Nat) (t : Cond) : Bool := decide (am_wd n = some t) && goodWord t
theorem am_isW_in {n : Nat} {t : Cond} (h : am_isW n t = true) : t ∈ am_tb := by
  unfold am_isW at h
  rw [Bool.and_eq_true] at h
  exact am_tb_in (am_tbc_in (List.mem_of_getElem? (of_decide_eq_true h.1))) h.2
theorem am_cl_at {ci : Nat} (h : ci < 12) : am_cl[ci]? = some (am_cn ci, am_T ci, am_nf ci) := by
  unfold am_cl
  rw [List.getElem?_map, List.getElem?_range h]
  rfl
theorem am_lay_all : (List.range 12).all (fun ci => (List.range (am_nf ci)).all (fun k => am_isW ((am_lw.getD ci []).getD k 0) (u_lay (am_cn ci) (am_T ci) k))) = true := by decide +kernel
theorem am_lay_ok {ci : Nat} (h : ci < 12) : ∀ t ∈ u_ws (am_cn ci) (am_T ci) (am_nf ci), t ∈ am_tb := by
  intro t ht
  obtain ⟨k, hk, rfl⟩ := List.mem_map.mp ht
  exact am_isW_in (List.all_eq_true.mp (List.all_eq_true.mp am_lay_all ci (List.mem_range.mpr h)) k hk)
theorem am_nm_ok : ∀ ci, ci < 12 → ∀ a, a < am_nf ci → ∀ b, b < am_nf ci → a ≠ b → (am_T ci a).2.1 ≠ (am_T ci b).2.1 := by decide +kernel
theorem am_typ_ok : ∀ ci, ci < 12 → ∀ k, k < am_nf ci → parseFieldDescriptor (am_T ci k).2.2.1 = some (am_ty ci k) := by decide +kernel
theorem am_fl_all : (List.range 30).all (fun o => (am_flt.getD o []).all (fun q => decide (q.2.1 < 12) && decide (q.2.2.1 < am_nf q.2.1) && am_isW q.2.2.2 (.fieldLink (am_on.getD o "") q.1 (am_T q.2.1 q.2.2.1).1 (am_T q.2.1 q.2.2.1).2.1 (am_T q.2.1 q.2.2.1).2.2.1))) = true := by decide +kernel
theorem am_fl_ok {o idx ci k n : Nat} (h : am_lk am_flt o idx = some (ci, k, n)) : ci < 12 ∧ k < am_nf ci ∧ Cond.fieldLink (am_on.getD o "") idx (am_T ci k).1 (am_T ci k).2.1 (am_T ci k).2.2.1 ∈ am_tb := by
  have ho : o < 30 := Nat.lt_of_lt_of_le (am_lk_o h) (by decide +kernel)
  have h1 := List.all_eq_true.mp (List.all_eq_true.mp am_fl_all o (List.mem_range.mpr ho)) _ (am_lk_mem h)
  rw [Bool.and_eq_true, Bool.and_eq_true] at h1
  exact ⟨of_decide_eq_true h1.1.1, of_decide_eq_true h1.1.2, am_isW_in h1.2⟩
theorem am_fc_all : (List.range 30).all (fun o => (am_fct.getD o []).all (fun q => am_isW q.2.2 (.fieldLink (am_on.getD o "") q.1 (am_cf.getD q.2.1 ("", "", "")).1 (am_cf.getD q.2.1 ("", "", "")).2.1 (am_cf.getD q.2.1 ("", "", "")).2.2))) = true := by decide +kernel
theorem am_fc_ok {o idx cf n : Nat} (h : am_lk am_fct o idx = some (cf, n)) : Cond.fieldLink (am_on.getD o "") idx (am_cf.getD cf ("", "", "")).1 (am_cf.getD cf ("", "", "")).2.1 (am_cf.getD cf ("", "", "")).2.2 ∈ am_tb := by
  have ho : o < 30 := Nat.lt_of_lt_of_le (am_lk_o h) (by decide +kernel)
  exact am_isW_in (List.all_eq_true.mp (List.all_eq_true.mp am_fc_all o (List.mem_range.mpr ho)) _ (am_lk_mem h))
def am_gsw (o : Nat) (q : Nat × Nat × Nat) : Bool := match am_kZ[q.2.1]? with
  | some z => am_isW q.2.2 (.fieldLink (am_on.getD o "") q.1 z.1 z.2.1 z.2.2.1)
  | none => false
theorem am_gs_all : (List.range 30).all (fun o => (am_gst.getD o []).all (fun q => am_gsw o q)) = true := by decide +kernel
theorem am_gs_ok {o idx z n : Nat} {q : String × String × String × Value} (h : am_lk am_gst o idx = some (z, n)) (hz : am_kZ[z]? = some q) : Cond.fieldLink (am_on.getD o "") idx q.1 q.2.1 q.2.2.1 ∈ am_tb := by
  have ho : o < 30 := Nat.lt_of_lt_of_le (am_lk_o h) (by decide +kernel)
  have h1 := List.all_eq_true.mp (List.all_eq_true.mp am_gs_all o (List.mem_range.mpr ho)) _ (am_lk_mem h)
  unfold am_gsw at h1
  rw [hz] at h1
  exact am_isW_in h1
theorem am_clt_all : (List.range 30).all (fun o => (am_clt.getD o []).all (fun q => decide (q.2.1 < 12) && am_isW q.2.2.1 (.classLink (am_on.getD o "") q.1 (am_cn q.2.1)) && am_isW q.2.2.2.1 (.instantiable (am_cn q.2.1) (am_nf q.2.1)) && am_isW q.2.2.2.2 (.initialized (am_cn q.2.1)))) = true := by decide +kernel
theorem am_clt_ok {o idx ci : Nat} {n : Nat × Nat × Nat} (h : am_lk am_clt o idx = some (ci, n)) : ci < 12 ∧ Cond.classLink (am_on.getD o "") idx (am_cn ci) ∈ am_tb ∧ Cond.instantiable (am_cn ci) (am_nf ci) ∈ am_tb ∧ Cond.initialized (am_cn ci) ∈ am_tb := by
  have ho : o < 30 := Nat.lt_of_lt_of_le (am_lk_o h) (by decide +kernel)
  have h1 := List.all_eq_true.mp (List.all_eq_true.mp am_clt_all o (List.mem_range.mpr ho)) _ (am_lk_mem h)
  rw [Bool.and_eq_true, Bool.and_eq_true, Bool.and_eq_true] at h1
  exact ⟨of_decide_eq_true h1.1.1.1, am_isW_in h1.1.1.2, am_isW_in h1.1.2, am_isW_in h1.2⟩
theorem am_ki_all : (List.range 30).all (fun o => (am_kit.getD o []).all (fun q => am_isW q.2.2 (.constant (am_on.getD o "") q.1 q.2.1))) = true := by decide +kernel
theorem am_ki_ok {o idx n : Nat} {v : Int32} (h : am_lk am_kit o idx = some (v, n)) : Cond.constant (am_on.getD o "") idx v ∈ am_tb := by
  have ho : o < 30 := Nat.lt_of_lt_of_le (am_lk_o h) (by decide +kernel)
  exact am_isW_in (List.all_eq_true.mp (List.all_eq_true.mp am_ki_all o (List.mem_range.mpr ho)) _ (am_lk_mem h))
theorem am_kl_all : (List.range 30).all (fun o => (am_klt.getD o []).all (fun q => am_isW q.2.2 (.constantLong (am_on.getD o "") q.1 q.2.1))) = true := by decide +kernel
theorem am_kl_ok {o idx n : Nat} {v : Int64} (h : am_lk am_klt o idx = some (v, n)) : Cond.constantLong (am_on.getD o "") idx v ∈ am_tb := by
  have ho : o < 30 := Nat.lt_of_lt_of_le (am_lk_o h) (by decide +kernel)
  exact am_isW_in (List.all_eq_true.mp (List.all_eq_true.mp am_kl_all o (List.mem_range.mpr ho)) _ (am_lk_mem h))
theorem am_tc_ok {ci tc : Nat} (h : am_tcOf ci = some tc) : ci ∈ [3, 2, 0, 5, 8] ∧ 4 ≤ tc ∧ tc ≤ 8 ∧ am_at tc = .object (am_cn ci) := by
  unfold am_tcOf at h
  split at h
  · cases h; exact ⟨by decide, by decide, by decide, by decide +kernel⟩
  · cases h; exact ⟨by decide, by decide, by decide, by decide +kernel⟩
  · cases h; exact ⟨by decide, by decide, by decide, by decide +kernel⟩
  · cases h; exact ⟨by decide, by decide, by decide, by decide +kernel⟩
  · cases h; exact ⟨by decide, by decide, by decide, by decide +kernel⟩
  · cases h
theorem am_arr_all : am_isW 1097 (.arrayClass .int) = true ∧ am_isW 1096 (.arrayClass .byte) = true ∧ am_isW 2038 (.arrayClass .boolean) = true ∧ am_isW 2122 (.arrayClass .long) = true := by decide +kernel
theorem am_nt_ok {a : ArrayType} {tc : Nat} (h : am_nt a = some tc) : Cond.arrayClass (newarray.typeOf a) ∈ am_tb ∧ tc ≤ 3 ∧ am_at tc = newarray.typeOf a := by
  obtain ⟨h1, h2, h3, h4⟩ := am_arr_all
  cases a with
  | int => cases h; exact ⟨am_isW_in h1, by decide, rfl⟩
  | byte => cases h; exact ⟨am_isW_in h2, by decide, rfl⟩
  | boolean => cases h; exact ⟨am_isW_in h3, by decide, rfl⟩
  | long => cases h; exact ⟨am_isW_in h4, by decide, rfl⟩
  | _ => cases h
theorem am_sys_all : am_isW 3142 (.native arraycopyName) = true ∧ am_isW 3141 (.static arraycopyName) = true ∧ am_isW 1020 (.initialized "java/lang/System") = true := by decide +kernel
theorem am_obj_all : am_isW 1030 (.instanceMethod objectInit) = true ∧ am_isW 1031 (.code objectInit ⟨#[0xb1]⟩ 1 none) = true := by decide +kernel
/-- the links of calls: 0 virtual, 1 of a class, 2 of a maker, 3 Object's, 4 arraycopy, 5 of a nest mate -/
def am_mlw (o : Nat) (q : Nat × Nat × Nat × Nat) : Bool := match q.2.1 with
  | 3 => am_isW q.2.2.2 (.methodLink (am_on.getD o "") q.1 objectInit)
  | 4 => am_isW q.2.2.2 (.methodLink (am_on.getD o "") q.1 arraycopyName)
  | 6 => am_isW q.2.2.2 (.methodLink (am_on.getD o "") q.1 Lib.Math.min.name)
  | 7 => am_isW q.2.2.2 (.methodLink (am_on.getD o "") q.1 Lib.Math.max.name)
  | 8 => am_isW q.2.2.2 (.methodLink (am_on.getD o "") q.1 Lib.Math.abs.name)
  | 5 => decide (o = 7) && decide (q.1 = 87) && decide ((am_ms[q.2.2.1]?).map (fun y => y.1) = some ⟨"DogNotary$Fell", "clear", "()V"⟩) && decide (am_mk0[q.2.2.1]? = some 0)
  | _ => (match am_ms[q.2.2.1]? with
    | some y => am_isW q.2.2.2 (.methodLink (am_on.getD o "") q.1 y.1) && decide (am_mk0[q.2.2.1]? = some q.2.1)
    | none => false)
theorem am_ml_all : (List.range 30).all (fun o => (am_mlt.getD o []).all (fun q => am_mlw o q)) = true := by decide +kernel
theorem am_ml_ok {o idx : Nat} {q : Nat × Nat × Nat} (h : am_lk am_mlt o idx = some q) : am_mlw o (idx, q) = true := by
  have ho : o < 30 := Nat.lt_of_lt_of_le (am_lk_o h) (by decide +kernel)
  exact List.all_eq_true.mp (List.all_eq_true.mp am_ml_all o (List.mem_range.mpr ho)) _ (am_lk_mem h)
/-- a method's own words -/
def am_pn (y : am_M) : Option Nat := (parseMethodDescriptor y.1.desc).map (fun d => d.parameters.length)
def am_meth (k : Nat) : Bool := match am_ms[k]? with
  | some y => (match am_mw[k]? with
    | some u => am_isW u.2.2.2 (.initialized y.1.cls) && decide (am_on.getD (am_own y) "" = y.1.cls) && plainName y.1.cls && decide (y.1.cls ≠ "java/lang/invoke/MethodHandle" ∧ y.1.cls ≠ "java/lang/invoke/VarHandle") &&
      (match am_mk0[k]? with
        | some 0 => am_isW u.2.1 (.instanceMethod y.1) && am_isW u.2.2.1 (.selects y.1.cls y.1 y.1) && decide (am_pn y = some (am_np y - 1)) && decide (1 ≤ am_np y)
        | some 1 => am_isW u.2.1 (.static y.1) && decide (am_pn y = some (am_np y))
        | some 2 => am_isW u.2.1 (.instanceMethod y.1) && decide (y.1.name = "<init>") && decide (am_pn y = some (am_np y - 1)) && decide (1 ≤ am_np y) && decide (y.2.2.2.1 = none)
        | _ => false)
    | none => false)
  | none => false
theorem am_meth_all : (List.range 298).all (fun k => am_meth k) = true := by decide +kernel
theorem am_len_ms : am_ms.length = 299 := by decide +kernel
theorem am_cn_on : ∀ ci, ci < 12 → am_cn ci = am_on.getD ci "" := by decide +kernel
theorem am_math_min : am_isW 2210 (.code Lib.Math.min.name Lib.Math.min.code 2 (some .int)) = true ∧ am_isW 2209 (.static Lib.Math.min.name) = true ∧ am_isW 1013 (.initialized "java/lang/Math") = true := by decide +kernel
theorem am_math_max : am_isW 3160 (.code Lib.Math.max.name Lib.Math.max.code 2 (some .int)) = true ∧ am_isW 3159 (.static Lib.Math.max.name) = true ∧ am_isW 1013 (.initialized "java/lang/Math") = true := by decide +kernel
theorem am_math_abs : am_isW 3235 (.code Lib.Math.abs.name Lib.Math.abs.code 1 (some .int)) = true ∧ am_isW 3234 (.static Lib.Math.abs.name) = true ∧ am_isW 1013 (.initialized "java/lang/Math") = true := by decide +kernel
def am_cwl (a n : Nat) : List (Option Cond) := ((am_mw.drop a).take n).map (fun u => am_wd u.1)
def am_cml (l : List am_M) : List (Option Cond) := l.map (fun y => some (Cond.code y.1 y.2.1 y.2.2.1 y.2.2.2.1))
set_option maxRecDepth 100000 in
theorem am_cod : am_cwl 0 298 = am_cml (am_ms.take 298) := rfl
theorem am_code_in {k : Nat} {y : am_M} (h : am_ms[k]? = some y) (hk : k < 298) : Cond.code y.1 y.2.1 y.2.2.1 y.2.2.2.1 ∈ am_tb := by
  have h1 : (am_cml (am_ms.take 298))[k]? = some (some (Cond.code y.1 y.2.1 y.2.2.1 y.2.2.2.1)) := by
    unfold am_cml
    rw [List.getElem?_map, List.getElem?_take_of_lt hk, h]
    rfl
  rw [← am_cod] at h1
  unfold am_cwl at h1
  rw [List.getElem?_map] at h1
  cases hu : ((am_mw.drop 0).take 298)[k]? with
  | none => rw [hu] at h1; cases h1
  | some u =>
    rw [hu] at h1
    have h2 : am_wd u.1 = some (Cond.code y.1 y.2.1 y.2.2.1 y.2.2.2.1) := Option.some.inj h1
    exact am_tb_in (am_tbc_in (List.mem_of_getElem? h2)) rfl
theorem am_mtys : ∀ ci, ci < 12 → ∀ k, k < am_nf ci → (am_ty ci k = .int ∨ am_ty ci k = .boolean ∨ am_ty ci k = .long) ∨ defaultValue (am_ty ci k) = .null ∧ (match am_ty ci k with
  | .object _ => true
  | .array _ => true
  | _ => false) = true := by decide +kernel
