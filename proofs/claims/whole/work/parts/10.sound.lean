/-! part 10: what the small machine does, the machine does (by wip/whole/sound.py) -/
def am_le (h h' : am_H) : Prop := am_n h ≤ am_n h' ∧ am_z h ≤ am_z h' ∧ h'.2.2.2.2 = h.2.2.2.2
theorem am_le.rf {h : am_H} : am_le h h := ⟨Nat.le_refl _, Nat.le_refl _, rfl⟩
theorem am_le.tr {a b c : am_H} (h1 : am_le a b) (h2 : am_le b c) : am_le a c := ⟨Nat.le_trans h1.1 h2.1, Nat.le_trans h1.2.1 h2.2.1, h2.2.2.trans h1.2.2⟩
theorem am_but.le {o : Nat} {h h' : am_H} (hb : am_but o h h') : am_le h h' := ⟨Nat.le_of_eq hb.n.symm, Nat.le_of_eq hb.z.symm, by rw [hb.2]⟩
theorem am_le.nw {h : am_H} {kd : am_K} : am_le h (am_nw h kd) := ⟨by rw [am_n_nw]; exact Nat.le_succ _, by rw [am_z_nw]; exact Nat.le_add_right _ _, rfl⟩
section AMLE
variable {pc : Nat} {ls : List (Option Value)} {st : List Value} {h : am_H} {k : am_C} {y : am_M}
theorem am_ii_le {f : Int32 → Int32 → Int32} (ha : am_ii f pc ls st h = some (.inl k)) : am_le h k.2.2.2 := by
  unfold am_ii at ha
  repeat' split at ha
  all_goals first | (obtain rfl := am_go_inv ha; first | exact am_le.rf | exact am_but_sI.le | exact am_but_sL.le | exact am_but_sR.le | exact am_but_cp.le | exact am_le.nw) | cases ha
theorem am_iz_le {f : Int32 → Int32 → Int32} (ha : am_iz f pc ls st h = some (.inl k)) : am_le h k.2.2.2 := by
  unfold am_iz at ha
  repeat' split at ha
  all_goals first | (obtain rfl := am_go_inv ha; first | exact am_le.rf | exact am_but_sI.le | exact am_but_sL.le | exact am_but_sR.le | exact am_but_cp.le | exact am_le.nw) | cases ha
theorem am_ll_le {f : Int64 → Int64 → Int64} (ha : am_ll f pc ls st h = some (.inl k)) : am_le h k.2.2.2 := by
  unfold am_ll at ha
  repeat' split at ha
  all_goals first | (obtain rfl := am_go_inv ha; first | exact am_le.rf | exact am_but_sI.le | exact am_but_sL.le | exact am_but_sR.le | exact am_but_cp.le | exact am_le.nw) | cases ha
theorem am_lz_le {f : Int64 → Int64 → Int64} (ha : am_lz f pc ls st h = some (.inl k)) : am_le h k.2.2.2 := by
  unfold am_lz at ha
  repeat' split at ha
  all_goals first | (obtain rfl := am_go_inv ha; first | exact am_le.rf | exact am_but_sI.le | exact am_but_sL.le | exact am_but_sR.le | exact am_but_cp.le | exact am_le.nw) | cases ha
theorem am_li_le {f : Int64 → Int32 → Int64} (ha : am_li f pc ls st h = some (.inl k)) : am_le h k.2.2.2 := by
  unfold am_li at ha
  repeat' split at ha
  all_goals first | (obtain rfl := am_go_inv ha; first | exact am_le.rf | exact am_but_sI.le | exact am_but_sL.le | exact am_but_sR.le | exact am_but_cp.le | exact am_le.nw) | cases ha
theorem am_i1_le {f : Int32 → Value} (ha : am_i1 f pc ls st h = some (.inl k)) : am_le h k.2.2.2 := by
  unfold am_i1 at ha
  repeat' split at ha
  all_goals first | (obtain rfl := am_go_inv ha; first | exact am_le.rf | exact am_but_sI.le | exact am_but_sL.le | exact am_but_sR.le | exact am_but_cp.le | exact am_le.nw) | cases ha
theorem am_l1_le {f : Int64 → Value} (ha : am_l1 f pc ls st h = some (.inl k)) : am_le h k.2.2.2 := by
  unfold am_l1 at ha
  repeat' split at ha
  all_goals first | (obtain rfl := am_go_inv ha; first | exact am_le.rf | exact am_but_sI.le | exact am_but_sL.le | exact am_but_sR.le | exact am_but_cp.le | exact am_le.nw) | cases ha
theorem am_lI_le {i : Nat} (ha : am_lI i pc ls st h = some (.inl k)) : am_le h k.2.2.2 := by
  unfold am_lI at ha
  repeat' split at ha
  all_goals first | (obtain rfl := am_go_inv ha; first | exact am_le.rf | exact am_but_sI.le | exact am_but_sL.le | exact am_but_sR.le | exact am_but_cp.le | exact am_le.nw) | cases ha
theorem am_lL_le {i : Nat} (ha : am_lL i pc ls st h = some (.inl k)) : am_le h k.2.2.2 := by
  unfold am_lL at ha
  repeat' split at ha
  all_goals first | (obtain rfl := am_go_inv ha; first | exact am_le.rf | exact am_but_sI.le | exact am_but_sL.le | exact am_but_sR.le | exact am_but_cp.le | exact am_le.nw) | cases ha
theorem am_lA_le {i : Nat} (ha : am_lA i pc ls st h = some (.inl k)) : am_le h k.2.2.2 := by
  unfold am_lA at ha
  repeat' split at ha
  all_goals first | (obtain rfl := am_go_inv ha; first | exact am_le.rf | exact am_but_sI.le | exact am_but_sL.le | exact am_but_sR.le | exact am_but_cp.le | exact am_le.nw) | cases ha
theorem am_tI_le {i : Nat} (ha : am_tI i pc ls st h = some (.inl k)) : am_le h k.2.2.2 := by
  unfold am_tI at ha
  repeat' split at ha
  all_goals first | (obtain rfl := am_go_inv ha; first | exact am_le.rf | exact am_but_sI.le | exact am_but_sL.le | exact am_but_sR.le | exact am_but_cp.le | exact am_le.nw) | cases ha
theorem am_tL_le {i : Nat} (ha : am_tL i pc ls st h = some (.inl k)) : am_le h k.2.2.2 := by
  unfold am_tL at ha
  repeat' split at ha
  all_goals first | (obtain rfl := am_go_inv ha; first | exact am_le.rf | exact am_but_sI.le | exact am_but_sL.le | exact am_but_sR.le | exact am_but_cp.le | exact am_le.nw) | cases ha
theorem am_tA_le {i : Nat} (ha : am_tA i pc ls st h = some (.inl k)) : am_le h k.2.2.2 := by
  unfold am_tA at ha
  repeat' split at ha
  all_goals first | (obtain rfl := am_go_inv ha; first | exact am_le.rf | exact am_but_sI.le | exact am_but_sL.le | exact am_but_sR.le | exact am_but_cp.le | exact am_le.nw) | cases ha
theorem am_inc_le {i : Nat} {n : Int} (ha : am_inc i n pc ls st h = some (.inl k)) : am_le h k.2.2.2 := by
  unfold am_inc at ha
  repeat' split at ha
  all_goals first | (obtain rfl := am_go_inv ha; first | exact am_le.rf | exact am_but_sI.le | exact am_but_sL.le | exact am_but_sR.le | exact am_but_cp.le | exact am_le.nw) | cases ha
theorem am_if1_le {c : ClassFile.Cond} {off : Int} (ha : am_if1 c off pc ls st h = some (.inl k)) : am_le h k.2.2.2 := by
  unfold am_if1 at ha
  repeat' split at ha
  all_goals first | (obtain rfl := am_go_inv ha; first | exact am_le.rf | exact am_but_sI.le | exact am_but_sL.le | exact am_but_sR.le | exact am_but_cp.le | exact am_le.nw) | cases ha
theorem am_if2_le {c : ClassFile.Cond} {off : Int} (ha : am_if2 c off pc ls st h = some (.inl k)) : am_le h k.2.2.2 := by
  unfold am_if2 at ha
  repeat' split at ha
  all_goals first | (obtain rfl := am_go_inv ha; first | exact am_le.rf | exact am_but_sI.le | exact am_but_sL.le | exact am_but_sR.le | exact am_but_cp.le | exact am_le.nw) | cases ha
theorem am_sw_le {d lo hi : Int} {offs : Array Int} (ha : am_sw d lo hi offs pc ls st h = some (.inl k)) : am_le h k.2.2.2 := by
  unfold am_sw at ha
  repeat' split at ha
  all_goals first | (obtain rfl := am_go_inv ha; first | exact am_le.rf | exact am_but_sI.le | exact am_but_sL.le | exact am_but_sR.le | exact am_but_cp.le | exact am_le.nw) | cases ha
theorem am_nn_le {off : Int} (ha : am_nn off pc ls st h = some (.inl k)) : am_le h k.2.2.2 := by
  unfold am_nn at ha
  repeat' split at ha
  all_goals first | (obtain rfl := am_go_inv ha; first | exact am_le.rf | exact am_but_sI.le | exact am_but_sL.le | exact am_but_sR.le | exact am_but_cp.le | exact am_le.nw) | cases ha
theorem am_gf_le {idx : Nat} (ha : am_gf y idx pc ls st h = some (.inl k)) : am_le h k.2.2.2 := by
  unfold am_gf at ha
  repeat' split at ha
  all_goals first | (obtain rfl := am_go_inv ha; first | exact am_le.rf | exact am_but_sI.le | exact am_but_sL.le | exact am_but_sR.le | exact am_but_cp.le | exact am_le.nw) | cases ha
theorem am_gs_le {idx : Nat} (ha : am_gs y idx pc ls st h = some (.inl k)) : am_le h k.2.2.2 := by
  unfold am_gs at ha
  repeat' split at ha
  all_goals first | (obtain rfl := am_go_inv ha; first | exact am_le.rf | exact am_but_sI.le | exact am_but_sL.le | exact am_but_sR.le | exact am_but_cp.le | exact am_le.nw) | cases ha
theorem am_pf_le {idx : Nat} (ha : am_pf y idx pc ls st h = some (.inl k)) : am_le h k.2.2.2 := by
  unfold am_pf at ha
  split at ha
  · split at ha
    · split at ha
      · split at ha
        · rename_i h' hp
          obtain rfl := am_go_inv ha
          exact (am_pv_spec ((fun _ => 0, fun _ _ => 0), fun _ => 0, 0, fun _ => 0, none) hp).1.le
        · cases ha
      · cases ha
    · cases ha
  · cases ha
theorem am_rI_le  (ha : am_rI pc ls st h = some (.inl k)) : am_le h k.2.2.2 := by
  unfold am_rI at ha
  repeat' split at ha
  all_goals first | (obtain rfl := am_go_inv ha; first | exact am_le.rf | exact am_but_sI.le | exact am_but_sL.le | exact am_but_sR.le | exact am_but_cp.le | exact am_le.nw) | cases ha
theorem am_rB_le  (ha : am_rB pc ls st h = some (.inl k)) : am_le h k.2.2.2 := by
  unfold am_rB at ha
  repeat' split at ha
  all_goals first | (obtain rfl := am_go_inv ha; first | exact am_le.rf | exact am_but_sI.le | exact am_but_sL.le | exact am_but_sR.le | exact am_but_cp.le | exact am_le.nw) | cases ha
theorem am_rL_le  (ha : am_rL pc ls st h = some (.inl k)) : am_le h k.2.2.2 := by
  unfold am_rL at ha
  repeat' split at ha
  all_goals first | (obtain rfl := am_go_inv ha; first | exact am_le.rf | exact am_but_sI.le | exact am_but_sL.le | exact am_but_sR.le | exact am_but_cp.le | exact am_le.nw) | cases ha
theorem am_rA_le  (ha : am_rA pc ls st h = some (.inl k)) : am_le h k.2.2.2 := by
  unfold am_rA at ha
  repeat' split at ha
  all_goals first | (obtain rfl := am_go_inv ha; first | exact am_le.rf | exact am_but_sI.le | exact am_but_sL.le | exact am_but_sR.le | exact am_but_cp.le | exact am_le.nw) | cases ha
theorem am_wI_le  (ha : am_wI pc ls st h = some (.inl k)) : am_le h k.2.2.2 := by
  unfold am_wI at ha
  repeat' split at ha
  all_goals first | (obtain rfl := am_go_inv ha; first | exact am_le.rf | exact am_but_sI.le | exact am_but_sL.le | exact am_but_sR.le | exact am_but_cp.le | exact am_le.nw) | cases ha
theorem am_wB_le  (ha : am_wB pc ls st h = some (.inl k)) : am_le h k.2.2.2 := by
  unfold am_wB at ha
  repeat' split at ha
  all_goals first | (obtain rfl := am_go_inv ha; first | exact am_le.rf | exact am_but_sI.le | exact am_but_sL.le | exact am_but_sR.le | exact am_but_cp.le | exact am_le.nw) | cases ha
theorem am_wL_le  (ha : am_wL pc ls st h = some (.inl k)) : am_le h k.2.2.2 := by
  unfold am_wL at ha
  repeat' split at ha
  all_goals first | (obtain rfl := am_go_inv ha; first | exact am_le.rf | exact am_but_sI.le | exact am_but_sL.le | exact am_but_sR.le | exact am_but_cp.le | exact am_le.nw) | cases ha
theorem am_wA_le  (ha : am_wA pc ls st h = some (.inl k)) : am_le h k.2.2.2 := by
  unfold am_wA at ha
  repeat' split at ha
  all_goals first | (obtain rfl := am_go_inv ha; first | exact am_le.rf | exact am_but_sI.le | exact am_but_sL.le | exact am_but_sR.le | exact am_but_cp.le | exact am_le.nw) | cases ha
theorem am_al_le  (ha : am_al pc ls st h = some (.inl k)) : am_le h k.2.2.2 := by
  unfold am_al at ha
  repeat' split at ha
  all_goals first | (obtain rfl := am_go_inv ha; first | exact am_le.rf | exact am_but_sI.le | exact am_but_sL.le | exact am_but_sR.le | exact am_but_cp.le | exact am_le.nw) | cases ha
theorem am_new_le {idx : Nat} (ha : am_new y idx pc ls st h = some (.inl k)) : am_le h k.2.2.2 := by
  unfold am_new at ha
  repeat' split at ha
  all_goals first | (obtain rfl := am_go_inv ha; first | exact am_le.rf | exact am_but_sI.le | exact am_but_sL.le | exact am_but_sR.le | exact am_but_cp.le | exact am_le.nw) | cases ha
theorem am_na_le {a : ArrayType} (ha : am_na a pc ls st h = some (.inl k)) : am_le h k.2.2.2 := by
  unfold am_na at ha
  repeat' split at ha
  all_goals first | (obtain rfl := am_go_inv ha; first | exact am_le.rf | exact am_but_sI.le | exact am_but_sL.le | exact am_but_sR.le | exact am_but_cp.le | exact am_le.nw) | cases ha
theorem am_an_le {idx : Nat} (ha : am_an y idx pc ls st h = some (.inl k)) : am_le h k.2.2.2 := by
  unfold am_an at ha
  repeat' split at ha
  all_goals first | (obtain rfl := am_go_inv ha; first | exact am_le.rf | exact am_but_sI.le | exact am_but_sL.le | exact am_but_sR.le | exact am_but_cp.le | exact am_le.nw) | cases ha
theorem am_oi_le  (ha : am_oi y pc ls st h = some (.inl k)) : am_le h k.2.2.2 := by
  unfold am_oi at ha
  repeat' split at ha
  all_goals first | (obtain rfl := am_go_inv ha; first | exact am_le.rf | exact am_but_sI.le | exact am_but_sL.le | exact am_but_sR.le | exact am_but_cp.le | exact am_le.nw) | cases ha
theorem am_ac_le  (ha : am_ac y pc ls st h = some (.inl k)) : am_le h k.2.2.2 := by
  unfold am_ac at ha
  repeat' split at ha
  all_goals first | (obtain rfl := am_go_inv ha; first | exact am_le.rf | exact am_but_sI.le | exact am_but_sL.le | exact am_but_sR.le | exact am_but_cp.le | exact am_le.nw) | cases ha
theorem am_mt_le {kind : Nat} (ha : am_mt y kind pc ls st h = some (.inl k)) : am_le h k.2.2.2 := by
  unfold am_mt at ha
  repeat' split at ha
  all_goals first | (obtain rfl := am_go_inv ha; first | exact am_le.rf | exact am_but_sI.le | exact am_but_sL.le | exact am_but_sR.le | exact am_but_cp.le | exact am_le.nw) | cases ha
theorem am_dup_le  (ha : am_dup pc ls st h = some (.inl k)) : am_le h k.2.2.2 := by
  unfold am_dup at ha
  repeat' split at ha
  all_goals first | (obtain rfl := am_go_inv ha; first | exact am_le.rf | exact am_but_sI.le | exact am_but_sL.le | exact am_but_sR.le | exact am_but_cp.le | exact am_le.nw) | cases ha
theorem am_dup2_le  (ha : am_dup2 pc ls st h = some (.inl k)) : am_le h k.2.2.2 := by
  unfold am_dup2 at ha
  repeat' split at ha
  all_goals first | (obtain rfl := am_go_inv ha; first | exact am_le.rf | exact am_but_sI.le | exact am_but_sL.le | exact am_but_sR.le | exact am_but_cp.le | exact am_le.nw) | cases ha
theorem am_pop_le  (ha : am_pop pc ls st h = some (.inl k)) : am_le h k.2.2.2 := by
  unfold am_pop at ha
  repeat' split at ha
  all_goals first | (obtain rfl := am_go_inv ha; first | exact am_le.rf | exact am_but_sI.le | exact am_but_sL.le | exact am_but_sR.le | exact am_but_cp.le | exact am_le.nw) | cases ha
theorem am_call_no {kind n : Nat} (ha : am_call y kind n pc st h = some (.inl k)) : False := by
  unfold am_call at ha
  repeat' split at ha
  all_goals first | cases ha | (injection ha with ha; cases ha)
theorem am_inv_le {want : Nat → Bool} {idx : Nat} (ha : am_inv y want idx pc ls st h = some (.inl k)) : am_le h k.2.2.2 := by
  unfold am_inv at ha
  split at ha
  · split at ha
    · split at ha
      · exact am_oi_le ha
      · split at ha
        · exact am_ac_le ha
        · split at ha
          · exact am_mt_le ha
          · exact (am_call_no ha).elim
    · cases ha
  · cases ha
theorem am_rt_no (ha : am_rt y st = some (.inl k)) : False := by
  unfold am_rt at ha
  repeat' split at ha
  all_goals first | cases ha | (injection ha with ha; cases ha)
theorem am_rtL_no (ha : am_rtL y st = some (.inl k)) : False := by
  unfold am_rtL at ha
  repeat' split at ha
  all_goals first | cases ha | (injection ha with ha; cases ha)
theorem am_rtA_no (ha : am_rtA y st = some (.inl k)) : False := by
  unfold am_rtA at ha
  repeat' split at ha
  all_goals first | cases ha | (injection ha with ha; cases ha)
theorem am_rtV_no (ha : am_rtV y st = some (.inl k)) : False := by
  unfold am_rtV at ha
  repeat' split at ha
  all_goals first | cases ha | (injection ha with ha; cases ha)
end AMLE
set_option maxHeartbeats 4000000 in
theorem am_act_le {y : am_M} {i : Instr} {len pc : Nat} {ls : List (Option Value)} {st : List Value} {h : am_H} {k : am_C} (ha : am_act y i len pc ls st h = some (.inl k)) : am_le h k.2.2.2 := by
  cases i with
  | iadd  =>
    replace ha : (if _ then _ else none) = some (Sum.inl k) := ha
    split at ha
    · exact am_ii_le ha
    · cases ha
  | isub  =>
    replace ha : (if _ then _ else none) = some (Sum.inl k) := ha
    split at ha
    · exact am_ii_le ha
    · cases ha
  | imul  =>
    replace ha : (if _ then _ else none) = some (Sum.inl k) := ha
    split at ha
    · exact am_ii_le ha
    · cases ha
  | iand  =>
    replace ha : (if _ then _ else none) = some (Sum.inl k) := ha
    split at ha
    · exact am_ii_le ha
    · cases ha
  | ior  =>
    replace ha : (if _ then _ else none) = some (Sum.inl k) := ha
    split at ha
    · exact am_ii_le ha
    · cases ha
  | ixor  =>
    replace ha : (if _ then _ else none) = some (Sum.inl k) := ha
    split at ha
    · exact am_ii_le ha
    · cases ha
  | ishl  =>
    replace ha : (if _ then _ else none) = some (Sum.inl k) := ha
    split at ha
    · exact am_ii_le ha
    · cases ha
  | ishr  =>
    replace ha : (if _ then _ else none) = some (Sum.inl k) := ha
    split at ha
    · exact am_ii_le ha
    · cases ha
  | iushr  =>
    replace ha : (if _ then _ else none) = some (Sum.inl k) := ha
    split at ha
    · exact am_ii_le ha
    · cases ha
  | idiv  =>
    replace ha : (if _ then _ else none) = some (Sum.inl k) := ha
    split at ha
    · exact am_iz_le ha
    · cases ha
  | irem  =>
    replace ha : (if _ then _ else none) = some (Sum.inl k) := ha
    split at ha
    · exact am_iz_le ha
    · cases ha
  | ladd  =>
    replace ha : (if _ then _ else none) = some (Sum.inl k) := ha
    split at ha
    · exact am_ll_le ha
    · cases ha
  | lsub  =>
    replace ha : (if _ then _ else none) = some (Sum.inl k) := ha
    split at ha
    · exact am_ll_le ha
    · cases ha
  | lmul  =>
    replace ha : (if _ then _ else none) = some (Sum.inl k) := ha
    split at ha
    · exact am_ll_le ha
    · cases ha
  | land  =>
    replace ha : (if _ then _ else none) = some (Sum.inl k) := ha
    split at ha
    · exact am_ll_le ha
    · cases ha
  | lor  =>
    replace ha : (if _ then _ else none) = some (Sum.inl k) := ha
    split at ha
    · exact am_ll_le ha
    · cases ha
  | ldiv  =>
    replace ha : (if _ then _ else none) = some (Sum.inl k) := ha
    split at ha
    · exact am_lz_le ha
    · cases ha
  | lrem  =>
    replace ha : (if _ then _ else none) = some (Sum.inl k) := ha
    split at ha
    · exact am_lz_le ha
    · cases ha
  | lshl  =>
    replace ha : (if _ then _ else none) = some (Sum.inl k) := ha
    split at ha
    · exact am_li_le ha
    · cases ha
  | lshr  =>
    replace ha : (if _ then _ else none) = some (Sum.inl k) := ha
    split at ha
    · exact am_li_le ha
    · cases ha
  | lushr  =>
    replace ha : (if _ then _ else none) = some (Sum.inl k) := ha
    split at ha
    · exact am_li_le ha
    · cases ha
  | ineg  =>
    replace ha : (if _ then _ else none) = some (Sum.inl k) := ha
    split at ha
    · exact am_i1_le ha
    · cases ha
  | i2b  =>
    replace ha : (if _ then _ else none) = some (Sum.inl k) := ha
    split at ha
    · exact am_i1_le ha
    · cases ha
  | i2c  =>
    replace ha : (if _ then _ else none) = some (Sum.inl k) := ha
    split at ha
    · exact am_i1_le ha
    · cases ha
  | i2l  =>
    replace ha : (if _ then _ else none) = some (Sum.inl k) := ha
    split at ha
    · exact am_i1_le ha
    · cases ha
  | l2i  =>
    replace ha : (if _ then _ else none) = some (Sum.inl k) := ha
    split at ha
    · exact am_l1_le ha
    · cases ha
  | iload i =>
    replace ha : (if _ then _ else none) = some (Sum.inl k) := ha
    split at ha
    · exact am_lI_le ha
    · cases ha
  | iload_n i =>
    replace ha : (if _ then _ else none) = some (Sum.inl k) := ha
    split at ha
    · exact am_lI_le ha
    · cases ha
  | lload i =>
    replace ha : (if _ then _ else none) = some (Sum.inl k) := ha
    split at ha
    · exact am_lL_le ha
    · cases ha
  | lload_n i =>
    replace ha : (if _ then _ else none) = some (Sum.inl k) := ha
    split at ha
    · exact am_lL_le ha
    · cases ha
  | aload i =>
    replace ha : (if _ then _ else none) = some (Sum.inl k) := ha
    split at ha
    · exact am_lA_le ha
    · cases ha
  | aload_n i =>
    replace ha : (if _ then _ else none) = some (Sum.inl k) := ha
    split at ha
    · exact am_lA_le ha
    · cases ha
  | istore i =>
    replace ha : (if _ then _ else none) = some (Sum.inl k) := ha
    split at ha
    · exact am_tI_le ha
    · cases ha
  | istore_n i =>
    replace ha : (if _ then _ else none) = some (Sum.inl k) := ha
    split at ha
    · exact am_tI_le ha
    · cases ha
  | lstore i =>
    replace ha : (if _ then _ else none) = some (Sum.inl k) := ha
    split at ha
    · exact am_tL_le ha
    · cases ha
  | lstore_n i =>
    replace ha : (if _ then _ else none) = some (Sum.inl k) := ha
    split at ha
    · exact am_tL_le ha
    · cases ha
  | astore i =>
    replace ha : (if _ then _ else none) = some (Sum.inl k) := ha
    split at ha
    · exact am_tA_le ha
    · cases ha
  | astore_n i =>
    replace ha : (if _ then _ else none) = some (Sum.inl k) := ha
    split at ha
    · exact am_tA_le ha
    · cases ha
  | iinc i n =>
    replace ha : (if _ then _ else none) = some (Sum.inl k) := ha
    split at ha
    · exact am_inc_le ha
    · cases ha
  | dup  =>
    replace ha : (if _ then _ else none) = some (Sum.inl k) := ha
    split at ha
    · exact am_dup_le ha
    · cases ha
  | dup2  =>
    replace ha : (if _ then _ else none) = some (Sum.inl k) := ha
    split at ha
    · exact am_dup2_le ha
    · cases ha
  | pop  =>
    replace ha : (if _ then _ else none) = some (Sum.inl k) := ha
    split at ha
    · exact am_pop_le ha
    · cases ha
  | ifCond c off =>
    replace ha : (if _ then _ else none) = some (Sum.inl k) := ha
    split at ha
    · exact am_if1_le ha
    · cases ha
  | if_icmp c off =>
    replace ha : (if _ then _ else none) = some (Sum.inl k) := ha
    split at ha
    · exact am_if2_le ha
    · cases ha
  | ifnonnull off =>
    replace ha : (if _ then _ else none) = some (Sum.inl k) := ha
    split at ha
    · exact am_nn_le ha
    · cases ha
  | getfield idx =>
    replace ha : (if _ then _ else none) = some (Sum.inl k) := ha
    split at ha
    · exact am_gf_le ha
    · cases ha
  | putfield idx =>
    replace ha : (if _ then _ else none) = some (Sum.inl k) := ha
    split at ha
    · exact am_pf_le ha
    · cases ha
  | getstatic idx =>
    replace ha : (if _ then _ else none) = some (Sum.inl k) := ha
    split at ha
    · exact am_gs_le ha
    · cases ha
  | iaload  =>
    replace ha : (if _ then _ else none) = some (Sum.inl k) := ha
    split at ha
    · exact am_rI_le ha
    · cases ha
  | baload  =>
    replace ha : (if _ then _ else none) = some (Sum.inl k) := ha
    split at ha
    · exact am_rB_le ha
    · cases ha
  | laload  =>
    replace ha : (if _ then _ else none) = some (Sum.inl k) := ha
    split at ha
    · exact am_rL_le ha
    · cases ha
  | aaload  =>
    replace ha : (if _ then _ else none) = some (Sum.inl k) := ha
    split at ha
    · exact am_rA_le ha
    · cases ha
  | iastore  =>
    replace ha : (if _ then _ else none) = some (Sum.inl k) := ha
    split at ha
    · exact am_wI_le ha
    · cases ha
  | bastore  =>
    replace ha : (if _ then _ else none) = some (Sum.inl k) := ha
    split at ha
    · exact am_wB_le ha
    · cases ha
  | lastore  =>
    replace ha : (if _ then _ else none) = some (Sum.inl k) := ha
    split at ha
    · exact am_wL_le ha
    · cases ha
  | aastore  =>
    replace ha : (if _ then _ else none) = some (Sum.inl k) := ha
    split at ha
    · exact am_wA_le ha
    · cases ha
  | arraylength  =>
    replace ha : (if _ then _ else none) = some (Sum.inl k) := ha
    split at ha
    · exact am_al_le ha
    · cases ha
  | new idx =>
    replace ha : (if _ then _ else none) = some (Sum.inl k) := ha
    split at ha
    · exact am_new_le ha
    · cases ha
  | newarray a =>
    replace ha : (if _ then _ else none) = some (Sum.inl k) := ha
    split at ha
    · exact am_na_le ha
    · cases ha
  | anewarray idx =>
    replace ha : (if _ then _ else none) = some (Sum.inl k) := ha
    split at ha
    · exact am_an_le ha
    · cases ha
  | iconst c =>
    replace ha : (if _ then _ else none) = some (Sum.inl k) := ha
    split at ha
    · obtain rfl := am_go_inv ha; exact am_le.rf
    · cases ha
  | bipush c =>
    replace ha : (if _ then _ else none) = some (Sum.inl k) := ha
    split at ha
    · obtain rfl := am_go_inv ha; exact am_le.rf
    · cases ha
  | sipush c =>
    replace ha : (if _ then _ else none) = some (Sum.inl k) := ha
    split at ha
    · obtain rfl := am_go_inv ha; exact am_le.rf
    · cases ha
  | lconst c =>
    replace ha : (if _ then _ else none) = some (Sum.inl k) := ha
    split at ha
    · obtain rfl := am_go_inv ha; exact am_le.rf
    · cases ha
  | aconst_null  =>
    replace ha : (if _ then _ else none) = some (Sum.inl k) := ha
    split at ha
    · obtain rfl := am_go_inv ha; exact am_le.rf
    · cases ha
  | ldc idx =>
    replace ha : (if _ then _ else none) = some (Sum.inl k) := ha
    split at ha
    · split at ha
      · obtain rfl := am_go_inv ha; exact am_le.rf
      · cases ha
    · cases ha
  | ldc_w idx =>
    replace ha : (if _ then _ else none) = some (Sum.inl k) := ha
    split at ha
    · split at ha
      · obtain rfl := am_go_inv ha; exact am_le.rf
      · cases ha
    · cases ha
  | ldc2_w idx =>
    replace ha : (if _ then _ else none) = some (Sum.inl k) := ha
    split at ha
    · split at ha
      · obtain rfl := am_go_inv ha; exact am_le.rf
      · cases ha
    · cases ha
  | lcmp =>
    replace ha : (if _ then _ else none) = some (Sum.inl k) := ha
    split at ha
    · split at ha
      · obtain rfl := am_go_inv ha; exact am_le.rf
      · cases ha
    · cases ha
  | goto off =>
    replace ha : (if _ then _ else none) = some (Sum.inl k) := ha
    split at ha
    · obtain rfl := am_go_inv ha; exact am_le.rf
    · cases ha
  | tableswitch d lo hi offs => exact am_sw_le ha
  | invokevirtual idx =>
    replace ha : (if _ then _ else none) = some (Sum.inl k) := ha
    split at ha
    · exact am_inv_le ha
    · cases ha
  | invokestatic idx =>
    replace ha : (if _ then _ else none) = some (Sum.inl k) := ha
    split at ha
    · exact am_inv_le ha
    · cases ha
  | invokespecial idx =>
    replace ha : (if _ then _ else none) = some (Sum.inl k) := ha
    split at ha
    · exact am_inv_le ha
    · cases ha
  | ireturn =>
    replace ha : (if _ then _ else none) = some (Sum.inl k) := ha
    split at ha
    · exact (am_rt_no ha).elim
    · cases ha
  | lreturn =>
    replace ha : (if _ then _ else none) = some (Sum.inl k) := ha
    split at ha
    · exact (am_rtL_no ha).elim
    · cases ha
  | areturn =>
    replace ha : (if _ then _ else none) = some (Sum.inl k) := ha
    split at ha
    · exact (am_rtA_no ha).elim
    · cases ha
  | return_ =>
    replace ha : (if _ then _ else none) = some (Sum.inl k) := ha
    split at ha
    · exact (am_rtV_no ha).elim
    · cases ha
  | _ => cases ha
theorem am_run_le : ∀ (n k pc : Nat) (ls : List (Option Value)) (st : List Value) (h : am_H) (r : Option Value × am_H), am_run n k pc ls st h = some r → am_le h r.2 := by
  intro n
  induction n with
  | zero => intro k pc ls st h r hr; cases hr
  | succ n ih =>
    intro k pc ls st h r hr
    rw [am_run] at hr
    split at hr
    · cases hr
    · split at hr
      · cases hr
      · split at hr
        · cases hr
        · rename_i c ha
          exact (am_act_le ha).tr (ih _ _ _ _ _ _ hr)
        · split at hr
          · cases hr
          · split at hr
            · cases hr
            · rename_i r1 hr1
              exact (ih _ _ _ _ _ _ hr1).tr (ih _ _ _ _ _ _ hr)
        · cases hr
          exact am_le.rf
section AMX
variable {p : Program} {l : Launch} {e : Env} {R : Room} {s : State} {m : MethodId} {args : Array Value} {below : List Frame} {meth : Method} {c : Code} {Q : State → Prop} {w : am_Wd} {X : Nat × (Nat → Int32)} {y : am_M} {n0 z0 : Nat}
variable {pc : Nat} {ls : List (Option Value)} {st : List Value} {h : am_H} {k : am_C}
set_option maxHeartbeats 4000000 in
theorem am_x_step {i : Instr} {len : Nat} (F : am_Fx w X y p s m args meth c) (hRf : am_rf y ≤ R.frames) (hRl : am_rl y ≤ R.locals) (hd : decode y.2.1 pc = .ok (i, len)) (ha : am_act y i len pc ls st h = some (.inl k)) (hn0 : n0 ≤ am_n h) (hz0 : z0 ≤ am_z h) (hRc : am_n k.2.2.2 - n0 ≤ R.cells) (hRs : am_z k.2.2.2 - z0 ≤ R.slots) (G : am_G p l e R s m args below meth c Q w X y n0 z0 k) : am_G p l e R s m args below meth c Q w X y n0 z0 (pc, ls, st, h) := by
  cases i with
  | iadd  =>
    replace ha : (if _ then _ else none) = some (Sum.inl k) := ha
    split at ha
    · rename_i hln; subst hln; exact am_x_iadd F hd ha G
    · cases ha
  | isub  =>
    replace ha : (if _ then _ else none) = some (Sum.inl k) := ha
    split at ha
    · rename_i hln; subst hln; exact am_x_isub F hd ha G
    · cases ha
  | imul  =>
    replace ha : (if _ then _ else none) = some (Sum.inl k) := ha
    split at ha
    · rename_i hln; subst hln; exact am_x_imul F hd ha G
    · cases ha
  | iand  =>
    replace ha : (if _ then _ else none) = some (Sum.inl k) := ha
    split at ha
    · rename_i hln; subst hln; exact am_x_iand F hd ha G
    · cases ha
  | ior  =>
    replace ha : (if _ then _ else none) = some (Sum.inl k) := ha
    split at ha
    · rename_i hln; subst hln; exact am_x_ior F hd ha G
    · cases ha
  | ixor  =>
    replace ha : (if _ then _ else none) = some (Sum.inl k) := ha
    split at ha
    · rename_i hln; subst hln; exact am_x_ixor F hd ha G
    · cases ha
  | ishl  =>
    replace ha : (if _ then _ else none) = some (Sum.inl k) := ha
    split at ha
    · rename_i hln; subst hln; exact am_x_ishl F hd ha G
    · cases ha
  | ishr  =>
    replace ha : (if _ then _ else none) = some (Sum.inl k) := ha
    split at ha
    · rename_i hln; subst hln; exact am_x_ishr F hd ha G
    · cases ha
  | iushr  =>
    replace ha : (if _ then _ else none) = some (Sum.inl k) := ha
    split at ha
    · rename_i hln; subst hln; exact am_x_iushr F hd ha G
    · cases ha
  | idiv  =>
    replace ha : (if _ then _ else none) = some (Sum.inl k) := ha
    split at ha
    · rename_i hln; subst hln; exact am_x_idiv F hd ha G
    · cases ha
  | irem  =>
    replace ha : (if _ then _ else none) = some (Sum.inl k) := ha
    split at ha
    · rename_i hln; subst hln; exact am_x_irem F hd ha G
    · cases ha
  | ladd  =>
    replace ha : (if _ then _ else none) = some (Sum.inl k) := ha
    split at ha
    · rename_i hln; subst hln; exact am_x_ladd F hd ha G
    · cases ha
  | lsub  =>
    replace ha : (if _ then _ else none) = some (Sum.inl k) := ha
    split at ha
    · rename_i hln; subst hln; exact am_x_lsub F hd ha G
    · cases ha
  | lmul  =>
    replace ha : (if _ then _ else none) = some (Sum.inl k) := ha
    split at ha
    · rename_i hln; subst hln; exact am_x_lmul F hd ha G
    · cases ha
  | land  =>
    replace ha : (if _ then _ else none) = some (Sum.inl k) := ha
    split at ha
    · rename_i hln; subst hln; exact am_x_land F hd ha G
    · cases ha
  | lor  =>
    replace ha : (if _ then _ else none) = some (Sum.inl k) := ha
    split at ha
    · rename_i hln; subst hln; exact am_x_lor F hd ha G
    · cases ha
  | ldiv  =>
    replace ha : (if _ then _ else none) = some (Sum.inl k) := ha
    split at ha
    · rename_i hln; subst hln; exact am_x_ldiv F hd ha G
    · cases ha
  | lrem  =>
    replace ha : (if _ then _ else none) = some (Sum.inl k) := ha
    split at ha
    · rename_i hln; subst hln; exact am_x_lrem F hd ha G
    · cases ha
  | lshl  =>
    replace ha : (if _ then _ else none) = some (Sum.inl k) := ha
    split at ha
    · rename_i hln; subst hln; exact am_x_lshl F hd ha G
    · cases ha
  | lshr  =>
    replace ha : (if _ then _ else none) = some (Sum.inl k) := ha
    split at ha
    · rename_i hln; subst hln; exact am_x_lshr F hd ha G
    · cases ha
  | lushr  =>
    replace ha : (if _ then _ else none) = some (Sum.inl k) := ha
    split at ha
    · rename_i hln; subst hln; exact am_x_lushr F hd ha G
    · cases ha
  | ineg  =>
    replace ha : (if _ then _ else none) = some (Sum.inl k) := ha
    split at ha
    · rename_i hln; subst hln; exact am_x_ineg F hd ha G
    · cases ha
  | i2b  =>
    replace ha : (if _ then _ else none) = some (Sum.inl k) := ha
    split at ha
    · rename_i hln; subst hln; exact am_x_i2b F hd ha G
    · cases ha
  | i2c  =>
    replace ha : (if _ then _ else none) = some (Sum.inl k) := ha
    split at ha
    · rename_i hln; subst hln; exact am_x_i2c F hd ha G
    · cases ha
  | i2l  =>
    replace ha : (if _ then _ else none) = some (Sum.inl k) := ha
    split at ha
    · rename_i hln; subst hln; exact am_x_i2l F hd ha G
    · cases ha
  | l2i  =>
    replace ha : (if _ then _ else none) = some (Sum.inl k) := ha
    split at ha
    · rename_i hln; subst hln; exact am_x_l2i F hd ha G
    · cases ha
  | iload i =>
    replace ha : (if _ then _ else none) = some (Sum.inl k) := ha
    split at ha
    · rename_i hln; subst hln; exact am_x_iload F hd ha G
    · cases ha
  | iload_n i =>
    replace ha : (if _ then _ else none) = some (Sum.inl k) := ha
    split at ha
    · rename_i hln; subst hln; exact am_x_iload_n F hd ha G
    · cases ha
  | lload i =>
    replace ha : (if _ then _ else none) = some (Sum.inl k) := ha
    split at ha
    · rename_i hln; subst hln; exact am_x_lload F hd ha G
    · cases ha
  | lload_n i =>
    replace ha : (if _ then _ else none) = some (Sum.inl k) := ha
    split at ha
    · rename_i hln; subst hln; exact am_x_lload_n F hd ha G
    · cases ha
  | aload i =>
    replace ha : (if _ then _ else none) = some (Sum.inl k) := ha
    split at ha
    · rename_i hln; subst hln; exact am_x_aload F hd ha G
    · cases ha
  | aload_n i =>
    replace ha : (if _ then _ else none) = some (Sum.inl k) := ha
    split at ha
    · rename_i hln; subst hln; exact am_x_aload_n F hd ha G
    · cases ha
  | istore i =>
    replace ha : (if _ then _ else none) = some (Sum.inl k) := ha
    split at ha
    · rename_i hln; subst hln; exact am_x_istore F hd ha G
    · cases ha
  | istore_n i =>
    replace ha : (if _ then _ else none) = some (Sum.inl k) := ha
    split at ha
    · rename_i hln; subst hln; exact am_x_istore_n F hd ha G
    · cases ha
  | lstore i =>
    replace ha : (if _ then _ else none) = some (Sum.inl k) := ha
    split at ha
    · rename_i hln; subst hln; exact am_x_lstore F hd ha G
    · cases ha
  | lstore_n i =>
    replace ha : (if _ then _ else none) = some (Sum.inl k) := ha
    split at ha
    · rename_i hln; subst hln; exact am_x_lstore_n F hd ha G
    · cases ha
  | astore i =>
    replace ha : (if _ then _ else none) = some (Sum.inl k) := ha
    split at ha
    · rename_i hln; subst hln; exact am_x_astore F hd ha G
    · cases ha
  | astore_n i =>
    replace ha : (if _ then _ else none) = some (Sum.inl k) := ha
    split at ha
    · rename_i hln; subst hln; exact am_x_astore_n F hd ha G
    · cases ha
  | iinc i n =>
    replace ha : (if _ then _ else none) = some (Sum.inl k) := ha
    split at ha
    · rename_i hln; subst hln; exact am_x_iinc F hd ha G
    · cases ha
  | dup  =>
    replace ha : (if _ then _ else none) = some (Sum.inl k) := ha
    split at ha
    · rename_i hln; subst hln; exact am_x_dup F hd ha G
    · cases ha
  | dup2  =>
    replace ha : (if _ then _ else none) = some (Sum.inl k) := ha
    split at ha
    · rename_i hln; subst hln; exact am_x_dup2 F hd ha G
    · cases ha
  | pop  =>
    replace ha : (if _ then _ else none) = some (Sum.inl k) := ha
    split at ha
    · rename_i hln; subst hln; exact am_x_pop F hd ha G
    · cases ha
  | ifCond c off =>
    replace ha : (if _ then _ else none) = some (Sum.inl k) := ha
    split at ha
    · rename_i hln; subst hln; exact am_x_if1 F hd ha G
    · cases ha
  | if_icmp c off =>
    replace ha : (if _ then _ else none) = some (Sum.inl k) := ha
    split at ha
    · rename_i hln; subst hln; exact am_x_if2 F hd ha G
    · cases ha
  | ifnonnull off =>
    replace ha : (if _ then _ else none) = some (Sum.inl k) := ha
    split at ha
    · rename_i hln; subst hln; exact am_x_nn F hd ha G
    · cases ha
  | getfield idx =>
    replace ha : (if _ then _ else none) = some (Sum.inl k) := ha
    split at ha
    · rename_i hln; subst hln; exact am_x_gf F hd ha G
    · cases ha
  | putfield idx =>
    replace ha : (if _ then _ else none) = some (Sum.inl k) := ha
    split at ha
    · rename_i hln; subst hln; exact am_x_pf F hd ha G
    · cases ha
  | getstatic idx =>
    replace ha : (if _ then _ else none) = some (Sum.inl k) := ha
    split at ha
    · rename_i hln; subst hln; exact am_x_gs F hd ha G
    · cases ha
  | iaload  =>
    replace ha : (if _ then _ else none) = some (Sum.inl k) := ha
    split at ha
    · rename_i hln; subst hln; exact am_x_rI F hd ha G
    · cases ha
  | baload  =>
    replace ha : (if _ then _ else none) = some (Sum.inl k) := ha
    split at ha
    · rename_i hln; subst hln; exact am_x_rB F hd ha G
    · cases ha
  | laload  =>
    replace ha : (if _ then _ else none) = some (Sum.inl k) := ha
    split at ha
    · rename_i hln; subst hln; exact am_x_rL F hd ha G
    · cases ha
  | aaload  =>
    replace ha : (if _ then _ else none) = some (Sum.inl k) := ha
    split at ha
    · rename_i hln; subst hln; exact am_x_rA F hd ha G
    · cases ha
  | iastore  =>
    replace ha : (if _ then _ else none) = some (Sum.inl k) := ha
    split at ha
    · rename_i hln; subst hln; exact am_x_wI F hd ha G
    · cases ha
  | bastore  =>
    replace ha : (if _ then _ else none) = some (Sum.inl k) := ha
    split at ha
    · rename_i hln; subst hln; exact am_x_wB F hd ha G
    · cases ha
  | lastore  =>
    replace ha : (if _ then _ else none) = some (Sum.inl k) := ha
    split at ha
    · rename_i hln; subst hln; exact am_x_wL F hd ha G
    · cases ha
  | aastore  =>
    replace ha : (if _ then _ else none) = some (Sum.inl k) := ha
    split at ha
    · rename_i hln; subst hln; exact am_x_wA F hd ha G
    · cases ha
  | arraylength  =>
    replace ha : (if _ then _ else none) = some (Sum.inl k) := ha
    split at ha
    · rename_i hln; subst hln; exact am_x_al F hd ha G
    · cases ha
  | new idx =>
    replace ha : (if _ then _ else none) = some (Sum.inl k) := ha
    split at ha
    · rename_i hln; subst hln; exact am_x_new F hd ha hn0 hz0 hRc hRs G
    · cases ha
  | newarray a =>
    replace ha : (if _ then _ else none) = some (Sum.inl k) := ha
    split at ha
    · rename_i hln; subst hln; exact am_x_na F hd ha hn0 hz0 hRc hRs G
    · cases ha
  | anewarray idx =>
    replace ha : (if _ then _ else none) = some (Sum.inl k) := ha
    split at ha
    · rename_i hln; subst hln; exact am_x_an F hd ha hn0 hz0 hRc hRs G
    · cases ha
  | iconst c =>
    replace ha : (if _ then _ else none) = some (Sum.inl k) := ha
    split at ha
    · rename_i hln; subst hln; exact am_x_iconst F hd ha G
    · cases ha
  | bipush c =>
    replace ha : (if _ then _ else none) = some (Sum.inl k) := ha
    split at ha
    · rename_i hln; subst hln; exact am_x_bipush F hd ha G
    · cases ha
  | sipush c =>
    replace ha : (if _ then _ else none) = some (Sum.inl k) := ha
    split at ha
    · rename_i hln; subst hln; exact am_x_sipush F hd ha G
    · cases ha
  | lconst c =>
    replace ha : (if _ then _ else none) = some (Sum.inl k) := ha
    split at ha
    · rename_i hln; subst hln; exact am_x_lconst F hd ha G
    · cases ha
  | aconst_null  =>
    replace ha : (if _ then _ else none) = some (Sum.inl k) := ha
    split at ha
    · rename_i hln; subst hln; exact am_x_null F hd ha G
    · cases ha
  | ldc idx =>
    replace ha : (if _ then _ else none) = some (Sum.inl k) := ha
    split at ha
    · rename_i hln; subst hln
      split at ha
      · rename_i v n hl; exact am_x_ldc F hl hd ha G
      · cases ha
    · cases ha
  | ldc_w idx =>
    replace ha : (if _ then _ else none) = some (Sum.inl k) := ha
    split at ha
    · rename_i hln; subst hln
      split at ha
      · rename_i v n hl; exact am_x_ldcw F hl hd ha G
      · cases ha
    · cases ha
  | ldc2_w idx =>
    replace ha : (if _ then _ else none) = some (Sum.inl k) := ha
    split at ha
    · rename_i hln; subst hln
      split at ha
      · rename_i v n hl; exact am_x_ldc2 F hl hd ha G
      · cases ha
    · cases ha
  | lcmp =>
    replace ha : (if _ then _ else none) = some (Sum.inl k) := ha
    split at ha
    · rename_i hln; subst hln
      split at ha
      · exact am_x_lcmp F hd ha G
      · cases ha
    · cases ha
  | goto off =>
    replace ha : (if _ then _ else none) = some (Sum.inl k) := ha
    split at ha
    · rename_i hln; obtain ⟨hln, h0⟩ := hln; subst hln; exact am_x_goto F hd h0 ha G
    · cases ha
  | tableswitch d lo hi offs => exact am_x_sw F hd ha G
  | invokevirtual idx =>
    replace ha : (if _ then _ else none) = some (Sum.inl k) := ha
    split at ha
    · unfold am_inv at ha
      split at ha
      · rename_i kind n wn hl
        split at ha
        · rename_i hw
          have hk : kind = 0 ∨ kind = 5 := by simpa using hw
          rw [if_neg (by omega), if_neg (by omega), if_neg (by omega)] at ha
          exact (am_call_no ha).elim
        · cases ha
      · cases ha
    · cases ha
  | invokestatic idx =>
    replace ha : (if _ then _ else none) = some (Sum.inl k) := ha
    split at ha
    · rename_i hln; subst hln
      unfold am_inv at ha
      split at ha
      · rename_i kind n wn hl
        split at ha
        · rename_i hw
          have hk : (((kind = 1 ∨ kind = 4) ∨ kind = 6) ∨ kind = 7) ∨ kind = 8 := by simpa using hw
          rw [if_neg (by omega)] at ha
          split at ha
          · rename_i h4; subst h4; exact am_x_ac F hRf hRl hd hl ha G
          · split at ha
            · have hle := (am_mt_le ha)
              have h5 := hle.1
              have h6 := hle.2.1
              exact am_x_mt F hRf hRl hd (by omega) hl ha (by omega) (by omega) G
            · exact (am_call_no ha).elim
        · cases ha
      · cases ha
    · cases ha
  | invokespecial idx =>
    replace ha : (if _ then _ else none) = some (Sum.inl k) := ha
    split at ha
    · rename_i hln; subst hln
      unfold am_inv at ha
      split at ha
      · rename_i kind n wn hl
        split at ha
        · rename_i hw
          have hk : kind = 2 ∨ kind = 3 := by simpa using hw
          split at ha
          · rename_i h3; subst h3; exact am_x_oi F hRf hRl hd hl ha G
          · rw [if_neg (by omega), if_neg (by omega)] at ha
            exact (am_call_no ha).elim
        · cases ha
      · cases ha
    · cases ha
  | ireturn =>
    replace ha : (if _ then _ else none) = some (Sum.inl k) := ha
    split at ha
    · exact (am_rt_no ha).elim
    · cases ha
  | lreturn =>
    replace ha : (if _ then _ else none) = some (Sum.inl k) := ha
    split at ha
    · exact (am_rtL_no ha).elim
    · cases ha
  | areturn =>
    replace ha : (if _ then _ else none) = some (Sum.inl k) := ha
    split at ha
    · exact (am_rtA_no ha).elim
    · cases ha
  | return_ =>
    replace ha : (if _ then _ else none) = some (Sum.inl k) := ha
    split at ha
    · exact (am_rtV_no ha).elim
    · cases ha
  | _ => cases ha
end AMX
