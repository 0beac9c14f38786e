/-! part 99: the class: driven, heard -/
/-- how many cells a long has, by the reference's count -/
theorem q_sm_fold (g : Nat → Nat) : ∀ n a, q_sm g 0 n + a = (List.range n).foldl (fun s c => s + g c) a := by
  intro n
  induction n with
  | zero => intro a; show 0 + a = a; omega
  | succ n ih =>
    intro a
    rw [List.range_succ, List.foldl_append, ← ih a, q_sm, Nat.zero_add]
    show _ = q_sm g 0 n + a + g n
    omega
theorem q_ct_fold (P : Nat → Bool) : ∀ r i a, a + q_ctB P r i = (List.range' i r).foldl (fun s m => s + (P m).toNat) a := by
  intro r
  induction r with
  | zero => intro i a; rfl
  | succ r ih =>
    intro i a
    rw [List.range'_succ, List.foldl_cons, ← ih (i + 1), q_ctB]
    have : (if P i = true then 1 else 0) = (P i).toNat := by cases P i <;> rfl
    rw [this]
    omega
theorem q_pop_cells {f : q_Fl} (wf : F_wf f) (P : Nat → Bool) (hP : ∀ c, c < 64 → P c = true → F_in f c) : q_sm (fun c => (P c).toNat) 0 64 = q_ctB (fun m => P (q_cell (F_w f) m)) (F_w f * F_h f) 0 := by
  have h1 := q_sm_fold (fun c => (P c).toNat) 64 0
  have h2 := q_ct_fold (fun m => P (q_cell (F_w f) m)) (F_w f * F_h f) 0 0
  rw [Nat.add_zero] at h1
  rw [Nat.zero_add, ← List.range_eq_range'] at h2
  rw [h1, h2, ← q_fold wf (fun s c => s + (P c).toNat) 0]
  have gen : ∀ (l : List Nat) (a : Nat), (∀ c, c ∈ l → c < 64) → l.foldl (fun s c => s + (P c).toNat) a = l.foldl (fun s c => if F_insB (F_w f) (F_h f) c = true then s + (P c).toNat else s) a := by
    intro l
    induction l with
    | nil => intro a _; rfl
    | cons c l ih =>
      intro a hl
      have hc := hl c List.mem_cons_self
      rw [List.foldl_cons, List.foldl_cons, ih _ (fun d hd => hl d (List.mem_cons_of_mem _ hd))]
      congr 1
      cases hi : F_insB (F_w f) (F_h f) c with
      | true => rw [if_pos rfl]
      | false =>
        rw [if_neg (by decide)]
        have : P c = false := by
          cases hp : P c with
          | false => rfl
          | true =>
            have q := hP c hc hp
            unfold F_insB at hi
            rw [decide_eq_true q.2.1, decide_eq_true q.2.2] at hi
            cases hi
        rw [this]
        rfl
  exact gen _ _ (fun c hc => List.mem_range.mp hc)
theorem q_lNe (w : Int64) : ∃ m : Nat, m < 2 ^ 64 ∧ w = lN m := ⟨w.toBitVec.toNat, w.toBitVec.isLt, by
  apply Int64.toBitVec_inj.1
  show w.toBitVec = BitVec.ofNat 64 w.toBitVec.toNat
  rw [BitVec.ofNat_toNat]
  simp⟩
theorem den_cseek (f : q_Fl) (fk : F_ok f) (h1 : F_n f = 1) (h : am_H) (ok : am_okH h) (cg : q_cg h 178 196 f (G_sx (F_dog f) (F_cell f 0) 0 0)) : ∃ h' : am_H, q_chx h h' ∧ h'.1 202 0 = q_c0 (q_M f (F_dog f) (F_cell f 0)) ∧ h'.1 202 1 = q_c1 (q_M f (F_dog f) (F_cell f 0)) ∧ h'.1 202 2 = nI (q_reach f (F_dog f) (F_cell f 0)) ∧ (∀ k, q_M f (F_dog f) (F_cell f 0) = some k → k < 20000) ∧ am_den 85 [.ref 202, .ref 178] h = some (none, h') := by
  have wf := fk.wf
  have hx0 : F_in f (F_dog f) := fk.2.2.2.1
  obtain ⟨-, hy0, -, hp0, -⟩ := fk.2.2.2.2.2.2.2.2.2.2.1 0 (by omega)
  have y64 := hy0.1
  let ha : am_H := am_sI (am_sI h 202 0 (-1)) 202 1 (-1)
  let hb : am_H := q_fnL 203 64 0 ha
  let hc : am_H := am_sI hb 202 5 0
  have oka : am_okH ha := ok
  have okb : am_okH hb := ok
  have okc : am_okH hc := ok
  have fc : q_chx h hc := ⟨rfl, fun a j _ _ _ p4 _ => by
    show (am_sI (q_fnL 203 64 0 (am_sI (am_sI h 202 0 (-1)) 202 1 (-1))) 202 5 0).1 a j = _
    rw [am_rd_sI, if_neg (fun w => p4 w.1)]
    show (am_sI (am_sI h 202 0 (-1)) 202 1 (-1)).1 a j = _
    rw [am_rd_sI, if_neg (fun w => p4 w.1), am_rd_sI, if_neg (fun w => p4 w.1)], fun a j p => by
    show (q_fnL 203 64 0 (am_sI (am_sI h 202 0 (-1)) 202 1 (-1))).2.1 a j = _
    rw [q_fnL_rd, if_neg (fun w => p w.1)]
    rfl⟩
  have cgc : q_cg hc 178 196 f (G_sx (F_dog f) (F_cell f 0) 0 0) := q_cg_of fc.1 (fun a k w => by
    show (am_sI (q_fnL 203 64 0 (am_sI (am_sI h 202 0 (-1)) 202 1 (-1))) 202 5 0).1 a k = _
    rw [am_rd_sI, if_neg (by omega)]
    show (am_sI (am_sI h 202 0 (-1)) 202 1 (-1)).1 a k = _
    rw [am_rd_sI, if_neg (by omega), am_rd_sI, if_neg (by omega)]) (fc.2.2 _ _ (by decide)) cg
  have hCc : q_hC hc 0 (fun _ => 0) (fun _ => 0) (fun _ => 0) := by
    refine ⟨rfl, fun i hi => absurd hi (Nat.not_lt_zero _), fun x hx y hy => ?_⟩
    have e : hc.2.1 203 x = 0 := by
      show (q_fnL 203 64 0 ha).2.1 203 x = 0
      rw [q_fnL_rd, if_pos ⟨rfl, hx⟩]
    rw [e, q_bit_0]
    exact ⟨fun w => (by cases w), fun ⟨i, hi, _⟩ => absurd hi (Nat.not_lt_zero _)⟩
  have cq0 : q_CQ f (F_dog f) (F_cell f 0) 0 (fun _ => 0) (fun _ => 0) (fun _ => 0) := ⟨Nat.zero_le _, fun i hi => absurd hi (Nat.not_lt_zero _), fun i j _ hj => absurd hj (Nat.not_lt_zero _), fun i j _ hj => absurd hj (Nat.not_lt_zero _)⟩
  obtain ⟨hd, T, X, Y, K, xd, fd, cgd, xi, hCd, cqd, pd, ed, kd, sd⟩ := den_goOn f wf h1 (F_dog f) (F_cell f 0) hx0 hy0 hp0 (F_dog f) (F_cell f 0) hx0 hy0 hp0 (-1) (fun d => d) 0 (fun d _ => Or.inl ⟨rfl, rfl⟩) (fun d hd => by show d ≤ 3; omega) (fun d e h _ => h) (fun d t hd' ht => Or.inl ⟨rfl, hd', ht, rfl⟩) 0 _ _ _ hc 0 0 okc cgc hCc cq0 (fun j e hj => absurd hj (Nat.not_lt_zero _)) (Nat.le_refl _)
  rw [nI_0] at sd
  have okd := fd.ok okc
  have sk0 : q_SK f (F_dog f) (F_cell f 0) T X Y K 0 := by
    refine ⟨cqd, fun hT j hj => ?_, fun w t hw ht => ed w t hw ht, fun i hi => absurd hi (Nat.not_lt_zero _)⟩
    have a1 : K j ≤ 4 * (0 + 1) + 3 := kd j hj
    have a2 := (q_E_ok wf h1 hx0 hy0 hp0 _ _ _ _ (cqd.2.1 0 hT).1).1.2
    omega
  have cu0 : q_cu f T X Y K 0 none := ⟨fun _ i hi => absurd hi (Nat.not_lt_zero _), fun k hk => by cases hk⟩
  have ce0 : q_ce f (F_cell f 0) T X Y 0 ((1 : Int64) <<< ((nI (F_cell f 0)).toInt64 &&& 63)) := fun c hc' => by
    rw [q_shl64 _ y64, q_bitN _ c hc', Nat.testBit_two_pow, decide_eq_true_eq]
    exact ⟨fun w => Or.inl w.symm, fun w => w.elim (fun w => w.symm) (fun ⟨i, hi, _⟩ => absurd hi (Nat.not_lt_zero _))⟩
  have d202 : ∀ j, j ≠ 5 → hd.1 202 j = hc.1 202 j := fun j hj => fd.2.1 _ _ (by decide) (by decide) (by decide) (fun _ => hj) (by decide)
  obtain ⟨he, T', X', Y', K', H', cw, cur, z4, z5, z6, fe, lT, sk, cu, ce, e0, e1, se⟩ := q_sk_l f wf h1 (F_dog f) (F_cell f 0) hx0 hy0 hp0 4096 0 T X Y K hd _ _ none none none (by omega) okd cgd rfl rfl hCd sk0 cu0 ce0 ((d202 0 (by decide)).trans rfl) ((d202 1 (by decide)).trans rfl)
  rw [nI_0] at se
  have oke := fe.ok okd
  have eM := sk.min lT cu
  have eC := sk.cells lT ce
  obtain ⟨m, ml, rfl⟩ := q_lNe cw
  have bc := den_lbc8 m ml he
  have ep : q_pop8 m = q_reach f (F_dog f) (F_cell f 0) := by
    unfold q_reach
    rw [← q_pop_cells wf (q_RcB f (F_dog f) (F_cell f 0)) (fun c hc' hp => by
      rcases q_RcB_iff.mp hp with q | ⟨n, w, x, y, he', hb'⟩
      · rw [q]; exact hy0
      · obtain ⟨_, a, b, _⟩ := q_E_ok wf h1 hx0 hy0 hp0 _ _ _ _ he'
        rw [← hb']
        exact N_b_in wf h1 a b)]
    have : ∀ n, n ≤ 64 → q_sm (fun c => (m.testBit c).toNat) 0 n = q_sm (fun c => (q_RcB f (F_dog f) (F_cell f 0) c).toNat) 0 n := by
      intro n
      induction n with
      | zero => intro _; rfl
      | succ n ih =>
        intro hn
        rw [q_sm, q_sm, ih (by omega), Nat.zero_add, ← eC n (by omega), q_bitN _ n (by omega)]
    exact this 64 (Nat.le_refl _)
  rw [ep] at bc
  rw [eM] at e0 e1
  refine ⟨am_sI he 202 2 (nI (q_reach f (F_dog f) (F_cell f 0))), (fc.tr fd.x).tr (fe.tr ⟨rfl, fun a j _ _ _ p4 _ => by rw [am_rd_sI, if_neg (fun w => p4 w.1)], fun _ _ _ => rfl⟩), by rw [am_rd_sI, if_neg (by omega)]; exact e0, by rw [am_rd_sI, if_neg (by omega)]; exact e1, by rw [am_rd_sI, if_pos ⟨rfl, rfl⟩], fun k hk => ?_, ?_⟩
  · rw [← eM] at hk
    obtain ⟨⟨i, i1, i2, i3, i4⟩, -⟩ := cu.2 k hk
    have := (sk.1.2.1 i i2).2
    have := sk.1.1
    omega
  · have x0' : am_ix 0 6 = true := by decide
    have z0' : (0 : Int32).toNatClampNeg = 0 := rfl
    have dfl := den_fillJ ha oka 0
    have eat : hc.1 182 0 = nI (F_cell f 0) := cgc.2.2.2.1 0 (by omega)
    have s1 : am_ev 85 0 [some (.ref 202), some (.ref 178), none, none, none, none, none] [] h = am_ev 85 18 [some (.ref 202), some (.ref 178), none, none, none, none, none] [] hb := by
      simp only [e85_0, e85_1, e85_2, e85_5, e85_6, e85_7, e85_10, e85_11, e85_14, e85_15, e85_19, e85_20, e85_23, e85_24, e85_25, e85_28, e85_29, e85_30, e85_31, e85_32, e85_33, e85_34, e85_35, e85_36, e85_39, e85_40, e85_42, e85_44, e85_45, e85_48, e85_51, e85_53, e85_54, e85_57, e85_58, e85_61, e85_62, e85_65, e85_67, e85_68, e85_70, e85_71, e85_73, e85_75, e85_76, e85_79, e85_80, e85_83, e85_84, e85_86, e85_88, e85_89, e85_91, e85_92, e85_93, e85_94, e85_95, e85_98, e85_99, e85_100, e85_103, e85_104, e85_105, e85_106, e85_107, e85_110, e85_111, e85_112, e85_113, e85_114, e85_115, e85_117, e85_119, e85_120, e85_121, e85_122, e85_124, e85_125, e85_126, e85_129, e85_132, e85_133, e85_134, e85_136, e85_138, e85_140, e85_141, e85_144, e85_147, e85_148, e85_151, e85_152, e85_155, e85_156, e85_158, e85_160, e85_161, e85_164, e85_165, e85_167, e85_170, e85_173, e85_176, e85_177, e85_178, e85_181, e85_184, am_bd_some, Option.toList_some, Option.toList_none, List.cons_append, List.nil_append, am_w8_0, am_w8_1, am_w8_2, am_w8_3, am_w8_4, eq_self, or_true, true_or, am_kd_sI, am_kd_sL, am_kd_sR, am_tc_sI, am_tc_sL, am_tc_sR, am_len_sI, am_len_sL, am_len_sR, am_rfs, if_true, if_false, am_rdL_sI, am_rR_sL, am_rt_cq, am_kd_cq, am_tc_cq, am_len_cq, am_rd_sL, am_rd_sR, am_rdL_sR, okK_202 ok, okR_202_3 ok]
      show _ = _
      have q : am_den 86 [.ref 203, .long 0] (am_sI (am_sI h 202 0 (-1)) 202 1 (-1)) = some (none, hb) := dfl
      simp only [e85_0, e85_1, e85_2, e85_5, e85_6, e85_7, e85_10, e85_11, e85_14, e85_15, e85_19, e85_20, e85_23, e85_24, e85_25, e85_28, e85_29, e85_30, e85_31, e85_32, e85_33, e85_34, e85_35, e85_36, e85_39, e85_40, e85_42, e85_44, e85_45, e85_48, e85_51, e85_53, e85_54, e85_57, e85_58, e85_61, e85_62, e85_65, e85_67, e85_68, e85_70, e85_71, e85_73, e85_75, e85_76, e85_79, e85_80, e85_83, e85_84, e85_86, e85_88, e85_89, e85_91, e85_92, e85_93, e85_94, e85_95, e85_98, e85_99, e85_100, e85_103, e85_104, e85_105, e85_106, e85_107, e85_110, e85_111, e85_112, e85_113, e85_114, e85_115, e85_117, e85_119, e85_120, e85_121, e85_122, e85_124, e85_125, e85_126, e85_129, e85_132, e85_133, e85_134, e85_136, e85_138, e85_140, e85_141, e85_144, e85_147, e85_148, e85_151, e85_152, e85_155, e85_156, e85_158, e85_160, e85_161, e85_164, e85_165, e85_167, e85_170, e85_173, e85_176, e85_177, e85_178, e85_181, e85_184, am_bd_some, Option.toList_some, Option.toList_none, List.cons_append, List.nil_append, am_w8_0, am_w8_1, am_w8_2, am_w8_3, am_w8_4, eq_self, or_true, true_or, am_kd_sI, am_kd_sL, am_kd_sR, am_tc_sI, am_tc_sL, am_tc_sR, am_len_sI, am_len_sL, am_len_sR, am_rfs, if_true, if_false, am_rdL_sI, am_rR_sL, am_rt_cq, am_kd_cq, am_tc_cq, am_len_cq, am_rd_sL, am_rd_sR, am_rdL_sR, okK_202 ok, okR_202_3 ok, q]
    have s2 : am_ev 85 18 [some (.ref 202), some (.ref 178), none, none, none, none, none] [] hb = am_ev 85 23 [some (.ref 202), some (.ref 178), none, none, none, none, none] [] hc := by
      simp only [e85_0, e85_1, e85_2, e85_5, e85_6, e85_7, e85_10, e85_11, e85_14, e85_15, e85_18, e85_19, e85_20, e85_24, e85_25, e85_28, e85_29, e85_30, e85_31, e85_32, e85_33, e85_34, e85_35, e85_36, e85_39, e85_40, e85_42, e85_44, e85_45, e85_48, e85_51, e85_53, e85_54, e85_57, e85_58, e85_61, e85_62, e85_65, e85_67, e85_68, e85_70, e85_71, e85_73, e85_75, e85_76, e85_79, e85_80, e85_83, e85_84, e85_86, e85_88, e85_89, e85_91, e85_92, e85_93, e85_94, e85_95, e85_98, e85_99, e85_100, e85_103, e85_104, e85_105, e85_106, e85_107, e85_110, e85_111, e85_112, e85_113, e85_114, e85_115, e85_117, e85_119, e85_120, e85_121, e85_122, e85_124, e85_125, e85_126, e85_129, e85_132, e85_133, e85_134, e85_136, e85_138, e85_140, e85_141, e85_144, e85_147, e85_148, e85_151, e85_152, e85_155, e85_156, e85_158, e85_160, e85_161, e85_164, e85_165, e85_167, e85_170, e85_173, e85_176, e85_177, e85_178, e85_181, e85_184, am_bd_some, Option.toList_some, Option.toList_none, List.cons_append, List.nil_append, am_w8_0, am_w8_1, am_w8_2, am_w8_3, am_w8_4, eq_self, or_true, true_or, am_kd_sI, am_kd_sL, am_kd_sR, am_tc_sI, am_tc_sL, am_tc_sR, am_len_sI, am_len_sL, am_len_sR, am_rfs, if_true, if_false, am_rdL_sI, am_rR_sL, am_rt_cq, am_kd_cq, am_tc_cq, am_len_cq, am_rd_sL, am_rd_sR, am_rdL_sR, okK_202 okb]
      rfl
    have s3 : am_ev 85 23 [some (.ref 202), some (.ref 178), none, none, none, none, none] [] hc = am_ev 85 42 [some (.ref 202), some (.ref 178), some (.long ((1 : Int64) <<< ((nI (F_cell f 0)).toInt64 &&& 63))), some (.retAddr 0), some (.int 0), none, none] [] hd := by
      simp only [e85_0, e85_1, e85_2, e85_5, e85_6, e85_7, e85_10, e85_11, e85_14, e85_15, e85_18, e85_19, e85_20, e85_23, e85_24, e85_25, e85_28, e85_29, e85_30, e85_31, e85_32, e85_33, e85_34, e85_35, e85_36, e85_39, e85_40, e85_44, e85_45, e85_48, e85_51, e85_53, e85_54, e85_57, e85_58, e85_61, e85_62, e85_65, e85_67, e85_68, e85_70, e85_71, e85_73, e85_75, e85_76, e85_79, e85_80, e85_83, e85_84, e85_86, e85_88, e85_89, e85_91, e85_92, e85_93, e85_94, e85_95, e85_98, e85_99, e85_100, e85_103, e85_104, e85_105, e85_106, e85_107, e85_110, e85_111, e85_112, e85_113, e85_114, e85_115, e85_117, e85_119, e85_120, e85_121, e85_122, e85_124, e85_125, e85_126, e85_129, e85_132, e85_133, e85_134, e85_136, e85_138, e85_140, e85_141, e85_144, e85_147, e85_148, e85_151, e85_152, e85_155, e85_156, e85_158, e85_160, e85_161, e85_164, e85_165, e85_167, e85_170, e85_173, e85_176, e85_177, e85_178, e85_181, e85_184, am_bd_some, Option.toList_some, Option.toList_none, List.cons_append, List.nil_append, am_w8_0, am_w8_1, am_w8_2, am_w8_3, am_w8_4, eq_self, or_true, true_or, am_kd_sI, am_kd_sL, am_kd_sR, am_tc_sI, am_tc_sL, am_tc_sR, am_len_sI, am_len_sL, am_len_sR, am_rfs, if_true, if_false, am_rdL_sI, am_rR_sL, am_rt_cq, am_kd_cq, am_tc_cq, am_len_cq, am_rd_sL, am_rd_sR, am_rdL_sR, okK_178 okc, okR_178_3 okc, okT_182 okc, okL_182 okc, x0', z0', eat, okK_202 okc, sd]
    show am_ev 85 0 [some (.ref 202), some (.ref 178), none, none, none, none, none] [] h = _
    rw [s1, s2, s3, se]
    simp only [e85_0, e85_1, e85_2, e85_5, e85_6, e85_7, e85_10, e85_11, e85_14, e85_15, e85_18, e85_19, e85_20, e85_23, e85_24, e85_25, e85_28, e85_29, e85_30, e85_31, e85_32, e85_33, e85_34, e85_35, e85_36, e85_39, e85_40, e85_44, e85_45, e85_48, e85_51, e85_53, e85_54, e85_57, e85_58, e85_61, e85_62, e85_65, e85_67, e85_68, e85_70, e85_71, e85_73, e85_75, e85_76, e85_79, e85_80, e85_83, e85_84, e85_86, e85_88, e85_89, e85_91, e85_92, e85_93, e85_94, e85_95, e85_98, e85_99, e85_100, e85_103, e85_104, e85_105, e85_106, e85_107, e85_110, e85_111, e85_112, e85_113, e85_114, e85_115, e85_117, e85_119, e85_120, e85_121, e85_122, e85_124, e85_125, e85_126, e85_129, e85_132, e85_133, e85_134, e85_136, e85_138, e85_140, e85_141, e85_144, e85_147, e85_148, e85_151, e85_152, e85_155, e85_156, e85_158, e85_160, e85_161, e85_164, e85_165, e85_167, e85_170, e85_173, e85_176, e85_177, e85_178, e85_181, e85_184, am_bd_some, Option.toList_some, Option.toList_none, List.cons_append, List.nil_append, am_w8_0, am_w8_1, am_w8_2, am_w8_3, am_w8_4, eq_self, or_true, true_or, am_kd_sI, am_kd_sL, am_kd_sR, am_tc_sI, am_tc_sL, am_tc_sR, am_len_sI, am_len_sL, am_len_sR, am_rfs, if_true, if_false, am_rdL_sI, am_rR_sL, am_rt_cq, am_kd_cq, am_tc_cq, am_len_cq, am_rd_sL, am_rd_sR, am_rdL_sR, bc, okK_202 oke]
/-! one beast is left alone -/
theorem den_alone (f : q_Fl) (fk : F_ok f) (o : Nat) (ho : o + 2 < 178) (b : Nat) (hb : b < F_n f) (h : am_H) (ok : am_okH h) (cF : q_cF h o f) : ∃ h1 h' : am_H, q_lgw h h' ∧ am_okH h1 ∧ q_cF h' 196 (F_al f b) ∧ am_den 56 [.ref 196, .ref o] h = some (none, h1) ∧ am_den 84 [.ref 196, .int (nI b)] h1 = some (none, h') := by
  have n6 := fk.wf.2.2.2.1
  have d1 := den_fcopy 196 o h (q_fo_196 ok) cF.1.1 (Or.inl (by omega))
  let h1 : am_H := q_bL 196 o (q_bl 0 [6, 6, 6] 196 o h)
  have ok1 : am_okH h1 := ok
  have r1 : ∀ a k, h1.1 a k = if 196 ≤ a ∧ k < [6, 6, 6].getD (a - 196) 0 ∧ (a = 196 → 0 ≤ k) then h.1 (o + (a - 196)) k else h.1 a k := fun a k => rfl
  have r196 : ∀ k, k < 6 → h1.1 196 k = h.1 o k := fun k hk => by
    rw [r1, if_pos ⟨Nat.le_refl _, hk, fun _ => Nat.zero_le _⟩, Nat.sub_self, Nat.add_zero]
  have r197 : ∀ k, k < 6 → h1.1 197 k = h.1 (o + 1) k := fun k hk => by
    rw [r1, if_pos ⟨by omega, hk, fun _ => Nat.zero_le _⟩]
  have r198 : ∀ k, k < 6 → h1.1 198 k = h.1 (o + 2) k := fun k hk => by
    rw [r1, if_pos ⟨by omega, hk, fun _ => Nat.zero_le _⟩]
  have rfar : ∀ a k, a < 196 ∨ 198 < a → h1.1 a k = h.1 a k := fun a k w => by
    rw [r1]
    by_cases c : 196 ≤ a
    · have : [6, 6, 6].getD (a - 196) 0 = 0 := by
        obtain ⟨j, hj⟩ : ∃ j, a - 196 = j + 3 := ⟨a - 199, by omega⟩
        rw [hj]
        rfl
      rw [if_neg (fun q => by rw [this] at q; omega)]
    · rw [if_neg (fun q => c q.1)]
  obtain ⟨⟨fo, c0, c1, c2, c4, c5, c6, c7⟩, c3, cc⟩ := cF
  let h2 : am_H := am_sI h1 197 0 (nI (F_kind f b))
  let h3 : am_H := am_sI h2 198 0 (nI (F_cell f b))
  let h4 : am_H := am_sI h3 196 5 1
  have ok2 : am_okH h2 := ok
  have ok3 : am_okH h3 := ok
  have r4 : ∀ a k, h4.1 a k = if a = 196 ∧ k = 5 then 1 else if a = 198 ∧ k = 0 then nI (F_cell f b) else if a = 197 ∧ k = 0 then nI (F_kind f b) else h1.1 a k := fun _ _ => rfl
  have rl : ∀ a k, a ≠ 196 → h4.2.1 a k = h.2.1 a k := fun a k w => q_bL_o 196 o _ a k w
  have rl6 : h4.2.1 196 6 = h.2.1 o 6 := q_bL_6 196 o _
  have v7 : h1.1 197 b = nI (F_kind f b) := (r197 b (by omega)).trans (c7 b hb)
  have v8 : h2.1 198 b = nI (F_cell f b) := by
    show (am_sI h1 197 0 (nI (F_kind f b))).1 198 b = _
    rw [am_rd_sI, if_neg (by omega), r198 b (by omega)]
    exact cc b hb
  have xb : am_ix (nI b) 6 = true := am_ix_nI (by omega) (by decide)
  have zb : (nI b).toNatClampNeg = b := nI_clamp (by omega)
  have x0 : am_ix 0 6 = true := by decide
  have z0 : (0 : Int32).toNatClampNeg = 0 := rfl
  refine ⟨h1, h4, ⟨rfl, fun _ _ _ => rfl, fun a k w => ⟨?_, ?_⟩⟩, ok1, ⟨⟨q_fo_196 (show am_okH h4 from ok), ?_, ?_, ?_, ?_, ?_, ?_, fun k hk => ?_⟩, ?_, fun k hk => ?_⟩, d1, ?_⟩
  · rw [r4, if_neg (by omega), if_neg (by omega), if_neg (by omega), rfar a k (by omega)]
  · rw [rl a k (by omega)]
  · rw [r4, if_neg (by omega), if_neg (by omega), if_neg (by omega), r196 0 (by decide)]; exact c0
  · rw [r4, if_neg (by omega), if_neg (by omega), if_neg (by omega), r196 1 (by decide)]; exact c1
  · rw [r4, if_neg (by omega), if_neg (by omega), if_neg (by omega), r196 2 (by decide)]; exact c2
  · rw [r4, if_neg (by omega), if_neg (by omega), if_neg (by omega), r196 4 (by decide)]; exact c4
  · rw [r4, if_pos ⟨rfl, rfl⟩]; rfl
  · rw [rl6]; exact c6
  · obtain rfl : k = 0 := by have : k < 1 := hk; omega
    rw [r4, if_neg (by omega), if_neg (by omega), if_pos ⟨rfl, rfl⟩]; rfl
  · rw [r4, if_neg (by omega), if_neg (by omega), if_neg (by omega), r196 3 (by decide)]; exact c3
  · obtain rfl : k = 0 := by have : k < 1 := hk; omega
    rw [r4, if_neg (by omega), if_pos ⟨rfl, rfl⟩]; rfl
  · have s1 : am_ev 84 0 [some (.ref 196), some (.int (nI b))] [] h1 = am_ev 84 12 [some (.ref 196), some (.int (nI b))] [] h2 := by
      simp only [e84_0, e84_1, e84_4, e84_5, e84_6, e84_9, e84_10, e84_11, e84_13, e84_16, e84_17, e84_18, e84_21, e84_22, e84_23, e84_24, e84_25, e84_26, e84_29, am_bd_some, Option.toList_some, Option.toList_none, List.cons_append, List.nil_append, am_w8_0, am_w8_1, am_w8_2, am_w8_3, am_w8_4, eq_self, or_true, true_or, am_kd_sI, am_kd_sL, am_kd_sR, am_tc_sI, am_tc_sL, am_tc_sR, am_len_sI, am_len_sL, am_len_sR, am_rfs, if_true, if_false, am_rdL_sI, am_rR_sL, am_rt_cq, am_kd_cq, am_tc_cq, am_len_cq, am_rd_sL, am_rd_sR, am_rdL_sR, okK_196 ok1, okR_196_7 ok1, okT_197 ok1, okL_197 ok1, xb, zb, x0, z0, v7]
      rfl
    have s2 : am_ev 84 12 [some (.ref 196), some (.int (nI b))] [] h2 = am_ev 84 24 [some (.ref 196), some (.int (nI b))] [] h3 := by
      simp only [e84_0, e84_1, e84_4, e84_5, e84_6, e84_9, e84_10, e84_11, e84_12, e84_13, e84_16, e84_17, e84_18, e84_21, e84_22, e84_23, e84_25, e84_26, e84_29, am_bd_some, Option.toList_some, Option.toList_none, List.cons_append, List.nil_append, am_w8_0, am_w8_1, am_w8_2, am_w8_3, am_w8_4, eq_self, or_true, true_or, am_kd_sI, am_kd_sL, am_kd_sR, am_tc_sI, am_tc_sL, am_tc_sR, am_len_sI, am_len_sL, am_len_sR, am_rfs, if_true, if_false, am_rdL_sI, am_rR_sL, am_rt_cq, am_kd_cq, am_tc_cq, am_len_cq, am_rd_sL, am_rd_sR, am_rdL_sR, okK_196 ok2, okR_196_8 ok2, okT_198 ok2, okL_198 ok2, xb, zb, x0, z0, v8]
      rfl
    show am_ev 84 0 [some (.ref 196), some (.int (nI b))] [] h1 = _
    rw [s1, s2]
    simp only [e84_0, e84_1, e84_4, e84_5, e84_6, e84_9, e84_10, e84_11, e84_12, e84_13, e84_16, e84_17, e84_18, e84_21, e84_22, e84_23, e84_24, e84_25, e84_26, e84_29, am_bd_some, Option.toList_some, Option.toList_none, List.cons_append, List.nil_append, am_w8_0, am_w8_1, am_w8_2, am_w8_3, am_w8_4, eq_self, or_true, true_or, am_kd_sI, am_kd_sL, am_kd_sR, am_tc_sI, am_tc_sL, am_tc_sR, am_len_sI, am_len_sL, am_len_sR, am_rfs, if_true, if_false, am_rdL_sI, am_rR_sL, am_rt_cq, am_kd_cq, am_tc_cq, am_len_cq, am_rd_sL, am_rd_sR, am_rdL_sR, okK_196 ok3]
    rfl
noncomputable def q_MA (f : q_Fl) (b : Nat) : Option Nat := q_M (F_al f b) (F_dog f) (F_cell f b)
theorem den_dseek {A : q_All} {h : am_H} (H : q_Rel A h) (i b : Nat) (hi : i < A.2.1 0) (hb : b < F_n (A.2.2.1 i)) : ∃ h' : am_H, q_wk h h' ∧ h'.1 202 0 = q_c0 (q_MA (A.2.2.1 i) b) ∧ h'.1 202 1 = q_c1 (q_MA (A.2.2.1 i) b) ∧ h'.1 202 2 = nI (q_reach (F_al (A.2.2.1 i) b) (F_dog (A.2.2.1 i)) (F_cell (A.2.2.1 i) b)) ∧ (∀ k, q_MA (A.2.2.1 i) b = some k → k < 20000) ∧ am_den 83 [.ref 0, .int (nI i), .int (nI b)] h = some (none, h') := by
  have ok := H.1
  have c1 := (H.cnt 0 (by decide)).1
  obtain ⟨fk, cF, -⟩ := H.fl i hi
  have fa := F_al_ok fk hb
  have q178 : q_flk 178 := Or.inl rfl
  have z : (nI i).toNatClampNeg = i := nI_clamp (by omega)
  have x : am_ix (nI i) 2 = true := am_ix_nI (by omega) (by decide)
  have r := q_fo_ref ok i (by omega)
  obtain ⟨h1, h2, f2, ok1, cF2, s1, s2⟩ := den_alone _ fk (8 + 16 * i) (by omega) b hb h ok cF
  have ok2 := f2.ok ok
  obtain ⟨h3, f3, g3, s3⟩ := den_begin h2 ok2 178 196 q178 (by decide) _ fa.wf cF2
  have ok3 := f3.ok q178 ok2
  obtain ⟨h4, f4, e0, e1, e2, bd, s4⟩ := den_cseek _ fa rfl h3 ok3 g3
  refine ⟨h4, ((f2.wk ok).tr (f3.wk q178 ok2)).tr (f4.wk ok3), e0, e1, e2, bd, ?_⟩
  show am_ev 83 0 [some (.ref 0), some (.int (nI i)), some (.int (nI b))] [] h = _
  simp only [e83_0, e83_1, e83_4, e83_5, e83_8, e83_11, e83_12f, e83_12d, e83_12b, e83_12l, e83_12t, e83_13, e83_16, e83_17, e83_20, e83_21, e83_24, e83_25, e83_28, e83_29, e83_32, e83_35, e83_36, e83_39, e83_40, e83_43, e83_46, am_bd_some, Option.toList_some, Option.toList_none, List.cons_append, List.nil_append, am_w8_0, am_w8_1, am_w8_2, am_w8_3, am_w8_4, eq_self, or_true, true_or, am_kd_sI, am_kd_sL, am_kd_sR, am_tc_sI, am_tc_sL, am_tc_sR, am_len_sI, am_len_sL, am_len_sR, am_rfs, if_true, if_false, am_rdL_sI, am_rR_sL, am_rt_cq, am_kd_cq, am_tc_cq, am_len_cq, am_rd_sL, am_rd_sR, am_rdL_sR, okK_0 ok, okR_0_7 ok, okR_0_0 ok, okK_1 ok, okR_1_5 ok, okT_4 ok, okL_4 ok, x, z, r, okK_196 ok, s1, okK_0 ok1, okR_0_7 ok1, okK_196 ok1, s2, okK_0 ok2, okR_0_4 ok2, okR_0_7 ok2, okK_178 ok2, s3, okK_0 ok3, okR_0_9 ok3, okR_0_4 ok3, okK_202 ok3, s4]
def q_dvP (A : q_All) (a b w : Int32) : Prop := q_fb2 A a b ∧ (0 ≤ w ∧ w ≤ 2)
noncomputable def F_dv (f : q_Fl) (b : Nat) (w : Int32) : Int32 := if w = 0 then q_c0 (q_MA f b) else if w = 1 then q_c1 (q_MA f b) else nI (q_reach (F_al f b) (F_dog f) (F_cell f b))
noncomputable def q_dvA (A : q_All) (a b w : Int32) : Int32 := @ite _ (q_dvP A a b w) (Classical.propDecidable _) (F_dv (A.2.2.1 a.toNatClampNeg) b.toNatClampNeg w) (-1)
theorem den_cdriven {A : q_All} {h : am_H} (H : q_Rel A h) (a b w : Int32) : ∃ h' : am_H, q_wk h h' ∧ am_den 82 [.ref 0, .int a, .int b, .int w] h = some (some (.int (q_dvA A a b w)), h') := by
  have ok := H.1
  have db := den_hasBeast H a b
  have y : (1 : Int32) = 0 ↔ False := by decide
  show ∃ h' : am_H, q_wk h h' ∧ am_ev 82 0 [some (.ref 0), some (.int a), some (.int b), some (.int w)] [] h = _
  unfold q_dvA
  by_cases c : q_fb2 A a b
  · have c' : (0 ≤ a ∧ a < nI (A.2.1 0)) ∧ (0 ≤ b ∧ b < nI (F_n (A.2.2.1 a.toNatClampNeg))) := c
    rw [if_pos c'] at db
    by_cases w1 : w < 0
    · rw [if_neg (fun v => absurd w1 (Int32.not_lt.mpr v.2.1))]
      refine ⟨h, q_wk.rf ok, ?_⟩
      simp only [e82_0, e82_1, e82_2, e82_3, e82_6, e82_9, e82_10, e82_13, e82_14, e82_15, e82_18, e82_19, e82_20, e82_21, e82_22, e82_23, e82_26, e82_27, e82_30, e82_31, e82_34, e82_37, e82_38, e82_39, e82_40, e82_43, e82_44, e82_47, e82_50, e82_53, e82_54, e82_57, e82_60, am_bd_some, Option.toList_some, Option.toList_none, List.cons_append, List.nil_append, am_w8_0, am_w8_1, am_w8_2, am_w8_3, am_w8_4, eq_self, or_true, true_or, am_kd_sI, am_kd_sL, am_kd_sR, am_tc_sI, am_tc_sL, am_tc_sR, am_len_sI, am_len_sL, am_len_sR, am_rfs, if_true, if_false, am_rdL_sI, am_rR_sL, am_rt_cq, am_kd_cq, am_tc_cq, am_len_cq, am_rd_sL, am_rd_sR, am_rdL_sR, okK_0 ok, db, y, w1]
    · by_cases w2 : w ≤ 2
      · rw [if_pos ⟨c, Int32.not_lt.mp w1, w2⟩]
        obtain ⟨i, j, hi, hi2, rfl, hj, hj6, rfl⟩ := q_fb2_nat H c
        have z : (nI i).toNatClampNeg = i := nI_clamp (by omega)
        have zj : (nI j).toNatClampNeg = j := nI_clamp (by omega)
        obtain ⟨h1, w1', e0, e1, e2, -, s1⟩ := den_dseek H i j hi hj
        have ok1 := w1'.1
        rw [z, zj]
        refine ⟨h1, w1', ?_⟩
        unfold F_dv
        by_cases m0 : w = 0
        · rw [if_pos m0]
          have y02 : (0 : Int32) ≤ 2 := by decide
          have y00 : ¬ (0 : Int32) < 0 := by decide
          rw [m0]
          simp only [e82_0, e82_1, e82_2, e82_3, e82_6, e82_9, e82_10, e82_13, e82_14, e82_15, e82_18, e82_19, e82_20, e82_21, e82_22, e82_23, e82_26, e82_27, e82_30, e82_31, e82_34, e82_37, e82_38, e82_39, e82_40, e82_43, e82_44, e82_47, e82_50, e82_53, e82_54, e82_57, e82_60, am_bd_some, Option.toList_some, Option.toList_none, List.cons_append, List.nil_append, am_w8_0, am_w8_1, am_w8_2, am_w8_3, am_w8_4, eq_self, or_true, true_or, am_kd_sI, am_kd_sL, am_kd_sR, am_tc_sI, am_tc_sL, am_tc_sR, am_len_sI, am_len_sL, am_len_sR, am_rfs, if_true, if_false, am_rdL_sI, am_rR_sL, am_rt_cq, am_kd_cq, am_tc_cq, am_len_cq, am_rd_sL, am_rd_sR, am_rdL_sR, okK_0 ok, db, y, y00, y02, s1, not_true, okK_0 ok1, okR_0_9 ok1, okK_202 ok1, e0]
        · rw [if_neg m0]
          by_cases m1 : w = 1
          · rw [if_pos m1]
            have y02 : (1 : Int32) ≤ 2 := by decide
            have y00 : ¬ (1 : Int32) < 0 := by decide
            rw [m1]
            simp only [e82_0, e82_1, e82_2, e82_3, e82_6, e82_9, e82_10, e82_13, e82_14, e82_15, e82_18, e82_19, e82_20, e82_21, e82_22, e82_23, e82_26, e82_27, e82_30, e82_31, e82_34, e82_37, e82_38, e82_39, e82_40, e82_43, e82_44, e82_47, e82_50, e82_53, e82_54, e82_57, e82_60, am_bd_some, Option.toList_some, Option.toList_none, List.cons_append, List.nil_append, am_w8_0, am_w8_1, am_w8_2, am_w8_3, am_w8_4, eq_self, or_true, true_or, am_kd_sI, am_kd_sL, am_kd_sR, am_tc_sI, am_tc_sL, am_tc_sR, am_len_sI, am_len_sL, am_len_sR, am_rfs, if_true, if_false, am_rdL_sI, am_rR_sL, am_rt_cq, am_kd_cq, am_tc_cq, am_len_cq, am_rd_sL, am_rd_sR, am_rdL_sR, okK_0 ok, db, y, y00, y02, s1, not_false_eq_true, not_true, okK_0 ok1, okR_0_9 ok1, okK_202 ok1, e1]
          · rw [if_neg m1]
            simp only [e82_0, e82_1, e82_2, e82_3, e82_6, e82_9, e82_10, e82_13, e82_14, e82_15, e82_18, e82_19, e82_20, e82_21, e82_22, e82_23, e82_26, e82_27, e82_30, e82_31, e82_34, e82_37, e82_38, e82_39, e82_40, e82_43, e82_44, e82_47, e82_50, e82_53, e82_54, e82_57, e82_60, am_bd_some, Option.toList_some, Option.toList_none, List.cons_append, List.nil_append, am_w8_0, am_w8_1, am_w8_2, am_w8_3, am_w8_4, eq_self, or_true, true_or, am_kd_sI, am_kd_sL, am_kd_sR, am_tc_sI, am_tc_sL, am_tc_sR, am_len_sI, am_len_sL, am_len_sR, am_rfs, if_true, if_false, am_rdL_sI, am_rR_sL, am_rt_cq, am_kd_cq, am_tc_cq, am_len_cq, am_rd_sL, am_rd_sR, am_rdL_sR, okK_0 ok, db, y, w1, w2, s1, m0, m1, not_false_eq_true, okK_0 ok1, okR_0_9 ok1, okK_202 ok1, e2]
      · rw [if_neg (fun v => w2 v.2.2)]
        refine ⟨h, q_wk.rf ok, ?_⟩
        simp only [e82_0, e82_1, e82_2, e82_3, e82_6, e82_9, e82_10, e82_13, e82_14, e82_15, e82_18, e82_19, e82_20, e82_21, e82_22, e82_23, e82_26, e82_27, e82_30, e82_31, e82_34, e82_37, e82_38, e82_39, e82_40, e82_43, e82_44, e82_47, e82_50, e82_53, e82_54, e82_57, e82_60, am_bd_some, Option.toList_some, Option.toList_none, List.cons_append, List.nil_append, am_w8_0, am_w8_1, am_w8_2, am_w8_3, am_w8_4, eq_self, or_true, true_or, am_kd_sI, am_kd_sL, am_kd_sR, am_tc_sI, am_tc_sL, am_tc_sR, am_len_sI, am_len_sL, am_len_sR, am_rfs, if_true, if_false, am_rdL_sI, am_rR_sL, am_rt_cq, am_kd_cq, am_tc_cq, am_len_cq, am_rd_sL, am_rd_sR, am_rdL_sR, okK_0 ok, db, y, w1, w2]
  · have c' : ¬ ((0 ≤ a ∧ a < nI (A.2.1 0)) ∧ (0 ≤ b ∧ b < nI (F_n (A.2.2.1 a.toNatClampNeg)))) := c
    rw [if_neg c'] at db
    rw [if_neg (fun v => c v.1)]
    refine ⟨h, q_wk.rf ok, ?_⟩
    simp only [e82_0, e82_1, e82_2, e82_3, e82_6, e82_9, e82_10, e82_13, e82_14, e82_15, e82_18, e82_19, e82_20, e82_21, e82_22, e82_23, e82_26, e82_27, e82_30, e82_31, e82_34, e82_37, e82_38, e82_39, e82_40, e82_43, e82_44, e82_47, e82_50, e82_53, e82_54, e82_57, e82_60, am_bd_some, Option.toList_some, Option.toList_none, List.cons_append, List.nil_append, am_w8_0, am_w8_1, am_w8_2, am_w8_3, am_w8_4, eq_self, or_true, true_or, am_kd_sI, am_kd_sL, am_kd_sR, am_tc_sI, am_tc_sL, am_tc_sR, am_len_sI, am_len_sL, am_len_sR, am_rfs, if_true, if_false, am_rdL_sI, am_rR_sL, am_rt_cq, am_kd_cq, am_tc_cq, am_len_cq, am_rd_sL, am_rd_sR, am_rdL_sR, okK_0 ok, db]
def q_hdP (A : q_All) (a b t : Int32) : Prop := q_fb2 A a b ∧ (1 ≤ t ∧ t ≤ 10)
noncomputable def F_hd (f : q_Fl) (b t : Nat) (u : Int32) : Int64 := match q_MA f b with
  | none => -1
  | some k => q_lt (10 * (k / 4)) t (Nat.gcd (10 * (k / 4)) t) u
noncomputable def q_hdA (A : q_All) (a b t u : Int32) : Int64 := @ite _ (q_hdP A a b t) (Classical.propDecidable _) (F_hd (A.2.2.1 a.toNatClampNeg) b.toNatClampNeg t.toNatClampNeg u) (-1)
theorem den_cheard {A : q_All} {h : am_H} (H : q_Rel A h) (a b t u : Int32) : ∃ h' : am_H, q_wk h h' ∧ am_den 91 [.ref 0, .int a, .int b, .int t, .int u] h = some (some (.long (q_hdA A a b t u)), h') := by
  have ok := H.1
  have db := den_hasBeast H a b
  have y : (1 : Int32) = 0 ↔ False := by decide
  show ∃ h' : am_H, q_wk h h' ∧ am_ev 91 0 [some (.ref 0), some (.int a), some (.int b), some (.int t), some (.int u)] [] h = _
  unfold q_hdA
  by_cases c : q_fb2 A a b
  · have c' : (0 ≤ a ∧ a < nI (A.2.1 0)) ∧ (0 ≤ b ∧ b < nI (F_n (A.2.2.1 a.toNatClampNeg))) := c
    rw [if_pos c'] at db
    by_cases w1 : t < 1
    · rw [if_neg (fun v => absurd w1 (Int32.not_lt.mpr v.2.1))]
      refine ⟨h, q_wk.rf ok, ?_⟩
      simp only [e91_0, e91_1, e91_2, e91_3, e91_6, e91_9, e91_10, e91_11, e91_14, e91_15, e91_17, e91_20, e91_23, e91_24, e91_25, e91_26, e91_27, e91_30, e91_31, e91_34, e91_37, e91_38, e91_41, e91_44, e91_45, e91_48, e91_49, e91_52, e91_55, e91_56, e91_57, e91_58, e91_59, e91_61, e91_64, am_bd_some, Option.toList_some, Option.toList_none, List.cons_append, List.nil_append, am_w8_0, am_w8_1, am_w8_2, am_w8_3, am_w8_4, eq_self, or_true, true_or, am_kd_sI, am_kd_sL, am_kd_sR, am_tc_sI, am_tc_sL, am_tc_sR, am_len_sI, am_len_sL, am_len_sR, am_rfs, if_true, if_false, am_rdL_sI, am_rR_sL, am_rt_cq, am_kd_cq, am_tc_cq, am_len_cq, am_rd_sL, am_rd_sR, am_rdL_sR, okK_0 ok, db, y, w1]
    · by_cases w2 : t ≤ 10
      · have ct : 1 ≤ t ∧ t ≤ 10 := ⟨Int32.not_lt.mp w1, w2⟩
        rw [if_pos ⟨c, ct⟩]
        obtain ⟨i, j, hi, hi2, rfl, hj, hj6, rfl⟩ := q_fb2_nat H c
        have t0 : (0 : Int32) ≤ t := Int32.le_trans (by decide) ct.1
        obtain ⟨p, hp, rfl⟩ := q_rg 10 (by decide) ⟨t0, w2⟩
        have p1 : 1 ≤ p := by
          have := Int32.le_iff_toInt_le.mp ct.1
          rw [nI_toInt (by omega)] at this
          have b1 : (1 : Int32).toInt = 1 := by decide
          omega
        have z : (nI i).toNatClampNeg = i := nI_clamp (by omega)
        have zj : (nI j).toNatClampNeg = j := nI_clamp (by omega)
        have zp : (nI p).toNatClampNeg = p := nI_clamp (by omega)
        obtain ⟨h1, w1', e0, e1, e2, bd, s1⟩ := den_dseek H i j hi hj
        have ok1 := w1'.1
        rw [z, zj, zp]
        refine ⟨h1, w1', ?_⟩
        unfold F_hd
        cases hM : q_MA (A.2.2.1 i) j with
        | none =>
          rw [hM] at e0
          have e0' : h1.1 202 0 = -1 := e0
          simp only [e91_0, e91_1, e91_2, e91_3, e91_6, e91_9, e91_10, e91_11, e91_14, e91_15, e91_17, e91_20, e91_23, e91_24, e91_25, e91_26, e91_27, e91_30, e91_31, e91_34, e91_37, e91_38, e91_41, e91_44, e91_45, e91_48, e91_49, e91_52, e91_55, e91_56, e91_57, e91_58, e91_59, e91_61, e91_64, am_bd_some, Option.toList_some, Option.toList_none, List.cons_append, List.nil_append, am_w8_0, am_w8_1, am_w8_2, am_w8_3, am_w8_4, eq_self, or_true, true_or, am_kd_sI, am_kd_sL, am_kd_sR, am_tc_sI, am_tc_sL, am_tc_sR, am_len_sI, am_len_sL, am_len_sR, am_rfs, if_true, if_false, am_rdL_sI, am_rR_sL, am_rt_cq, am_kd_cq, am_tc_cq, am_len_cq, am_rd_sL, am_rd_sR, am_rdL_sR, okK_0 ok, db, y, w1, w2, s1, okK_0 ok1, okR_0_9 ok1, okK_202 ok1, e0', not_true]
        | some k =>
          rw [hM] at e0
          have e0' : h1.1 202 0 = nI (k / 4) := e0
          have kb := bd k hM
          have nk : ¬ nI (k / 4) = -1 := q_m1_n _ (by omega)
          have l1 : (nI (k / 4)).toInt64 = lN (k / 4) := nI_l (by omega)
          have l2 : (nI p).toInt64 = lN p := nI_l (by omega)
          have l3 : (10 : Int64) * lN (k / 4) = lN (10 * (k / 4)) := lN_mul 10 _
          have dl := den_least (10 * (k / 4)) p u h1 (by omega) p1 (by omega)
          simp only [e91_0, e91_1, e91_2, e91_3, e91_6, e91_9, e91_10, e91_11, e91_14, e91_15, e91_17, e91_20, e91_23, e91_24, e91_25, e91_26, e91_27, e91_30, e91_31, e91_34, e91_37, e91_38, e91_41, e91_44, e91_45, e91_48, e91_49, e91_52, e91_55, e91_56, e91_57, e91_58, e91_59, e91_61, e91_64, am_bd_some, Option.toList_some, Option.toList_none, List.cons_append, List.nil_append, am_w8_0, am_w8_1, am_w8_2, am_w8_3, am_w8_4, eq_self, or_true, true_or, am_kd_sI, am_kd_sL, am_kd_sR, am_tc_sI, am_tc_sL, am_tc_sR, am_len_sI, am_len_sL, am_len_sR, am_rfs, if_true, if_false, am_rdL_sI, am_rR_sL, am_rt_cq, am_kd_cq, am_tc_cq, am_len_cq, am_rd_sL, am_rd_sR, am_rdL_sR, okK_0 ok, db, y, w1, w2, s1, okK_0 ok1, okR_0_9 ok1, okK_202 ok1, e0', nk, not_false_eq_true, l1, l2, l3, dl]
      · rw [if_neg (fun v => w2 v.2.2)]
        refine ⟨h, q_wk.rf ok, ?_⟩
        simp only [e91_0, e91_1, e91_2, e91_3, e91_6, e91_9, e91_10, e91_11, e91_14, e91_15, e91_17, e91_20, e91_23, e91_24, e91_25, e91_26, e91_27, e91_30, e91_31, e91_34, e91_37, e91_38, e91_41, e91_44, e91_45, e91_48, e91_49, e91_52, e91_55, e91_56, e91_57, e91_58, e91_59, e91_61, e91_64, am_bd_some, Option.toList_some, Option.toList_none, List.cons_append, List.nil_append, am_w8_0, am_w8_1, am_w8_2, am_w8_3, am_w8_4, eq_self, or_true, true_or, am_kd_sI, am_kd_sL, am_kd_sR, am_tc_sI, am_tc_sL, am_tc_sR, am_len_sI, am_len_sL, am_len_sR, am_rfs, if_true, if_false, am_rdL_sI, am_rR_sL, am_rt_cq, am_kd_cq, am_tc_cq, am_len_cq, am_rd_sL, am_rd_sR, am_rdL_sR, okK_0 ok, db, y, w1, w2]
  · have c' : ¬ ((0 ≤ a ∧ a < nI (A.2.1 0)) ∧ (0 ≤ b ∧ b < nI (F_n (A.2.2.1 a.toNatClampNeg)))) := c
    rw [if_neg c'] at db
    rw [if_neg (fun v => c v.1)]
    refine ⟨h, q_wk.rf ok, ?_⟩
    simp only [e91_0, e91_1, e91_2, e91_3, e91_6, e91_9, e91_10, e91_11, e91_14, e91_15, e91_17, e91_20, e91_23, e91_24, e91_25, e91_26, e91_27, e91_30, e91_31, e91_34, e91_37, e91_38, e91_41, e91_44, e91_45, e91_48, e91_49, e91_52, e91_55, e91_56, e91_57, e91_58, e91_59, e91_61, e91_64, am_bd_some, Option.toList_some, Option.toList_none, List.cons_append, List.nil_append, am_w8_0, am_w8_1, am_w8_2, am_w8_3, am_w8_4, eq_self, or_true, true_or, am_kd_sI, am_kd_sL, am_kd_sR, am_tc_sI, am_tc_sL, am_tc_sR, am_len_sI, am_len_sL, am_len_sR, am_rfs, if_true, if_false, am_rdL_sI, am_rR_sL, am_rt_cq, am_kd_cq, am_tc_cq, am_len_cq, am_rd_sL, am_rd_sR, am_rdL_sR, okK_0 ok, db]
