/-! part A6: the reference reads a line of a log, the whole -/
def l_rw (c v0 v1 v2 v3 w : Int32) : Nat → Int32 := fun j => if j = 0 then c else if j = 1 then v0 else if j = 2 then v1 else if j = 3 then v2 else if j = 4 then v3 else w
theorem m_ln3 {t : Nat → Nat} {L : Nat} {g h : am_H} {s : Nat} {q : Nat × Nat} (H : m_st t L g h s q s) (hs : s < L) (G : h.1 211 23 = 1) (d : q_Lg) (R : q.1 = 0 → l_mr h d) (Rw : l_mw h) (i : Nat) (hi : i < 18) (is : ln_s i = 3) : m_lr l_mr l_mw l_full l_upd t L g 191 (ln_k i) h s q d i := by
  have ok := H.1.1
  obtain ⟨n, n8, e0⟩ := Rw
  obtain ⟨c3, lr1, lr2, lr3, r0, r1, r2, r3⟩ := l_rr i hi is
  have dd := l_Wk i hi is
  have nm : ¬ nI (ln_c i) = -1 := q_m1_n _ (by omega)
  have fi : q.1 = 0 → L_n d = n := fun w => by
    have a := (R w).1.1
    have b := (R w).2
    exact (nI_eq (by omega) (by omega)).mp (a.symm.trans e0)
  obtain ⟨h1, d1, S1, a1, a2, a3⟩ := m_full H 0 8 n (by decide) (by decide) n8 e0 (l_full i d) (fun w => by
    have := fi w
    unfold l_full
    rw [decide_eq_true_eq]
    omega)
  have ok1 := S1.1.1
  obtain ⟨h2, d2, H2, -⟩ := m_beg S1 hs ((a3 23 (by decide)).trans G) (ln_r i) 1
  have ok2 := H2.1.1.1
  have d1' : am_den 180 [.ref 211, .int 0, .int 8, .int (nI s)] h = some (none, h1) := d1
  have x0 : am_ix 0 6 = true := by decide
  have z0 : (0 : Int32).toNatClampNeg = 0 := rfl
  have x5 : am_ix 5 6 = true := by decide
  have z5 : (5 : Int32).toNatClampNeg = 5 := rfl
  have o0 : (0 : Int32) = 0 ∨ (0 : Int32) = 1 := Or.inl rfl
  have o1 : (1 : Int32) = 0 ∨ (1 : Int32) = 1 := Or.inr rfl
  have y : ¬ (1 : Int32) = 0 := by decide
  have s1 : am_ev 191 0 [some (.ref 211), some (.long (lN (ln_k i))), some (.retAddr 0), some (.int (nI s)), none] [] h = am_ev 191 62 [some (.ref 211), some (.long (lN (ln_k i))), some (.retAddr 0), some (.int (nI s)), some (.int (nI (ln_c i)))] [] h2 := by
    rw [m_l0 _ (ln_wk hi).2.2.2.2, dd]
    simp only [e191_0, e191_1, e191_4, e191_5, e191_8, e191_9, e191_12, e191_13, e191_16, e191_17, e191_20, e191_21, e191_24, e191_25, e191_28, e191_29, e191_32, e191_33, e191_36, e191_37, e191_39, e191_41, e191_42, e191_45, e191_46, e191_49, e191_50, e191_51, e191_52, e191_54, e191_55, e191_58, e191_59, e191_63, e191_64, e191_67, e191_70, e191_71, e191_72, e191_75, e191_78, e191_79, e191_80, e191_83, e191_86, e191_87, e191_88, e191_89, e191_91, e191_92, e191_95, e191_96, e191_97, e191_98, e191_101, e191_102, e191_103, e191_106, e191_107, e191_110, e191_111, e191_112, e191_115, e191_116, e191_119, e191_122, e191_123, e191_124, e191_125, e191_128, e191_129, e191_130, e191_131, e191_133, e191_134, e191_137, e191_138, e191_139, e191_140, e191_141, e191_144, e191_147, e191_148, e191_149, e191_150, e191_153, e191_154, e191_156, e191_157, e191_158, e191_160, e191_162, e191_165, e191_166, am_bd_some, Option.toList_some, Option.toList_none, List.cons_append, List.nil_append, am_w8_0, am_w8_1, am_w8_2, am_w8_3, am_w8_4, eq_self, or_true, true_or, am_kd_sI, am_kd_sL, am_kd_sR, am_tc_sI, am_tc_sL, am_tc_sR, am_len_sI, am_len_sL, am_len_sR, am_rfs, if_true, if_false, am_rdL_sI, am_rR_sL, am_rt_cq, am_kd_cq, am_tc_cq, am_len_cq, am_rd_sL, am_rd_sR, am_rdL_sR, nm, not_false_eq_true, okK_211 ok, d1', okK_211 ok1, d2]
  have fin : ∀ (h4 : am_H) (m : Nat) (w : Int32), m_nm t L g (t_E t L s) (ln_r i) (if l_full i d = true then t_nt q 3 s else q) 1 (fun k => h1.1 221 k) (h1.1 211 21) (h1.1 211 22) h4 m → 4 ≤ m → h4.1 222 5 = w → m = (ln_r i).length → w = (if ln_c i = 2 then -1 else nI (l_di i (t_va t L (t_E t L s)))) →
      ∃ h' : am_H, am_ev 191 149 [some (.ref 211), some (.long (lN (ln_k i))), some (.retAddr 0), some (.int (nI s)), some (.int (nI (ln_c i)))] [] h4 = some (some (.int 1), h') ∧ m_st t L g h' (t_nx t L (t_E t L s) (ln_r i).length) (t_rq (ln_r i) (t_va t L (t_E t L s)) (t_nx t L (t_E t L s)) (ln_r i).length (if l_full i d = true then t_nt q 3 s else q)) (t_nx t L (t_E t L s) (ln_r i).length) ∧ ((t_rq (ln_r i) (t_va t L (t_E t L s)) (t_nx t L (t_E t L s)) (ln_r i).length (if l_full i d = true then t_nt q 3 s else q)).1 = 0 → l_mr h' (l_upd i (t_va t L (t_E t L s)) d)) ∧ l_mw h' := by
    intro h4 m w H4 m4 e5 em hw
    have ok4 := H4.1.1.1
    have H5 := H4.r 0 (nI (ln_c i)) (by omega)
    have ok5 := H5.1.1.1
    have nb : ∀ j, j < 4 → h4.1 222 (1 + j) = nI (t_va t L (t_E t L s) j) := fun j hj => (H4.2.1 j (by omega)).2
    obtain ⟨h6, d6, H6⟩ := m_keep H5 6 8 n (by decide) n8 (by decide) (fun w => by omega) ((a1 0).trans e0) (l_rw (nI (ln_c i)) (nI (t_va t L (t_E t L s) 0)) (nI (t_va t L (t_E t L s) 1)) (nI (t_va t L (t_E t L s) 2)) (nI (t_va t L (t_E t L s) 3)) w) (fun j hj => by
      have hj6 : j = 0 ∨ j = 1 ∨ j = 2 ∨ j = 3 ∨ j = 4 ∨ j = 5 := by omega
      rcases hj6 with rfl | rfl | rfl | rfl | rfl | rfl
      · exact c_eq _ _ _ _
      · rw [c_rw, if_neg (by decide)]; exact nb 0 (by decide)
      · rw [c_rw, if_neg (by decide)]; exact nb 1 (by decide)
      · rw [c_rw, if_neg (by decide)]; exact nb 2 (by decide)
      · rw [c_rw, if_neg (by decide)]; exact nb 3 (by decide)
      · rw [c_rw, if_neg (by decide)]; exact e5)
    have d6' : am_den 189 [.ref 211, .int 6, .int 8] (am_sI h4 222 0 (nI (ln_c i))) = some (none, h6) := d6
    refine ⟨h6, ?_, by rw [← em]; exact H6.1, fun z => ?_, ?_⟩
    · simp only [e191_0, e191_1, e191_4, e191_5, e191_8, e191_9, e191_12, e191_13, e191_16, e191_17, e191_20, e191_21, e191_24, e191_25, e191_28, e191_29, e191_32, e191_33, e191_36, e191_37, e191_39, e191_41, e191_42, e191_45, e191_46, e191_49, e191_50, e191_51, e191_52, e191_54, e191_55, e191_58, e191_59, e191_62, e191_63, e191_64, e191_67, e191_70, e191_71, e191_72, e191_75, e191_78, e191_79, e191_80, e191_83, e191_86, e191_87, e191_88, e191_89, e191_91, e191_92, e191_95, e191_96, e191_97, e191_98, e191_101, e191_102, e191_103, e191_106, e191_107, e191_110, e191_111, e191_112, e191_115, e191_116, e191_119, e191_122, e191_123, e191_124, e191_125, e191_128, e191_129, e191_130, e191_131, e191_133, e191_134, e191_137, e191_138, e191_139, e191_140, e191_141, e191_144, e191_147, e191_148, e191_149, e191_150, e191_153, e191_154, e191_156, e191_157, e191_158, e191_160, e191_162, e191_165, e191_166, am_bd_some, Option.toList_some, Option.toList_none, List.cons_append, List.nil_append, am_w8_0, am_w8_1, am_w8_2, am_w8_3, am_w8_4, eq_self, or_true, true_or, am_kd_sI, am_kd_sL, am_kd_sR, am_tc_sI, am_tc_sL, am_tc_sR, am_len_sI, am_len_sL, am_len_sR, am_rfs, if_true, if_false, am_rdL_sI, am_rR_sL, am_rt_cq, am_kd_cq, am_tc_cq, am_len_cq, am_rd_sL, am_rd_sR, am_rdL_sR, okK_211 ok4, okR_211_20 ok4, okT_222 ok4, okL_222 ok4, x0, z0, okK_211 ok5, d6', o1]
    · obtain ⟨q1, -, q3⟩ := t_rq_0 z
      have ff := c_q0 q1
      rw [ff, if_neg (by decide)] at q1
      obtain ⟨M, m8⟩ := R q1
      have en := fi q1
      have n7 : n < 8 := by
        have := of_decide_eq_false ff
        omega
      rw [if_neg (show ¬ n = 8 by omega)] at H6
      have E6 := H6.2.2.2.1
      have c0 : t_va t L (t_E t L s) 0 < 8 := t_can_c (by have := q3 0 (by omega); rw [r0] at this; exact this)
      have c1 : t_va t L (t_E t L s) 1 < 8 := t_can_c (by have := q3 1 (by omega); rw [r1] at this; exact this)
      have c2 : t_va t L (t_E t L s) 2 < 8 := t_can_c (by have := q3 2 (by omega); rw [r2] at this; exact this)
      have c3' : t_va t L (t_E t L s) 3 < 8 := (t_can_r (by have := q3 3 (by omega); rw [r3] at this; exact this)).1
      obtain ⟨b1, b2, -⟩ := f_at8 c0 c1
      have g1 : l_dg (t_va t L (t_E t L s)) % 8 = t_va t L (t_E t L s) 2 := by unfold l_dg; omega
      have g2 : l_dg (t_va t L (t_E t L s)) / 8 = t_va t L (t_E t L s) 3 := by unfold l_dg; omega
      refine ⟨⟨?_, fun k hk => ?_⟩, ?_⟩
      · show h6.1 221 0 = nI (L_n d + 1)
        rw [E6 0, en]
        rfl
      · have hk' : k < L_n d + 1 := hk
        by_cases c : k = L_n d
        · have j1 : 1 + 6 * k = 1 + 6 * n + 0 := by omega
          have j2 : 2 + 6 * k = 1 + 6 * n + 1 := by omega
          have j3 : 3 + 6 * k = 1 + 6 * n + 2 := by omega
          have j4 : 4 + 6 * k = 1 + 6 * n + 3 := by omega
          have j5 : 5 + 6 * k = 1 + 6 * n + 4 := by omega
          have j6 : 6 + 6 * k = 1 + 6 * n + 5 := by omega
          have u1 : L_did (l_upd i (t_va t L (t_E t L s)) d) k = ln_c i := if_pos c
          have u2 : L_beast (l_upd i (t_va t L (t_E t L s)) d) k = f_at (t_va t L (t_E t L s)) := if_pos c
          have u3 : L_dog (l_upd i (t_va t L (t_E t L s)) d) k = l_dg (t_va t L (t_E t L s)) := if_pos c
          have u4 : L_dir (l_upd i (t_va t L (t_E t L s)) d) k = l_di i (t_va t L (t_E t L s)) := if_pos c
          refine ⟨(E6 _).trans ?_, ⟨(E6 _).trans ?_, (E6 _).trans ?_⟩, ⟨(E6 _).trans ?_, (E6 _).trans ?_⟩, (E6 _).trans ?_⟩
          · rw [j1, k_T_in _ _ _ _ _ (by decide), u1]; rfl
          · rw [j2, k_T_in _ _ _ _ _ (by decide), u2, b1]; rfl
          · rw [j3, k_T_in _ _ _ _ _ (by decide), u2, b2]; rfl
          · rw [j4, k_T_in _ _ _ _ _ (by decide), u3, g1]; rfl
          · rw [j5, k_T_in _ _ _ _ _ (by decide), u3, g2]; rfl
          · rw [j6, k_T_in _ _ _ _ _ (by decide)]
            unfold L_way
            rw [u1, u4]
            exact hw
        · have hk2 : k < L_n d := by omega
          obtain ⟨p1, ⟨p2, p3⟩, ⟨p4, p5⟩, p6⟩ := M.2 k hk2
          have u1 : L_did (l_upd i (t_va t L (t_E t L s)) d) k = L_did d k := if_neg c
          have u2 : L_beast (l_upd i (t_va t L (t_E t L s)) d) k = L_beast d k := if_neg c
          have u3 : L_dog (l_upd i (t_va t L (t_E t L s)) d) k = L_dog d k := if_neg c
          have u4 : L_dir (l_upd i (t_va t L (t_E t L s)) d) k = L_dir d k := if_neg c
          have u5 : L_way (l_upd i (t_va t L (t_E t L s)) d) k = L_way d k := by unfold L_way; rw [u1, u4]
          rw [u1, u2, u3, u5]
          refine ⟨(E6 _).trans ?_, ⟨(E6 _).trans ?_, (E6 _).trans ?_⟩, ⟨(E6 _).trans ?_, (E6 _).trans ?_⟩, (E6 _).trans ?_⟩
          · rw [k_T_out _ _ _ _ _ (by omega) (by omega)]; exact (a1 _).trans p1
          · rw [k_T_out _ _ _ _ _ (by omega) (by omega)]; exact (a1 _).trans p2
          · rw [k_T_out _ _ _ _ _ (by omega) (by omega)]; exact (a1 _).trans p3
          · rw [k_T_out _ _ _ _ _ (by omega) (by omega)]; exact (a1 _).trans p4
          · rw [k_T_out _ _ _ _ _ (by omega) (by omega)]; exact (a1 _).trans p5
          · rw [k_T_out _ _ _ _ _ (by omega) (by omega)]; exact (a1 _).trans p6
      · show L_n d + 1 ≤ 8; omega
    · by_cases c : n = 8
      · rw [if_pos c] at H6
        exact ⟨n, n8, (H6.2.2.2.1 0).trans ((a1 0).trans e0)⟩
      · rw [if_neg c] at H6
        exact ⟨n + 1, by omega, H6.2.2.2.1 0⟩
  have F := m_four H2 r0 r1 r2 r3 (lN (ln_k i)) (nI s) (nI (ln_c i))
  unfold m_lr
  by_cases c : ln_c i = 2
  · have l4 := lr3 c
    have c' : (2 : Int32) ≤ nI (ln_c i) := by rw [c]; decide
    rw [l4] at fin ⊢
    revert F
    cases t_fb t L (t_E t L s) 4 0 with
    | some p =>
      rintro ⟨h3, s3, b3⟩
      exact ⟨h3, s1.trans s3, b3⟩
    | none =>
      rintro ⟨h3, s3, H3⟩
      have ok3 := H3.1.1.1
      obtain ⟨h6, s6, r6⟩ := fin _ 4 (-1) (H3.r 5 (-1) (by omega)) (Nat.le_refl _) (c_eq _ _ _ _) rfl (by rw [if_pos c])
      refine ⟨h6, (s1.trans s3).trans ?_, r6⟩
      rw [← s6]
      simp only [e191_0, e191_1, e191_4, e191_5, e191_8, e191_9, e191_12, e191_13, e191_16, e191_17, e191_20, e191_21, e191_24, e191_25, e191_28, e191_29, e191_32, e191_33, e191_36, e191_37, e191_39, e191_41, e191_42, e191_45, e191_46, e191_49, e191_50, e191_51, e191_52, e191_54, e191_55, e191_58, e191_59, e191_62, e191_63, e191_64, e191_67, e191_70, e191_71, e191_72, e191_75, e191_78, e191_79, e191_80, e191_83, e191_86, e191_87, e191_88, e191_89, e191_91, e191_92, e191_95, e191_96, e191_97, e191_98, e191_101, e191_102, e191_103, e191_106, e191_107, e191_110, e191_111, e191_112, e191_115, e191_116, e191_119, e191_122, e191_123, e191_124, e191_125, e191_128, e191_129, e191_130, e191_131, e191_133, e191_134, e191_137, e191_138, e191_139, e191_140, e191_141, e191_144, e191_147, e191_148, e191_150, e191_153, e191_154, e191_156, e191_157, e191_158, e191_160, e191_162, e191_165, e191_166, am_bd_some, Option.toList_some, Option.toList_none, List.cons_append, List.nil_append, am_w8_0, am_w8_1, am_w8_2, am_w8_3, am_w8_4, eq_self, or_true, true_or, am_kd_sI, am_kd_sL, am_kd_sR, am_tc_sI, am_tc_sL, am_tc_sR, am_len_sI, am_len_sL, am_len_sR, am_rfs, if_true, if_false, am_rdL_sI, am_rR_sL, am_rt_cq, am_kd_cq, am_tc_cq, am_len_cq, am_rd_sL, am_rd_sR, am_rdL_sR, okK_211 ok3, okR_211_20 ok3, okT_222 ok3, okL_222 ok3, x5, z5, c']
  · obtain ⟨l5, r4⟩ := lr2 c
    have c' : ¬ (2 : Int32) ≤ nI (ln_c i) := nI_ge (b := 2) (by omega) (by decide)
    rw [l5] at fin ⊢
    rw [t_fb_sn]
    revert F
    cases t_fb t L (t_E t L s) 4 0 with
    | some p =>
      rintro ⟨h3, s3, b3⟩
      exact ⟨h3, s1.trans s3, b3⟩
    | none =>
      rintro ⟨h3, s3, H3⟩
      have ok3 := H3.1.1.1
      have H4 := H3.r 5 (-1) (by omega)
      have ok4 := H4.1.1.1
      obtain ⟨A4, B4⟩ := m_nu H4 (by decide) 0 3 (-1) (by decide) (by decide) (fun k => r_d r4 (t_v_lt k))
      show (match (if t_K t L (t_nx t L (t_E t L s) (0 + 4)) = 3 then none else some (t_nx t L (t_E t L s) (0 + 4)) : Option Nat) with
        | some p => _
        | none => _)
      by_cases k4 : t_K t L (t_nx t L (t_E t L s) 4) = 3
      · rw [if_pos k4]
        obtain ⟨h5, d5, H5, -⟩ := B4 k4
        have d5' := den_take _ ok4 5 0 3 1 h5 d5 o1
        obtain ⟨h6, s6, r6⟩ := fin h5 5 (nI (t_va t L (t_E t L s) 4)) H5 (by decide) (H5.2.1 4 (by decide)).2 rfl (by rw [if_neg c]; exact congrArg nI (if_neg c).symm)
        refine ⟨h6, (s1.trans s3).trans ?_, r6⟩
        rw [← s6]
        simp only [e191_0, e191_1, e191_4, e191_5, e191_8, e191_9, e191_12, e191_13, e191_16, e191_17, e191_20, e191_21, e191_24, e191_25, e191_28, e191_29, e191_32, e191_33, e191_36, e191_37, e191_39, e191_41, e191_42, e191_45, e191_46, e191_49, e191_50, e191_51, e191_52, e191_54, e191_55, e191_58, e191_59, e191_62, e191_63, e191_64, e191_67, e191_70, e191_71, e191_72, e191_75, e191_78, e191_79, e191_80, e191_83, e191_86, e191_87, e191_88, e191_89, e191_91, e191_92, e191_95, e191_96, e191_97, e191_98, e191_101, e191_102, e191_103, e191_106, e191_107, e191_110, e191_111, e191_112, e191_115, e191_116, e191_119, e191_122, e191_123, e191_124, e191_125, e191_128, e191_129, e191_130, e191_131, e191_133, e191_134, e191_137, e191_138, e191_139, e191_140, e191_141, e191_144, e191_147, e191_148, e191_150, e191_153, e191_154, e191_156, e191_157, e191_158, e191_160, e191_162, e191_165, e191_166, am_bd_some, Option.toList_some, Option.toList_none, List.cons_append, List.nil_append, am_w8_0, am_w8_1, am_w8_2, am_w8_3, am_w8_4, eq_self, or_true, true_or, am_kd_sI, am_kd_sL, am_kd_sR, am_tc_sI, am_tc_sL, am_tc_sR, am_len_sI, am_len_sL, am_len_sR, am_rfs, if_true, if_false, am_rdL_sI, am_rR_sL, am_rt_cq, am_kd_cq, am_tc_cq, am_len_cq, am_rd_sL, am_rd_sR, am_rdL_sR, okK_211 ok3, okR_211_20 ok3, okT_222 ok3, okL_222 ok3, x5, z5, c', okK_211 ok4, d5', y, not_false_eq_true]
      · rw [if_neg k4]
        obtain ⟨h5, d5, b5⟩ := A4 k4
        have d5' := den_take _ ok4 5 0 3 0 h5 d5 o0
        refine ⟨h5, (s1.trans s3).trans ?_, b5⟩
        simp only [e191_0, e191_1, e191_4, e191_5, e191_8, e191_9, e191_12, e191_13, e191_16, e191_17, e191_20, e191_21, e191_24, e191_25, e191_28, e191_29, e191_32, e191_33, e191_36, e191_37, e191_39, e191_41, e191_42, e191_45, e191_46, e191_49, e191_50, e191_51, e191_52, e191_54, e191_55, e191_58, e191_59, e191_62, e191_63, e191_64, e191_67, e191_70, e191_71, e191_72, e191_75, e191_78, e191_79, e191_80, e191_83, e191_86, e191_87, e191_88, e191_89, e191_91, e191_92, e191_95, e191_96, e191_97, e191_98, e191_101, e191_102, e191_103, e191_106, e191_107, e191_110, e191_111, e191_112, e191_115, e191_116, e191_119, e191_122, e191_123, e191_124, e191_125, e191_128, e191_129, e191_130, e191_131, e191_133, e191_134, e191_137, e191_138, e191_139, e191_140, e191_141, e191_144, e191_147, e191_148, e191_149, e191_150, e191_153, e191_154, e191_156, e191_157, e191_158, e191_160, e191_162, e191_165, e191_166, am_bd_some, Option.toList_some, Option.toList_none, List.cons_append, List.nil_append, am_w8_0, am_w8_1, am_w8_2, am_w8_3, am_w8_4, eq_self, or_true, true_or, am_kd_sI, am_kd_sL, am_kd_sR, am_tc_sI, am_tc_sL, am_tc_sR, am_len_sI, am_len_sL, am_len_sR, am_rfs, if_true, if_false, am_rdL_sI, am_rR_sL, am_rt_cq, am_kd_cq, am_tc_cq, am_len_cq, am_rd_sL, am_rd_sR, am_rdL_sR, okK_211 ok3, okR_211_20 ok3, okT_222 ok3, okL_222 ok3, x5, z5, c', okK_211 ok4, d5', not_true, o0]
