/-! part 98: bits of a long, all of them -/
theorem q_m16 (a y : Nat) : (a + 256 * y) % 16 = a % 16 := by omega
theorem q_bct_8 (b0 b1 b2 b3 b4 b5 b6 b7 : Nat) (h0 : b0 < 256) (h1 : b1 < 256) (h2 : b2 < 256) (h3 : b3 < 256) (h4 : b4 < 256) (h5 : b5 < 256) (h6 : b6 < 256) (h7 : b7 < 256) : q_bct (b0 + 256 * (b1 + 256 * (b2 + 256 * (b3 + 256 * (b4 + 256 * (b5 + 256 * (b6 + 256 * (b7 + 256 * 0)))))))) = q_b8 b0 + 256 * (q_b8 b1 + 256 * (q_b8 b2 + 256 * (q_b8 b3 + 256 * (q_b8 b4 + 256 * (q_b8 b5 + 256 * (q_b8 b6 + 256 * (q_b8 b7 + 256 * 0))))))) := by
  obtain ⟨⟨u0, v0, w0, z0⟩, -⟩ := q_by b0 h0
  obtain ⟨⟨u1, v1, w1, z1⟩, -⟩ := q_by b1 h1
  obtain ⟨⟨u2, v2, w2, z2⟩, -⟩ := q_by b2 h2
  obtain ⟨⟨u3, v3, w3, z3⟩, -⟩ := q_by b3 h3
  obtain ⟨⟨u4, v4, w4, z4⟩, -⟩ := q_by b4 h4
  obtain ⟨⟨u5, v5, w5, z5⟩, -⟩ := q_by b5 h5
  obtain ⟨⟨u6, v6, w6, z6⟩, -⟩ := q_by b6 h6
  obtain ⟨⟨u7, v7, w7, z7⟩, -⟩ := q_by b7 h7
  unfold q_bct
  have m1 : (0x5555555555555555 : Nat) = 0x55 + 256 * (0x55 + 256 * (0x55 + 256 * (0x55 + 256 * (0x55 + 256 * (0x55 + 256 * (0x55 + 256 * (0x55 + 256 * 0))))))) := by decide
  have m2 : (0x3333333333333333 : Nat) = 0x33 + 256 * (0x33 + 256 * (0x33 + 256 * (0x33 + 256 * (0x33 + 256 * (0x33 + 256 * (0x33 + 256 * (0x33 + 256 * 0))))))) := by decide
  have m3 : (0x0f0f0f0f0f0f0f0f : Nat) = 0x0f + 256 * (0x0f + 256 * (0x0f + 256 * (0x0f + 256 * (0x0f + 256 * (0x0f + 256 * (0x0f + 256 * (0x0f + 256 * 0))))))) := by decide
  have s1 : q_t1 0 0 = 0 := by decide
  have s2 : q_t2 0 0 = 0 := by decide
  have s3 : q_t3 0 0 = 0 := by decide
  rw [m1, m2, m3, q_t1_p _ _ h0, q_t1_p _ _ h1, q_t1_p _ _ h2, q_t1_p _ _ h3, q_t1_p _ _ h4, q_t1_p _ _ h5, q_t1_p _ _ h6, q_t1_p _ _ h7, s1]
  rw [q_t2_p _ _ u0, q_t2_p _ _ u1, q_t2_p _ _ u2, q_t2_p _ _ u3, q_t2_p _ _ u4, q_t2_p _ _ u5, q_t2_p _ _ u6, q_t2_p _ _ u7, s2]
  rw [q_t3_p _ _ v0 (by rw [q_m16]; exact w1), q_t3_p _ _ v1 (by rw [q_m16]; exact w2), q_t3_p _ _ v2 (by rw [q_m16]; exact w3), q_t3_p _ _ v3 (by rw [q_m16]; exact w4), q_t3_p _ _ v4 (by rw [q_m16]; exact w5), q_t3_p _ _ v5 (by rw [q_m16]; exact w6), q_t3_p _ _ v6 (by rw [q_m16]; exact w7), q_t3_p _ _ v7 (by decide), s3, z0, z1, z2, z3, z4, z5, z6, z7]
theorem q_dg (p y : Nat) (h : p < 256) : (p + 256 * y) / 256 = y := by omega
theorem q_dA (p0 p1 p2 p3 p4 p5 p6 p7 : Nat) : (p0 + 256 * (p1 + 256 * (p2 + 256 * (p3 + 256 * (p4 + 256 * (p5 + 256 * (p6 + 256 * (p7 + 256 * 0)))))))) + (p1 + 256 * (p2 + 256 * (p3 + 256 * (p4 + 256 * (p5 + 256 * (p6 + 256 * (p7 + 256 * 0))))))) = (p0 + p1) + 256 * ((p1 + p2) + 256 * ((p2 + p3) + 256 * ((p3 + p4) + 256 * ((p4 + p5) + 256 * ((p5 + p6) + 256 * ((p6 + p7) + 256 * p7)))))) := by
  simp only [Nat.mul_add]
  omega
theorem q_dB (a b c d e f g i : Nat) : (a + 256 * (b + 256 * (c + 256 * (d + 256 * (e + 256 * (f + 256 * (g + 256 * i))))))) + (c + 256 * (d + 256 * (e + 256 * (f + 256 * (g + 256 * i))))) = (a + c) + 256 * ((b + d) + 256 * ((c + e) + 256 * ((d + f) + 256 * ((e + g) + 256 * ((f + i) + 256 * (g + 256 * i)))))) := by
  simp only [Nat.mul_add]
  omega
theorem q_dC (a b y z : Nat) (h : a + b < 128) : (a + 256 * y + (b + 256 * z)) % 128 = a + b := by omega
theorem q_dD (p y n : Nat) (h : p < 256) (hy : y < n) : p + 256 * y < 256 * n := by omega
theorem q_dig8 (p0 p1 p2 p3 p4 p5 p6 p7 x : Nat) (h0 : p0 ≤ 8) (h1 : p1 ≤ 8) (h2 : p2 ≤ 8) (h3 : p3 ≤ 8) (h4 : p4 ≤ 8) (h5 : p5 ≤ 8) (h6 : p6 ≤ 8) (h7 : p7 ≤ 8) (hx : x = p0 + 256 * (p1 + 256 * (p2 + 256 * (p3 + 256 * (p4 + 256 * (p5 + 256 * (p6 + 256 * (p7 + 256 * 0)))))))) : x < 2 ^ 60 ∧ (x + x / 256 + (x + x / 256) / 65536 + (x + x / 256 + (x + x / 256) / 65536) / 4294967296) % 128 = p0 + p1 + p2 + p3 + p4 + p5 + p6 + p7 := by
  have s1 : p0 + p1 < 256 := by clear hx; omega
  have s2 : p1 + p2 < 256 := by clear hx; omega
  have s3 : p0 + p1 + (p2 + p3) < 256 := by clear hx; omega
  have s4 : p1 + p2 + (p3 + p4) < 256 := by clear hx; omega
  have s5 : p2 + p3 + (p4 + p5) < 256 := by clear hx; omega
  have s6 : p3 + p4 + (p5 + p6) < 256 := by clear hx; omega
  have s7 : p0 + p1 + (p2 + p3) + (p4 + p5 + (p6 + p7)) < 128 := by clear hx; omega
  have fin : p0 + p1 + (p2 + p3) + (p4 + p5 + (p6 + p7)) = p0 + p1 + p2 + p3 + p4 + p5 + p6 + p7 := by clear hx; omega
  have dd : ∀ n : Nat, n / 65536 = n / 256 / 256 := fun n => by rw [Nat.div_div_eq_div_mul]
  have de : ∀ n : Nat, n / 4294967296 = n / 256 / 256 / 256 / 256 := fun n => by rw [Nat.div_div_eq_div_mul, Nat.div_div_eq_div_mul, Nat.div_div_eq_div_mul]
  have q0 : p0 < 256 := by clear hx; omega
  have e1 : x / 256 = p1 + 256 * (p2 + 256 * (p3 + 256 * (p4 + 256 * (p5 + 256 * (p6 + 256 * (p7 + 256 * 0)))))) := by rw [hx]; exact q_dg _ _ q0
  have e2 : x + x / 256 = (p0 + p1) + 256 * ((p1 + p2) + 256 * ((p2 + p3) + 256 * ((p3 + p4) + 256 * ((p4 + p5) + 256 * ((p5 + p6) + 256 * ((p6 + p7) + 256 * p7)))))) := by rw [e1, hx]; exact q_dA _ _ _ _ _ _ _ _
  have e3 : (x + x / 256) / 65536 = (p2 + p3) + 256 * ((p3 + p4) + 256 * ((p4 + p5) + 256 * ((p5 + p6) + 256 * ((p6 + p7) + 256 * p7)))) := by
    rw [dd, e2, q_dg _ _ s1, q_dg _ _ s2]
  have e4 : x + x / 256 + (x + x / 256) / 65536 = (p0 + p1 + (p2 + p3)) + 256 * ((p1 + p2 + (p3 + p4)) + 256 * ((p2 + p3 + (p4 + p5)) + 256 * ((p3 + p4 + (p5 + p6)) + 256 * ((p4 + p5 + (p6 + p7)) + 256 * ((p5 + p6 + p7) + 256 * ((p6 + p7) + 256 * p7)))))) := by rw [e3, e2]; exact q_dB _ _ _ _ _ _ _ _
  have e5 : (x + x / 256 + (x + x / 256) / 65536) / 4294967296 = (p4 + p5 + (p6 + p7)) + 256 * ((p5 + p6 + p7) + 256 * ((p6 + p7) + 256 * p7)) := by
    rw [de, e4, q_dg _ _ s3, q_dg _ _ s4, q_dg _ _ s5, q_dg _ _ s6]
  refine ⟨?_, ?_⟩
  · rw [hx]
    have b7 : p7 + 256 * 0 < 16 := by clear hx e1 e2 e3 e4 e5; omega
    have c6 : p6 < 256 := by clear hx e1 e2 e3 e4 e5; omega
    have c5 : p5 < 256 := by clear hx e1 e2 e3 e4 e5; omega
    have c4 : p4 < 256 := by clear hx e1 e2 e3 e4 e5; omega
    have c3 : p3 < 256 := by clear hx e1 e2 e3 e4 e5; omega
    have c2 : p2 < 256 := by clear hx e1 e2 e3 e4 e5; omega
    have c1 : p1 < 256 := by clear hx e1 e2 e3 e4 e5; omega
    exact q_dD _ _ _ q0 (q_dD _ _ _ c1 (q_dD _ _ _ c2 (q_dD _ _ _ c3 (q_dD _ _ _ c4 (q_dD _ _ _ c5 (q_dD _ _ _ c6 b7))))))
  · rw [e5, e4, q_dC _ _ _ _ s7]
    exact fin
def q_pop8 (m : Nat) : Nat := q_sm (fun c => (m.testBit c).toNat) 0 64
theorem q_bct_pop8 (m : Nat) (hm : m < 2 ^ 64) : ∃ x, q_bct m = x ∧ x < 2 ^ 60 ∧ (x + x / 256 + (x + x / 256) / 65536 + (x + x / 256 + (x + x / 256) / 65536) / 4294967296) % 128 = q_pop8 m := by
  have lt : ∀ k, m / 2 ^ (8 * k) % 2 ^ 8 < 256 := fun k => Nat.mod_lt _ (by decide)
  have dv : ∀ k, m / 2 ^ (8 * k) = m / 2 ^ (8 * k) % 2 ^ 8 + 256 * (m / 2 ^ (8 * (k + 1))) := fun k => by
    have e : m / 2 ^ (8 * (k + 1)) = m / 2 ^ (8 * k) / 2 ^ 8 := by
      rw [Nat.div_div_eq_div_mul, ← Nat.pow_add]
      rfl
    rw [e]
    generalize m / 2 ^ (8 * k) = n
    omega
  have d0 : m = m / 2 ^ (8 * 0) := by
    show m = m / 1
    rw [Nat.div_one]
  have d8 : m / 2 ^ (8 * 8) = 0 := Nat.div_eq_of_lt hm
  have em : m = m / 2 ^ (8 * 0) % 2 ^ 8 + 256 * (m / 2 ^ (8 * 1) % 2 ^ 8 + 256 * (m / 2 ^ (8 * 2) % 2 ^ 8 + 256 * (m / 2 ^ (8 * 3) % 2 ^ 8 + 256 * (m / 2 ^ (8 * 4) % 2 ^ 8 + 256 * (m / 2 ^ (8 * 5) % 2 ^ 8 + 256 * (m / 2 ^ (8 * 6) % 2 ^ 8 + 256 * (m / 2 ^ (8 * 7) % 2 ^ 8 + 256 * 0))))))) := by
    have c7 := dv 7
    have c6 := dv 6
    have c5 := dv 5
    have c4 := dv 4
    have c3 := dv 3
    have c2 := dv 2
    have c1 := dv 1
    have c0 := dv 0
    rw [show 7 + 1 = 8 from rfl, d8] at c7
    rw [show 6 + 1 = 7 from rfl, c7] at c6
    rw [show 5 + 1 = 6 from rfl, c6] at c5
    rw [show 4 + 1 = 5 from rfl, c5] at c4
    rw [show 3 + 1 = 4 from rfl, c4] at c3
    rw [show 2 + 1 = 3 from rfl, c3] at c2
    rw [show 1 + 1 = 2 from rfl, c2] at c1
    rw [show 0 + 1 = 1 from rfl, c1] at c0
    exact d0.trans c0
  have bt := q_bct_8 _ _ _ _ _ _ _ _ (lt 0) (lt 1) (lt 2) (lt 3) (lt 4) (lt 5) (lt 6) (lt 7)
  rw [← em] at bt
  have tb : ∀ k, q_b8 (m / 2 ^ (8 * k) % 2 ^ 8) = (m.testBit (8 * k + 0)).toNat + (m.testBit (8 * k + 1)).toNat + (m.testBit (8 * k + 2)).toNat + (m.testBit (8 * k + 3)).toNat + (m.testBit (8 * k + 4)).toNat + (m.testBit (8 * k + 5)).toNat + (m.testBit (8 * k + 6)).toNat + (m.testBit (8 * k + 7)).toNat := fun k => by
    unfold q_b8
    rw [q_tb k rfl 0 (by decide), q_tb k rfl 1 (by decide), q_tb k rfl 2 (by decide), q_tb k rfl 3 (by decide), q_tb k rfl 4 (by decide), q_tb k rfl 5 (by decide), q_tb k rfl 6 (by decide), q_tb k rfl 7 (by decide)]
  obtain ⟨d1, d2⟩ := q_dig8 _ _ _ _ _ _ _ _ _ (q_by _ (lt 0)).2 (q_by _ (lt 1)).2 (q_by _ (lt 2)).2 (q_by _ (lt 3)).2 (q_by _ (lt 4)).2 (q_by _ (lt 5)).2 (q_by _ (lt 6)).2 (q_by _ (lt 7)).2 rfl
  refine ⟨_, bt, d1, ?_⟩
  rw [d2, tb, tb, tb, tb, tb, tb, tb, tb]
  unfold q_pop8
  simp only [q_sm, Nat.zero_add, Nat.mul_zero, Nat.reduceMul, Nat.reduceAdd, Nat.add_assoc]
theorem den_lbc8 (m : Nat) (hm : m < 2 ^ 64) (h : am_H) : am_den 90 [.long (lN m)] h = some (some (.int (nI (q_pop8 m))), h) := by
  obtain ⟨x, hx, xl, xe⟩ := q_bct_pop8 m hm
  have u : ∀ c : Nat, c < 64 → ∀ y, y < 2 ^ 64 → ((lN y).toUInt64 >>> ((nI c).toInt64.toUInt64 &&& Int64.toUInt64 63)).toInt64 = lN (y / 2 ^ c) := fun c hc y hy => q_lush y c hy hc
  have u1 := fun y hy => u 1 (by decide) y hy
  have u2 := fun y hy => u 2 (by decide) y hy
  have u4 := fun y hy => u 4 (by decide) y hy
  have u8 := fun y hy => u 8 (by decide) y hy
  have u16 := fun y hy => u 16 (by decide) y hy
  have u32 := fun y hy => u 32 (by decide) y hy
  rw [show nI 1 = 1 from rfl] at u1
  rw [show nI 2 = 2 from rfl] at u2
  rw [show nI 4 = 4 from rfl] at u4
  rw [show nI 8 = 8 from rfl] at u8
  rw [show nI 16 = 16 from rfl] at u16
  rw [show nI 32 = 32 from rfl] at u32
  have k5 : (6148914691236517205 : Int64) = lN 0x5555555555555555 := by decide
  have k3 : (3689348814741910323 : Int64) = lN 0x3333333333333333 := by decide
  have kf : (1085102592571150095 : Int64) = lN 0x0f0f0f0f0f0f0f0f := by decide
  have l1 : (m / 2 ^ 1) &&& 0x5555555555555555 ≤ m / 2 ^ 1 := Nat.and_le_left
  have l1' : (m / 2 ^ 1) &&& 0x5555555555555555 ≤ m := by omega
  have t1 : q_t1 m 0x5555555555555555 ≤ m := Nat.sub_le _ _
  have t1e : m - ((m / 2 ^ 1) &&& 0x5555555555555555) = q_t1 m 0x5555555555555555 := rfl
  have t2l : (q_t1 m 0x5555555555555555) &&& 0x3333333333333333 ≤ 0x3333333333333333 := Nat.and_le_right
  have t2m : (q_t1 m 0x5555555555555555 / 2 ^ 2) &&& 0x3333333333333333 ≤ 0x3333333333333333 := Nat.and_le_right
  have t2e : ((q_t1 m 0x5555555555555555) &&& 0x3333333333333333) + ((q_t1 m 0x5555555555555555 / 2 ^ 2) &&& 0x3333333333333333) = q_t2 (q_t1 m 0x5555555555555555) 0x3333333333333333 := rfl
  have t2b : q_t2 (q_t1 m 0x5555555555555555) 0x3333333333333333 < 2 ^ 64 := by rw [← t2e]; omega
  have t3e : (q_t2 (q_t1 m 0x5555555555555555) 0x3333333333333333 + q_t2 (q_t1 m 0x5555555555555555) 0x3333333333333333 / 2 ^ 4) &&& 0x0f0f0f0f0f0f0f0f = x := hx
  have a1 := u1 m (by omega)
  have a2 := u2 (q_t1 m 0x5555555555555555) (by omega)
  have a4 := u4 (q_t2 (q_t1 m 0x5555555555555555) 0x3333333333333333) t2b
  have a8 := u8 x (by omega)
  have a16 := u16 (x + x / 2 ^ 8) (by omega)
  have a32 := u32 (x + x / 2 ^ 8 + (x + x / 2 ^ 8) / 2 ^ 16) (by omega)
  show am_ev 90 0 [some (.long (lN m)), some (.retAddr 0)] [] h = _
  simp only [e90_0, e90_1, e90_2, e90_3, e90_4, e90_7, e90_8, e90_9, e90_10, e90_11, e90_14, e90_15, e90_16, e90_17, e90_18, e90_21, e90_22, e90_23, e90_24, e90_25, e90_26, e90_27, e90_28, e90_29, e90_32, e90_33, e90_34, e90_35, e90_36, e90_38, e90_39, e90_40, e90_41, e90_42, e90_43, e90_45, e90_46, e90_47, e90_48, e90_49, e90_50, e90_52, e90_53, e90_54, e90_55, e90_56, e90_57, e90_59, e90_60, am_bd_some, Option.toList_some, Option.toList_none, List.cons_append, List.nil_append, am_w8_0, am_w8_1, am_w8_2, am_w8_3, am_w8_4, eq_self, or_true, true_or, am_kd_sI, am_kd_sL, am_kd_sR, am_tc_sI, am_tc_sL, am_tc_sR, am_len_sI, am_len_sL, am_len_sR, am_rfs, if_true, if_false, am_rdL_sI, am_rR_sL, am_rt_cq, am_kd_cq, am_tc_cq, am_len_cq, am_rd_sL, am_rd_sR, am_rdL_sR, k5, k3, kf, a1, q_andL, lN_sub l1', t1e, a2, lN_add, t2e, a4, t3e, a8, a16, a32, lN_i]
  have fin : nI (x + x / 2 ^ 8 + (x + x / 2 ^ 8) / 2 ^ 16 + (x + x / 2 ^ 8 + (x + x / 2 ^ 8) / 2 ^ 16) / 2 ^ 32) &&& 127 = nI (q_pop8 m) := by
    rw [pk_and _ 7 (by decide)]
    congr 1
    show (x + x / 256 + (x + x / 256) / 65536 + (x + x / 256 + (x + x / 256) / 65536) / 4294967296) % 4294967296 % 128 = _
    rw [← xe]
    exact Nat.mod_mod_of_dvd _ (by decide)
  rw [fin]
