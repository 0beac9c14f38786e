/-! part 16: what stays: shapes and references (by wip/whole) -/
def am_mut : List (Nat × Nat) := [(178, 0), (184, 0), (190, 0), (159, 7)]
def am_okH (h : am_H) : Prop := h.2.2.2.1 = am_KA ∧ ∀ q ∈ am_RL, (q.1, q.2.1) ∉ am_mut → h.2.2.1 q.1 q.2.1 = some q.2.2
theorem am_okH.kd {h : am_H} (ok : am_okH h) (i : Nat) : am_kd h i = am_KA[i]? := by unfold am_kd; rw [ok.1]
theorem okK_0 {h : am_H} (ok : am_okH h) : am_kd h 0 = some (.inl 10) := ok.kd 0
theorem okR_0_0 {h : am_H} (ok : am_okH h) : h.2.2.1 0 0 = some 1 := ok.2 (0, 0, 1) (by decide +kernel) (by decide +kernel)
theorem okR_0_1 {h : am_H} (ok : am_okH h) : h.2.2.1 0 1 = some 40 := ok.2 (0, 1, 40) (by decide +kernel) (by decide +kernel)
theorem okR_0_2 {h : am_H} (ok : am_okH h) : h.2.2.1 0 2 = some 158 := ok.2 (0, 2, 158) (by decide +kernel) (by decide +kernel)
theorem okR_0_3 {h : am_H} (ok : am_okH h) : h.2.2.1 0 3 = some 159 := ok.2 (0, 3, 159) (by decide +kernel) (by decide +kernel)
theorem okR_0_4 {h : am_H} (ok : am_okH h) : h.2.2.1 0 4 = some 178 := ok.2 (0, 4, 178) (by decide +kernel) (by decide +kernel)
theorem okR_0_5 {h : am_H} (ok : am_okH h) : h.2.2.1 0 5 = some 184 := ok.2 (0, 5, 184) (by decide +kernel) (by decide +kernel)
theorem okR_0_6 {h : am_H} (ok : am_okH h) : h.2.2.1 0 6 = some 190 := ok.2 (0, 6, 190) (by decide +kernel) (by decide +kernel)
theorem okR_0_7 {h : am_H} (ok : am_okH h) : h.2.2.1 0 7 = some 196 := ok.2 (0, 7, 196) (by decide +kernel) (by decide +kernel)
theorem okR_0_8 {h : am_H} (ok : am_okH h) : h.2.2.1 0 8 = some 199 := ok.2 (0, 8, 199) (by decide +kernel) (by decide +kernel)
theorem okR_0_9 {h : am_H} (ok : am_okH h) : h.2.2.1 0 9 = some 202 := ok.2 (0, 9, 202) (by decide +kernel) (by decide +kernel)
theorem okR_0_10 {h : am_H} (ok : am_okH h) : h.2.2.1 0 10 = some 205 := ok.2 (0, 10, 205) (by decide +kernel) (by decide +kernel)
theorem okK_1 {h : am_H} (ok : am_okH h) : am_kd h 1 = some (.inl 8) := ok.kd 1
theorem okR_1_0 {h : am_H} (ok : am_okH h) : h.2.2.1 1 0 = some 2 := ok.2 (1, 0, 2) (by decide +kernel) (by decide +kernel)
theorem okR_1_4 {h : am_H} (ok : am_okH h) : h.2.2.1 1 4 = some 3 := ok.2 (1, 4, 3) (by decide +kernel) (by decide +kernel)
theorem okR_1_5 {h : am_H} (ok : am_okH h) : h.2.2.1 1 5 = some 4 := ok.2 (1, 5, 4) (by decide +kernel) (by decide +kernel)
theorem okR_1_6 {h : am_H} (ok : am_okH h) : h.2.2.1 1 6 = some 5 := ok.2 (1, 6, 5) (by decide +kernel) (by decide +kernel)
theorem okR_1_7 {h : am_H} (ok : am_okH h) : h.2.2.1 1 7 = some 6 := ok.2 (1, 7, 6) (by decide +kernel) (by decide +kernel)
theorem okR_1_8 {h : am_H} (ok : am_okH h) : h.2.2.1 1 8 = some 7 := ok.2 (1, 8, 7) (by decide +kernel) (by decide +kernel)
theorem okK_2 {h : am_H} (ok : am_okH h) : am_kd h 2 = some (.inr (1, 600)) := ok.kd 2
theorem okT_2 {h : am_H} (ok : am_okH h) : am_tc h 2 = some 1 := by unfold am_tc; rw [okK_2 ok]
theorem okL_2 {h : am_H} (ok : am_okH h) : am_len h 2 = 600 := by unfold am_len; rw [okK_2 ok]
theorem okK_3 {h : am_H} (ok : am_okH h) : am_kd h 3 = some (.inr (0, 4)) := ok.kd 3
theorem okT_3 {h : am_H} (ok : am_okH h) : am_tc h 3 = some 0 := by unfold am_tc; rw [okK_3 ok]
theorem okL_3 {h : am_H} (ok : am_okH h) : am_len h 3 = 4 := by unfold am_len; rw [okK_3 ok]
theorem okK_4 {h : am_H} (ok : am_okH h) : am_kd h 4 = some (.inr (4, 2)) := ok.kd 4
theorem okT_4 {h : am_H} (ok : am_okH h) : am_tc h 4 = some 4 := by unfold am_tc; rw [okK_4 ok]
theorem okL_4 {h : am_H} (ok : am_okH h) : am_len h 4 = 2 := by unfold am_len; rw [okK_4 ok]
theorem okR_4_0 {h : am_H} (ok : am_okH h) : h.2.2.1 4 0 = some 8 := ok.2 (4, 0, 8) (by decide +kernel) (by decide +kernel)
theorem okR_4_1 {h : am_H} (ok : am_okH h) : h.2.2.1 4 1 = some 24 := ok.2 (4, 1, 24) (by decide +kernel) (by decide +kernel)
theorem okK_5 {h : am_H} (ok : am_okH h) : am_kd h 5 = some (.inr (5, 2)) := ok.kd 5
theorem okT_5 {h : am_H} (ok : am_okH h) : am_tc h 5 = some 5 := by unfold am_tc; rw [okK_5 ok]
theorem okL_5 {h : am_H} (ok : am_okH h) : am_len h 5 = 2 := by unfold am_len; rw [okK_5 ok]
theorem okR_5_0 {h : am_H} (ok : am_okH h) : h.2.2.1 5 0 = some 11 := ok.2 (5, 0, 11) (by decide +kernel) (by decide +kernel)
theorem okR_5_1 {h : am_H} (ok : am_okH h) : h.2.2.1 5 1 = some 27 := ok.2 (5, 1, 27) (by decide +kernel) (by decide +kernel)
theorem okK_6 {h : am_H} (ok : am_okH h) : am_kd h 6 = some (.inr (6, 2)) := ok.kd 6
theorem okT_6 {h : am_H} (ok : am_okH h) : am_tc h 6 = some 6 := by unfold am_tc; rw [okK_6 ok]
theorem okL_6 {h : am_H} (ok : am_okH h) : am_len h 6 = 2 := by unfold am_len; rw [okK_6 ok]
theorem okR_6_0 {h : am_H} (ok : am_okH h) : h.2.2.1 6 0 = some 13 := ok.2 (6, 0, 13) (by decide +kernel) (by decide +kernel)
theorem okR_6_1 {h : am_H} (ok : am_okH h) : h.2.2.1 6 1 = some 29 := ok.2 (6, 1, 29) (by decide +kernel) (by decide +kernel)
theorem okK_7 {h : am_H} (ok : am_okH h) : am_kd h 7 = some (.inr (7, 2)) := ok.kd 7
theorem okT_7 {h : am_H} (ok : am_okH h) : am_tc h 7 = some 7 := by unfold am_tc; rw [okK_7 ok]
theorem okL_7 {h : am_H} (ok : am_okH h) : am_len h 7 = 2 := by unfold am_len; rw [okK_7 ok]
theorem okR_7_0 {h : am_H} (ok : am_okH h) : h.2.2.1 7 0 = some 19 := ok.2 (7, 0, 19) (by decide +kernel) (by decide +kernel)
theorem okR_7_1 {h : am_H} (ok : am_okH h) : h.2.2.1 7 1 = some 35 := ok.2 (7, 1, 35) (by decide +kernel) (by decide +kernel)
theorem okK_8 {h : am_H} (ok : am_okH h) : am_kd h 8 = some (.inl 3) := ok.kd 8
theorem okR_8_7 {h : am_H} (ok : am_okH h) : h.2.2.1 8 7 = some 9 := ok.2 (8, 7, 9) (by decide +kernel) (by decide +kernel)
theorem okR_8_8 {h : am_H} (ok : am_okH h) : h.2.2.1 8 8 = some 10 := ok.2 (8, 8, 10) (by decide +kernel) (by decide +kernel)
theorem okK_9 {h : am_H} (ok : am_okH h) : am_kd h 9 = some (.inr (0, 6)) := ok.kd 9
theorem okT_9 {h : am_H} (ok : am_okH h) : am_tc h 9 = some 0 := by unfold am_tc; rw [okK_9 ok]
theorem okL_9 {h : am_H} (ok : am_okH h) : am_len h 9 = 6 := by unfold am_len; rw [okK_9 ok]
theorem okK_10 {h : am_H} (ok : am_okH h) : am_kd h 10 = some (.inr (0, 6)) := ok.kd 10
theorem okT_10 {h : am_H} (ok : am_okH h) : am_tc h 10 = some 0 := by unfold am_tc; rw [okK_10 ok]
theorem okL_10 {h : am_H} (ok : am_okH h) : am_len h 10 = 6 := by unfold am_len; rw [okK_10 ok]
theorem okK_11 {h : am_H} (ok : am_okH h) : am_kd h 11 = some (.inl 2) := ok.kd 11
theorem okR_11_1 {h : am_H} (ok : am_okH h) : h.2.2.1 11 1 = some 12 := ok.2 (11, 1, 12) (by decide +kernel) (by decide +kernel)
theorem okK_12 {h : am_H} (ok : am_okH h) : am_kd h 12 = some (.inr (0, 40)) := ok.kd 12
theorem okT_12 {h : am_H} (ok : am_okH h) : am_tc h 12 = some 0 := by unfold am_tc; rw [okK_12 ok]
theorem okL_12 {h : am_H} (ok : am_okH h) : am_len h 12 = 40 := by unfold am_len; rw [okK_12 ok]
theorem okK_13 {h : am_H} (ok : am_okH h) : am_kd h 13 = some (.inl 0) := ok.kd 13
theorem okR_13_3 {h : am_H} (ok : am_okH h) : h.2.2.1 13 3 = some 14 := ok.2 (13, 3, 14) (by decide +kernel) (by decide +kernel)
theorem okR_13_4 {h : am_H} (ok : am_okH h) : h.2.2.1 13 4 = some 15 := ok.2 (13, 4, 15) (by decide +kernel) (by decide +kernel)
theorem okR_13_5 {h : am_H} (ok : am_okH h) : h.2.2.1 13 5 = some 16 := ok.2 (13, 5, 16) (by decide +kernel) (by decide +kernel)
theorem okR_13_6 {h : am_H} (ok : am_okH h) : h.2.2.1 13 6 = some 17 := ok.2 (13, 6, 17) (by decide +kernel) (by decide +kernel)
theorem okR_13_7 {h : am_H} (ok : am_okH h) : h.2.2.1 13 7 = some 18 := ok.2 (13, 7, 18) (by decide +kernel) (by decide +kernel)
theorem okK_14 {h : am_H} (ok : am_okH h) : am_kd h 14 = some (.inr (0, 5)) := ok.kd 14
theorem okT_14 {h : am_H} (ok : am_okH h) : am_tc h 14 = some 0 := by unfold am_tc; rw [okK_14 ok]
theorem okL_14 {h : am_H} (ok : am_okH h) : am_len h 14 = 5 := by unfold am_len; rw [okK_14 ok]
theorem okK_15 {h : am_H} (ok : am_okH h) : am_kd h 15 = some (.inr (0, 5)) := ok.kd 15
theorem okT_15 {h : am_H} (ok : am_okH h) : am_tc h 15 = some 0 := by unfold am_tc; rw [okK_15 ok]
theorem okL_15 {h : am_H} (ok : am_okH h) : am_len h 15 = 5 := by unfold am_len; rw [okK_15 ok]
theorem okK_16 {h : am_H} (ok : am_okH h) : am_kd h 16 = some (.inr (0, 8)) := ok.kd 16
theorem okT_16 {h : am_H} (ok : am_okH h) : am_tc h 16 = some 0 := by unfold am_tc; rw [okK_16 ok]
theorem okL_16 {h : am_H} (ok : am_okH h) : am_len h 16 = 8 := by unfold am_len; rw [okK_16 ok]
theorem okK_17 {h : am_H} (ok : am_okH h) : am_kd h 17 = some (.inr (0, 8)) := ok.kd 17
theorem okT_17 {h : am_H} (ok : am_okH h) : am_tc h 17 = some 0 := by unfold am_tc; rw [okK_17 ok]
theorem okL_17 {h : am_H} (ok : am_okH h) : am_len h 17 = 8 := by unfold am_len; rw [okK_17 ok]
theorem okK_18 {h : am_H} (ok : am_okH h) : am_kd h 18 = some (.inr (0, 10)) := ok.kd 18
theorem okT_18 {h : am_H} (ok : am_okH h) : am_tc h 18 = some 0 := by unfold am_tc; rw [okK_18 ok]
theorem okL_18 {h : am_H} (ok : am_okH h) : am_len h 18 = 10 := by unfold am_len; rw [okK_18 ok]
theorem okK_19 {h : am_H} (ok : am_okH h) : am_kd h 19 = some (.inl 5) := ok.kd 19
theorem okR_19_1 {h : am_H} (ok : am_okH h) : h.2.2.1 19 1 = some 20 := ok.2 (19, 1, 20) (by decide +kernel) (by decide +kernel)
theorem okR_19_2 {h : am_H} (ok : am_okH h) : h.2.2.1 19 2 = some 21 := ok.2 (19, 2, 21) (by decide +kernel) (by decide +kernel)
theorem okR_19_3 {h : am_H} (ok : am_okH h) : h.2.2.1 19 3 = some 22 := ok.2 (19, 3, 22) (by decide +kernel) (by decide +kernel)
theorem okR_19_4 {h : am_H} (ok : am_okH h) : h.2.2.1 19 4 = some 23 := ok.2 (19, 4, 23) (by decide +kernel) (by decide +kernel)
theorem okK_20 {h : am_H} (ok : am_okH h) : am_kd h 20 = some (.inr (0, 8)) := ok.kd 20
theorem okT_20 {h : am_H} (ok : am_okH h) : am_tc h 20 = some 0 := by unfold am_tc; rw [okK_20 ok]
theorem okL_20 {h : am_H} (ok : am_okH h) : am_len h 20 = 8 := by unfold am_len; rw [okK_20 ok]
theorem okK_21 {h : am_H} (ok : am_okH h) : am_kd h 21 = some (.inr (0, 8)) := ok.kd 21
theorem okT_21 {h : am_H} (ok : am_okH h) : am_tc h 21 = some 0 := by unfold am_tc; rw [okK_21 ok]
theorem okL_21 {h : am_H} (ok : am_okH h) : am_len h 21 = 8 := by unfold am_len; rw [okK_21 ok]
theorem okK_22 {h : am_H} (ok : am_okH h) : am_kd h 22 = some (.inr (0, 8)) := ok.kd 22
theorem okT_22 {h : am_H} (ok : am_okH h) : am_tc h 22 = some 0 := by unfold am_tc; rw [okK_22 ok]
theorem okL_22 {h : am_H} (ok : am_okH h) : am_len h 22 = 8 := by unfold am_len; rw [okK_22 ok]
theorem okK_23 {h : am_H} (ok : am_okH h) : am_kd h 23 = some (.inr (0, 8)) := ok.kd 23
theorem okT_23 {h : am_H} (ok : am_okH h) : am_tc h 23 = some 0 := by unfold am_tc; rw [okK_23 ok]
theorem okL_23 {h : am_H} (ok : am_okH h) : am_len h 23 = 8 := by unfold am_len; rw [okK_23 ok]
theorem okK_24 {h : am_H} (ok : am_okH h) : am_kd h 24 = some (.inl 3) := ok.kd 24
theorem okR_24_7 {h : am_H} (ok : am_okH h) : h.2.2.1 24 7 = some 25 := ok.2 (24, 7, 25) (by decide +kernel) (by decide +kernel)
theorem okR_24_8 {h : am_H} (ok : am_okH h) : h.2.2.1 24 8 = some 26 := ok.2 (24, 8, 26) (by decide +kernel) (by decide +kernel)
theorem okK_25 {h : am_H} (ok : am_okH h) : am_kd h 25 = some (.inr (0, 6)) := ok.kd 25
theorem okT_25 {h : am_H} (ok : am_okH h) : am_tc h 25 = some 0 := by unfold am_tc; rw [okK_25 ok]
theorem okL_25 {h : am_H} (ok : am_okH h) : am_len h 25 = 6 := by unfold am_len; rw [okK_25 ok]
theorem okK_26 {h : am_H} (ok : am_okH h) : am_kd h 26 = some (.inr (0, 6)) := ok.kd 26
theorem okT_26 {h : am_H} (ok : am_okH h) : am_tc h 26 = some 0 := by unfold am_tc; rw [okK_26 ok]
theorem okL_26 {h : am_H} (ok : am_okH h) : am_len h 26 = 6 := by unfold am_len; rw [okK_26 ok]
theorem okK_27 {h : am_H} (ok : am_okH h) : am_kd h 27 = some (.inl 2) := ok.kd 27
theorem okR_27_1 {h : am_H} (ok : am_okH h) : h.2.2.1 27 1 = some 28 := ok.2 (27, 1, 28) (by decide +kernel) (by decide +kernel)
theorem okK_28 {h : am_H} (ok : am_okH h) : am_kd h 28 = some (.inr (0, 40)) := ok.kd 28
theorem okT_28 {h : am_H} (ok : am_okH h) : am_tc h 28 = some 0 := by unfold am_tc; rw [okK_28 ok]
theorem okL_28 {h : am_H} (ok : am_okH h) : am_len h 28 = 40 := by unfold am_len; rw [okK_28 ok]
theorem okK_29 {h : am_H} (ok : am_okH h) : am_kd h 29 = some (.inl 0) := ok.kd 29
theorem okR_29_3 {h : am_H} (ok : am_okH h) : h.2.2.1 29 3 = some 30 := ok.2 (29, 3, 30) (by decide +kernel) (by decide +kernel)
theorem okR_29_4 {h : am_H} (ok : am_okH h) : h.2.2.1 29 4 = some 31 := ok.2 (29, 4, 31) (by decide +kernel) (by decide +kernel)
theorem okR_29_5 {h : am_H} (ok : am_okH h) : h.2.2.1 29 5 = some 32 := ok.2 (29, 5, 32) (by decide +kernel) (by decide +kernel)
theorem okR_29_6 {h : am_H} (ok : am_okH h) : h.2.2.1 29 6 = some 33 := ok.2 (29, 6, 33) (by decide +kernel) (by decide +kernel)
theorem okR_29_7 {h : am_H} (ok : am_okH h) : h.2.2.1 29 7 = some 34 := ok.2 (29, 7, 34) (by decide +kernel) (by decide +kernel)
theorem okK_30 {h : am_H} (ok : am_okH h) : am_kd h 30 = some (.inr (0, 5)) := ok.kd 30
theorem okT_30 {h : am_H} (ok : am_okH h) : am_tc h 30 = some 0 := by unfold am_tc; rw [okK_30 ok]
theorem okL_30 {h : am_H} (ok : am_okH h) : am_len h 30 = 5 := by unfold am_len; rw [okK_30 ok]
theorem okK_31 {h : am_H} (ok : am_okH h) : am_kd h 31 = some (.inr (0, 5)) := ok.kd 31
theorem okT_31 {h : am_H} (ok : am_okH h) : am_tc h 31 = some 0 := by unfold am_tc; rw [okK_31 ok]
theorem okL_31 {h : am_H} (ok : am_okH h) : am_len h 31 = 5 := by unfold am_len; rw [okK_31 ok]
theorem okK_32 {h : am_H} (ok : am_okH h) : am_kd h 32 = some (.inr (0, 8)) := ok.kd 32
theorem okT_32 {h : am_H} (ok : am_okH h) : am_tc h 32 = some 0 := by unfold am_tc; rw [okK_32 ok]
theorem okL_32 {h : am_H} (ok : am_okH h) : am_len h 32 = 8 := by unfold am_len; rw [okK_32 ok]
theorem okK_33 {h : am_H} (ok : am_okH h) : am_kd h 33 = some (.inr (0, 8)) := ok.kd 33
theorem okT_33 {h : am_H} (ok : am_okH h) : am_tc h 33 = some 0 := by unfold am_tc; rw [okK_33 ok]
theorem okL_33 {h : am_H} (ok : am_okH h) : am_len h 33 = 8 := by unfold am_len; rw [okK_33 ok]
theorem okK_34 {h : am_H} (ok : am_okH h) : am_kd h 34 = some (.inr (0, 10)) := ok.kd 34
theorem okT_34 {h : am_H} (ok : am_okH h) : am_tc h 34 = some 0 := by unfold am_tc; rw [okK_34 ok]
theorem okL_34 {h : am_H} (ok : am_okH h) : am_len h 34 = 10 := by unfold am_len; rw [okK_34 ok]
theorem okK_35 {h : am_H} (ok : am_okH h) : am_kd h 35 = some (.inl 5) := ok.kd 35
theorem okR_35_1 {h : am_H} (ok : am_okH h) : h.2.2.1 35 1 = some 36 := ok.2 (35, 1, 36) (by decide +kernel) (by decide +kernel)
theorem okR_35_2 {h : am_H} (ok : am_okH h) : h.2.2.1 35 2 = some 37 := ok.2 (35, 2, 37) (by decide +kernel) (by decide +kernel)
theorem okR_35_3 {h : am_H} (ok : am_okH h) : h.2.2.1 35 3 = some 38 := ok.2 (35, 3, 38) (by decide +kernel) (by decide +kernel)
theorem okR_35_4 {h : am_H} (ok : am_okH h) : h.2.2.1 35 4 = some 39 := ok.2 (35, 4, 39) (by decide +kernel) (by decide +kernel)
theorem okK_36 {h : am_H} (ok : am_okH h) : am_kd h 36 = some (.inr (0, 8)) := ok.kd 36
theorem okT_36 {h : am_H} (ok : am_okH h) : am_tc h 36 = some 0 := by unfold am_tc; rw [okK_36 ok]
theorem okL_36 {h : am_H} (ok : am_okH h) : am_len h 36 = 8 := by unfold am_len; rw [okK_36 ok]
theorem okK_37 {h : am_H} (ok : am_okH h) : am_kd h 37 = some (.inr (0, 8)) := ok.kd 37
theorem okT_37 {h : am_H} (ok : am_okH h) : am_tc h 37 = some 0 := by unfold am_tc; rw [okK_37 ok]
theorem okL_37 {h : am_H} (ok : am_okH h) : am_len h 37 = 8 := by unfold am_len; rw [okK_37 ok]
theorem okK_38 {h : am_H} (ok : am_okH h) : am_kd h 38 = some (.inr (0, 8)) := ok.kd 38
theorem okT_38 {h : am_H} (ok : am_okH h) : am_tc h 38 = some 0 := by unfold am_tc; rw [okK_38 ok]
theorem okL_38 {h : am_H} (ok : am_okH h) : am_len h 38 = 8 := by unfold am_len; rw [okK_38 ok]
theorem okK_39 {h : am_H} (ok : am_okH h) : am_kd h 39 = some (.inr (0, 8)) := ok.kd 39
theorem okT_39 {h : am_H} (ok : am_okH h) : am_tc h 39 = some 0 := by unfold am_tc; rw [okK_39 ok]
theorem okL_39 {h : am_H} (ok : am_okH h) : am_len h 39 = 8 := by unfold am_len; rw [okK_39 ok]
theorem okK_40 {h : am_H} (ok : am_okH h) : am_kd h 40 = some (.inr (8, 3)) := ok.kd 40
theorem okT_40 {h : am_H} (ok : am_okH h) : am_tc h 40 = some 8 := by unfold am_tc; rw [okK_40 ok]
theorem okL_40 {h : am_H} (ok : am_okH h) : am_len h 40 = 3 := by unfold am_len; rw [okK_40 ok]
theorem okR_40_0 {h : am_H} (ok : am_okH h) : h.2.2.1 40 0 = some 41 := ok.2 (40, 0, 41) (by decide +kernel) (by decide +kernel)
theorem okR_40_1 {h : am_H} (ok : am_okH h) : h.2.2.1 40 1 = some 80 := ok.2 (40, 1, 80) (by decide +kernel) (by decide +kernel)
theorem okR_40_2 {h : am_H} (ok : am_okH h) : h.2.2.1 40 2 = some 119 := ok.2 (40, 2, 119) (by decide +kernel) (by decide +kernel)
theorem okK_41 {h : am_H} (ok : am_okH h) : am_kd h 41 = some (.inl 8) := ok.kd 41
theorem okR_41_0 {h : am_H} (ok : am_okH h) : h.2.2.1 41 0 = some 42 := ok.2 (41, 0, 42) (by decide +kernel) (by decide +kernel)
theorem okR_41_4 {h : am_H} (ok : am_okH h) : h.2.2.1 41 4 = some 43 := ok.2 (41, 4, 43) (by decide +kernel) (by decide +kernel)
theorem okR_41_5 {h : am_H} (ok : am_okH h) : h.2.2.1 41 5 = some 44 := ok.2 (41, 5, 44) (by decide +kernel) (by decide +kernel)
theorem okR_41_6 {h : am_H} (ok : am_okH h) : h.2.2.1 41 6 = some 45 := ok.2 (41, 6, 45) (by decide +kernel) (by decide +kernel)
theorem okR_41_7 {h : am_H} (ok : am_okH h) : h.2.2.1 41 7 = some 46 := ok.2 (41, 7, 46) (by decide +kernel) (by decide +kernel)
theorem okR_41_8 {h : am_H} (ok : am_okH h) : h.2.2.1 41 8 = some 47 := ok.2 (41, 8, 47) (by decide +kernel) (by decide +kernel)
theorem okK_42 {h : am_H} (ok : am_okH h) : am_kd h 42 = some (.inr (1, 600)) := ok.kd 42
theorem okT_42 {h : am_H} (ok : am_okH h) : am_tc h 42 = some 1 := by unfold am_tc; rw [okK_42 ok]
theorem okL_42 {h : am_H} (ok : am_okH h) : am_len h 42 = 600 := by unfold am_len; rw [okK_42 ok]
theorem okK_43 {h : am_H} (ok : am_okH h) : am_kd h 43 = some (.inr (0, 4)) := ok.kd 43
theorem okT_43 {h : am_H} (ok : am_okH h) : am_tc h 43 = some 0 := by unfold am_tc; rw [okK_43 ok]
theorem okL_43 {h : am_H} (ok : am_okH h) : am_len h 43 = 4 := by unfold am_len; rw [okK_43 ok]
theorem okK_44 {h : am_H} (ok : am_okH h) : am_kd h 44 = some (.inr (4, 2)) := ok.kd 44
theorem okT_44 {h : am_H} (ok : am_okH h) : am_tc h 44 = some 4 := by unfold am_tc; rw [okK_44 ok]
theorem okL_44 {h : am_H} (ok : am_okH h) : am_len h 44 = 2 := by unfold am_len; rw [okK_44 ok]
theorem okR_44_0 {h : am_H} (ok : am_okH h) : h.2.2.1 44 0 = some 48 := ok.2 (44, 0, 48) (by decide +kernel) (by decide +kernel)
theorem okR_44_1 {h : am_H} (ok : am_okH h) : h.2.2.1 44 1 = some 64 := ok.2 (44, 1, 64) (by decide +kernel) (by decide +kernel)
theorem okK_45 {h : am_H} (ok : am_okH h) : am_kd h 45 = some (.inr (5, 2)) := ok.kd 45
theorem okT_45 {h : am_H} (ok : am_okH h) : am_tc h 45 = some 5 := by unfold am_tc; rw [okK_45 ok]
theorem okL_45 {h : am_H} (ok : am_okH h) : am_len h 45 = 2 := by unfold am_len; rw [okK_45 ok]
theorem okR_45_0 {h : am_H} (ok : am_okH h) : h.2.2.1 45 0 = some 51 := ok.2 (45, 0, 51) (by decide +kernel) (by decide +kernel)
theorem okR_45_1 {h : am_H} (ok : am_okH h) : h.2.2.1 45 1 = some 67 := ok.2 (45, 1, 67) (by decide +kernel) (by decide +kernel)
theorem okK_46 {h : am_H} (ok : am_okH h) : am_kd h 46 = some (.inr (6, 2)) := ok.kd 46
theorem okT_46 {h : am_H} (ok : am_okH h) : am_tc h 46 = some 6 := by unfold am_tc; rw [okK_46 ok]
theorem okL_46 {h : am_H} (ok : am_okH h) : am_len h 46 = 2 := by unfold am_len; rw [okK_46 ok]
theorem okR_46_0 {h : am_H} (ok : am_okH h) : h.2.2.1 46 0 = some 53 := ok.2 (46, 0, 53) (by decide +kernel) (by decide +kernel)
theorem okR_46_1 {h : am_H} (ok : am_okH h) : h.2.2.1 46 1 = some 69 := ok.2 (46, 1, 69) (by decide +kernel) (by decide +kernel)
theorem okK_47 {h : am_H} (ok : am_okH h) : am_kd h 47 = some (.inr (7, 2)) := ok.kd 47
theorem okT_47 {h : am_H} (ok : am_okH h) : am_tc h 47 = some 7 := by unfold am_tc; rw [okK_47 ok]
theorem okL_47 {h : am_H} (ok : am_okH h) : am_len h 47 = 2 := by unfold am_len; rw [okK_47 ok]
theorem okR_47_0 {h : am_H} (ok : am_okH h) : h.2.2.1 47 0 = some 59 := ok.2 (47, 0, 59) (by decide +kernel) (by decide +kernel)
theorem okR_47_1 {h : am_H} (ok : am_okH h) : h.2.2.1 47 1 = some 75 := ok.2 (47, 1, 75) (by decide +kernel) (by decide +kernel)
theorem okK_48 {h : am_H} (ok : am_okH h) : am_kd h 48 = some (.inl 3) := ok.kd 48
theorem okR_48_7 {h : am_H} (ok : am_okH h) : h.2.2.1 48 7 = some 49 := ok.2 (48, 7, 49) (by decide +kernel) (by decide +kernel)
theorem okR_48_8 {h : am_H} (ok : am_okH h) : h.2.2.1 48 8 = some 50 := ok.2 (48, 8, 50) (by decide +kernel) (by decide +kernel)
theorem okK_49 {h : am_H} (ok : am_okH h) : am_kd h 49 = some (.inr (0, 6)) := ok.kd 49
theorem okT_49 {h : am_H} (ok : am_okH h) : am_tc h 49 = some 0 := by unfold am_tc; rw [okK_49 ok]
theorem okL_49 {h : am_H} (ok : am_okH h) : am_len h 49 = 6 := by unfold am_len; rw [okK_49 ok]
theorem okK_50 {h : am_H} (ok : am_okH h) : am_kd h 50 = some (.inr (0, 6)) := ok.kd 50
theorem okT_50 {h : am_H} (ok : am_okH h) : am_tc h 50 = some 0 := by unfold am_tc; rw [okK_50 ok]
theorem okL_50 {h : am_H} (ok : am_okH h) : am_len h 50 = 6 := by unfold am_len; rw [okK_50 ok]
theorem okK_51 {h : am_H} (ok : am_okH h) : am_kd h 51 = some (.inl 2) := ok.kd 51
theorem okR_51_1 {h : am_H} (ok : am_okH h) : h.2.2.1 51 1 = some 52 := ok.2 (51, 1, 52) (by decide +kernel) (by decide +kernel)
theorem okK_52 {h : am_H} (ok : am_okH h) : am_kd h 52 = some (.inr (0, 40)) := ok.kd 52
theorem okT_52 {h : am_H} (ok : am_okH h) : am_tc h 52 = some 0 := by unfold am_tc; rw [okK_52 ok]
theorem okL_52 {h : am_H} (ok : am_okH h) : am_len h 52 = 40 := by unfold am_len; rw [okK_52 ok]
theorem okK_53 {h : am_H} (ok : am_okH h) : am_kd h 53 = some (.inl 0) := ok.kd 53
theorem okR_53_3 {h : am_H} (ok : am_okH h) : h.2.2.1 53 3 = some 54 := ok.2 (53, 3, 54) (by decide +kernel) (by decide +kernel)
theorem okR_53_4 {h : am_H} (ok : am_okH h) : h.2.2.1 53 4 = some 55 := ok.2 (53, 4, 55) (by decide +kernel) (by decide +kernel)
theorem okR_53_5 {h : am_H} (ok : am_okH h) : h.2.2.1 53 5 = some 56 := ok.2 (53, 5, 56) (by decide +kernel) (by decide +kernel)
theorem okR_53_6 {h : am_H} (ok : am_okH h) : h.2.2.1 53 6 = some 57 := ok.2 (53, 6, 57) (by decide +kernel) (by decide +kernel)
theorem okR_53_7 {h : am_H} (ok : am_okH h) : h.2.2.1 53 7 = some 58 := ok.2 (53, 7, 58) (by decide +kernel) (by decide +kernel)
theorem okK_54 {h : am_H} (ok : am_okH h) : am_kd h 54 = some (.inr (0, 5)) := ok.kd 54
theorem okT_54 {h : am_H} (ok : am_okH h) : am_tc h 54 = some 0 := by unfold am_tc; rw [okK_54 ok]
theorem okL_54 {h : am_H} (ok : am_okH h) : am_len h 54 = 5 := by unfold am_len; rw [okK_54 ok]
theorem okK_55 {h : am_H} (ok : am_okH h) : am_kd h 55 = some (.inr (0, 5)) := ok.kd 55
theorem okT_55 {h : am_H} (ok : am_okH h) : am_tc h 55 = some 0 := by unfold am_tc; rw [okK_55 ok]
theorem okL_55 {h : am_H} (ok : am_okH h) : am_len h 55 = 5 := by unfold am_len; rw [okK_55 ok]
theorem okK_56 {h : am_H} (ok : am_okH h) : am_kd h 56 = some (.inr (0, 8)) := ok.kd 56
theorem okT_56 {h : am_H} (ok : am_okH h) : am_tc h 56 = some 0 := by unfold am_tc; rw [okK_56 ok]
theorem okL_56 {h : am_H} (ok : am_okH h) : am_len h 56 = 8 := by unfold am_len; rw [okK_56 ok]
theorem okK_57 {h : am_H} (ok : am_okH h) : am_kd h 57 = some (.inr (0, 8)) := ok.kd 57
theorem okT_57 {h : am_H} (ok : am_okH h) : am_tc h 57 = some 0 := by unfold am_tc; rw [okK_57 ok]
theorem okL_57 {h : am_H} (ok : am_okH h) : am_len h 57 = 8 := by unfold am_len; rw [okK_57 ok]
theorem okK_58 {h : am_H} (ok : am_okH h) : am_kd h 58 = some (.inr (0, 10)) := ok.kd 58
theorem okT_58 {h : am_H} (ok : am_okH h) : am_tc h 58 = some 0 := by unfold am_tc; rw [okK_58 ok]
theorem okL_58 {h : am_H} (ok : am_okH h) : am_len h 58 = 10 := by unfold am_len; rw [okK_58 ok]
theorem okK_59 {h : am_H} (ok : am_okH h) : am_kd h 59 = some (.inl 5) := ok.kd 59
theorem okR_59_1 {h : am_H} (ok : am_okH h) : h.2.2.1 59 1 = some 60 := ok.2 (59, 1, 60) (by decide +kernel) (by decide +kernel)
theorem okR_59_2 {h : am_H} (ok : am_okH h) : h.2.2.1 59 2 = some 61 := ok.2 (59, 2, 61) (by decide +kernel) (by decide +kernel)
theorem okR_59_3 {h : am_H} (ok : am_okH h) : h.2.2.1 59 3 = some 62 := ok.2 (59, 3, 62) (by decide +kernel) (by decide +kernel)
theorem okR_59_4 {h : am_H} (ok : am_okH h) : h.2.2.1 59 4 = some 63 := ok.2 (59, 4, 63) (by decide +kernel) (by decide +kernel)
theorem okK_60 {h : am_H} (ok : am_okH h) : am_kd h 60 = some (.inr (0, 8)) := ok.kd 60
theorem okT_60 {h : am_H} (ok : am_okH h) : am_tc h 60 = some 0 := by unfold am_tc; rw [okK_60 ok]
theorem okL_60 {h : am_H} (ok : am_okH h) : am_len h 60 = 8 := by unfold am_len; rw [okK_60 ok]
theorem okK_61 {h : am_H} (ok : am_okH h) : am_kd h 61 = some (.inr (0, 8)) := ok.kd 61
theorem okT_61 {h : am_H} (ok : am_okH h) : am_tc h 61 = some 0 := by unfold am_tc; rw [okK_61 ok]
theorem okL_61 {h : am_H} (ok : am_okH h) : am_len h 61 = 8 := by unfold am_len; rw [okK_61 ok]
theorem okK_62 {h : am_H} (ok : am_okH h) : am_kd h 62 = some (.inr (0, 8)) := ok.kd 62
theorem okT_62 {h : am_H} (ok : am_okH h) : am_tc h 62 = some 0 := by unfold am_tc; rw [okK_62 ok]
theorem okL_62 {h : am_H} (ok : am_okH h) : am_len h 62 = 8 := by unfold am_len; rw [okK_62 ok]
theorem okK_63 {h : am_H} (ok : am_okH h) : am_kd h 63 = some (.inr (0, 8)) := ok.kd 63
theorem okT_63 {h : am_H} (ok : am_okH h) : am_tc h 63 = some 0 := by unfold am_tc; rw [okK_63 ok]
theorem okL_63 {h : am_H} (ok : am_okH h) : am_len h 63 = 8 := by unfold am_len; rw [okK_63 ok]
theorem okK_64 {h : am_H} (ok : am_okH h) : am_kd h 64 = some (.inl 3) := ok.kd 64
theorem okR_64_7 {h : am_H} (ok : am_okH h) : h.2.2.1 64 7 = some 65 := ok.2 (64, 7, 65) (by decide +kernel) (by decide +kernel)
theorem okR_64_8 {h : am_H} (ok : am_okH h) : h.2.2.1 64 8 = some 66 := ok.2 (64, 8, 66) (by decide +kernel) (by decide +kernel)
theorem okK_65 {h : am_H} (ok : am_okH h) : am_kd h 65 = some (.inr (0, 6)) := ok.kd 65
theorem okT_65 {h : am_H} (ok : am_okH h) : am_tc h 65 = some 0 := by unfold am_tc; rw [okK_65 ok]
theorem okL_65 {h : am_H} (ok : am_okH h) : am_len h 65 = 6 := by unfold am_len; rw [okK_65 ok]
theorem okK_66 {h : am_H} (ok : am_okH h) : am_kd h 66 = some (.inr (0, 6)) := ok.kd 66
theorem okT_66 {h : am_H} (ok : am_okH h) : am_tc h 66 = some 0 := by unfold am_tc; rw [okK_66 ok]
theorem okL_66 {h : am_H} (ok : am_okH h) : am_len h 66 = 6 := by unfold am_len; rw [okK_66 ok]
theorem okK_67 {h : am_H} (ok : am_okH h) : am_kd h 67 = some (.inl 2) := ok.kd 67
theorem okR_67_1 {h : am_H} (ok : am_okH h) : h.2.2.1 67 1 = some 68 := ok.2 (67, 1, 68) (by decide +kernel) (by decide +kernel)
theorem okK_68 {h : am_H} (ok : am_okH h) : am_kd h 68 = some (.inr (0, 40)) := ok.kd 68
theorem okT_68 {h : am_H} (ok : am_okH h) : am_tc h 68 = some 0 := by unfold am_tc; rw [okK_68 ok]
theorem okL_68 {h : am_H} (ok : am_okH h) : am_len h 68 = 40 := by unfold am_len; rw [okK_68 ok]
theorem okK_69 {h : am_H} (ok : am_okH h) : am_kd h 69 = some (.inl 0) := ok.kd 69
theorem okR_69_3 {h : am_H} (ok : am_okH h) : h.2.2.1 69 3 = some 70 := ok.2 (69, 3, 70) (by decide +kernel) (by decide +kernel)
theorem okR_69_4 {h : am_H} (ok : am_okH h) : h.2.2.1 69 4 = some 71 := ok.2 (69, 4, 71) (by decide +kernel) (by decide +kernel)
theorem okR_69_5 {h : am_H} (ok : am_okH h) : h.2.2.1 69 5 = some 72 := ok.2 (69, 5, 72) (by decide +kernel) (by decide +kernel)
theorem okR_69_6 {h : am_H} (ok : am_okH h) : h.2.2.1 69 6 = some 73 := ok.2 (69, 6, 73) (by decide +kernel) (by decide +kernel)
theorem okR_69_7 {h : am_H} (ok : am_okH h) : h.2.2.1 69 7 = some 74 := ok.2 (69, 7, 74) (by decide +kernel) (by decide +kernel)
theorem okK_70 {h : am_H} (ok : am_okH h) : am_kd h 70 = some (.inr (0, 5)) := ok.kd 70
theorem okT_70 {h : am_H} (ok : am_okH h) : am_tc h 70 = some 0 := by unfold am_tc; rw [okK_70 ok]
theorem okL_70 {h : am_H} (ok : am_okH h) : am_len h 70 = 5 := by unfold am_len; rw [okK_70 ok]
theorem okK_71 {h : am_H} (ok : am_okH h) : am_kd h 71 = some (.inr (0, 5)) := ok.kd 71
theorem okT_71 {h : am_H} (ok : am_okH h) : am_tc h 71 = some 0 := by unfold am_tc; rw [okK_71 ok]
theorem okL_71 {h : am_H} (ok : am_okH h) : am_len h 71 = 5 := by unfold am_len; rw [okK_71 ok]
theorem okK_72 {h : am_H} (ok : am_okH h) : am_kd h 72 = some (.inr (0, 8)) := ok.kd 72
theorem okT_72 {h : am_H} (ok : am_okH h) : am_tc h 72 = some 0 := by unfold am_tc; rw [okK_72 ok]
theorem okL_72 {h : am_H} (ok : am_okH h) : am_len h 72 = 8 := by unfold am_len; rw [okK_72 ok]
theorem okK_73 {h : am_H} (ok : am_okH h) : am_kd h 73 = some (.inr (0, 8)) := ok.kd 73
theorem okT_73 {h : am_H} (ok : am_okH h) : am_tc h 73 = some 0 := by unfold am_tc; rw [okK_73 ok]
theorem okL_73 {h : am_H} (ok : am_okH h) : am_len h 73 = 8 := by unfold am_len; rw [okK_73 ok]
theorem okK_74 {h : am_H} (ok : am_okH h) : am_kd h 74 = some (.inr (0, 10)) := ok.kd 74
theorem okT_74 {h : am_H} (ok : am_okH h) : am_tc h 74 = some 0 := by unfold am_tc; rw [okK_74 ok]
theorem okL_74 {h : am_H} (ok : am_okH h) : am_len h 74 = 10 := by unfold am_len; rw [okK_74 ok]
theorem okK_75 {h : am_H} (ok : am_okH h) : am_kd h 75 = some (.inl 5) := ok.kd 75
theorem okR_75_1 {h : am_H} (ok : am_okH h) : h.2.2.1 75 1 = some 76 := ok.2 (75, 1, 76) (by decide +kernel) (by decide +kernel)
theorem okR_75_2 {h : am_H} (ok : am_okH h) : h.2.2.1 75 2 = some 77 := ok.2 (75, 2, 77) (by decide +kernel) (by decide +kernel)
theorem okR_75_3 {h : am_H} (ok : am_okH h) : h.2.2.1 75 3 = some 78 := ok.2 (75, 3, 78) (by decide +kernel) (by decide +kernel)
theorem okR_75_4 {h : am_H} (ok : am_okH h) : h.2.2.1 75 4 = some 79 := ok.2 (75, 4, 79) (by decide +kernel) (by decide +kernel)
theorem okK_76 {h : am_H} (ok : am_okH h) : am_kd h 76 = some (.inr (0, 8)) := ok.kd 76
theorem okT_76 {h : am_H} (ok : am_okH h) : am_tc h 76 = some 0 := by unfold am_tc; rw [okK_76 ok]
theorem okL_76 {h : am_H} (ok : am_okH h) : am_len h 76 = 8 := by unfold am_len; rw [okK_76 ok]
theorem okK_77 {h : am_H} (ok : am_okH h) : am_kd h 77 = some (.inr (0, 8)) := ok.kd 77
theorem okT_77 {h : am_H} (ok : am_okH h) : am_tc h 77 = some 0 := by unfold am_tc; rw [okK_77 ok]
theorem okL_77 {h : am_H} (ok : am_okH h) : am_len h 77 = 8 := by unfold am_len; rw [okK_77 ok]
theorem okK_78 {h : am_H} (ok : am_okH h) : am_kd h 78 = some (.inr (0, 8)) := ok.kd 78
theorem okT_78 {h : am_H} (ok : am_okH h) : am_tc h 78 = some 0 := by unfold am_tc; rw [okK_78 ok]
theorem okL_78 {h : am_H} (ok : am_okH h) : am_len h 78 = 8 := by unfold am_len; rw [okK_78 ok]
theorem okK_79 {h : am_H} (ok : am_okH h) : am_kd h 79 = some (.inr (0, 8)) := ok.kd 79
theorem okT_79 {h : am_H} (ok : am_okH h) : am_tc h 79 = some 0 := by unfold am_tc; rw [okK_79 ok]
theorem okL_79 {h : am_H} (ok : am_okH h) : am_len h 79 = 8 := by unfold am_len; rw [okK_79 ok]
theorem okK_80 {h : am_H} (ok : am_okH h) : am_kd h 80 = some (.inl 8) := ok.kd 80
theorem okR_80_0 {h : am_H} (ok : am_okH h) : h.2.2.1 80 0 = some 81 := ok.2 (80, 0, 81) (by decide +kernel) (by decide +kernel)
theorem okR_80_4 {h : am_H} (ok : am_okH h) : h.2.2.1 80 4 = some 82 := ok.2 (80, 4, 82) (by decide +kernel) (by decide +kernel)
theorem okR_80_5 {h : am_H} (ok : am_okH h) : h.2.2.1 80 5 = some 83 := ok.2 (80, 5, 83) (by decide +kernel) (by decide +kernel)
theorem okR_80_6 {h : am_H} (ok : am_okH h) : h.2.2.1 80 6 = some 84 := ok.2 (80, 6, 84) (by decide +kernel) (by decide +kernel)
theorem okR_80_7 {h : am_H} (ok : am_okH h) : h.2.2.1 80 7 = some 85 := ok.2 (80, 7, 85) (by decide +kernel) (by decide +kernel)
theorem okR_80_8 {h : am_H} (ok : am_okH h) : h.2.2.1 80 8 = some 86 := ok.2 (80, 8, 86) (by decide +kernel) (by decide +kernel)
theorem okK_81 {h : am_H} (ok : am_okH h) : am_kd h 81 = some (.inr (1, 600)) := ok.kd 81
theorem okT_81 {h : am_H} (ok : am_okH h) : am_tc h 81 = some 1 := by unfold am_tc; rw [okK_81 ok]
theorem okL_81 {h : am_H} (ok : am_okH h) : am_len h 81 = 600 := by unfold am_len; rw [okK_81 ok]
theorem okK_82 {h : am_H} (ok : am_okH h) : am_kd h 82 = some (.inr (0, 4)) := ok.kd 82
theorem okT_82 {h : am_H} (ok : am_okH h) : am_tc h 82 = some 0 := by unfold am_tc; rw [okK_82 ok]
theorem okL_82 {h : am_H} (ok : am_okH h) : am_len h 82 = 4 := by unfold am_len; rw [okK_82 ok]
theorem okK_83 {h : am_H} (ok : am_okH h) : am_kd h 83 = some (.inr (4, 2)) := ok.kd 83
theorem okT_83 {h : am_H} (ok : am_okH h) : am_tc h 83 = some 4 := by unfold am_tc; rw [okK_83 ok]
theorem okL_83 {h : am_H} (ok : am_okH h) : am_len h 83 = 2 := by unfold am_len; rw [okK_83 ok]
theorem okR_83_0 {h : am_H} (ok : am_okH h) : h.2.2.1 83 0 = some 87 := ok.2 (83, 0, 87) (by decide +kernel) (by decide +kernel)
theorem okR_83_1 {h : am_H} (ok : am_okH h) : h.2.2.1 83 1 = some 103 := ok.2 (83, 1, 103) (by decide +kernel) (by decide +kernel)
theorem okK_84 {h : am_H} (ok : am_okH h) : am_kd h 84 = some (.inr (5, 2)) := ok.kd 84
theorem okT_84 {h : am_H} (ok : am_okH h) : am_tc h 84 = some 5 := by unfold am_tc; rw [okK_84 ok]
theorem okL_84 {h : am_H} (ok : am_okH h) : am_len h 84 = 2 := by unfold am_len; rw [okK_84 ok]
theorem okR_84_0 {h : am_H} (ok : am_okH h) : h.2.2.1 84 0 = some 90 := ok.2 (84, 0, 90) (by decide +kernel) (by decide +kernel)
theorem okR_84_1 {h : am_H} (ok : am_okH h) : h.2.2.1 84 1 = some 106 := ok.2 (84, 1, 106) (by decide +kernel) (by decide +kernel)
theorem okK_85 {h : am_H} (ok : am_okH h) : am_kd h 85 = some (.inr (6, 2)) := ok.kd 85
theorem okT_85 {h : am_H} (ok : am_okH h) : am_tc h 85 = some 6 := by unfold am_tc; rw [okK_85 ok]
theorem okL_85 {h : am_H} (ok : am_okH h) : am_len h 85 = 2 := by unfold am_len; rw [okK_85 ok]
theorem okR_85_0 {h : am_H} (ok : am_okH h) : h.2.2.1 85 0 = some 92 := ok.2 (85, 0, 92) (by decide +kernel) (by decide +kernel)
theorem okR_85_1 {h : am_H} (ok : am_okH h) : h.2.2.1 85 1 = some 108 := ok.2 (85, 1, 108) (by decide +kernel) (by decide +kernel)
theorem okK_86 {h : am_H} (ok : am_okH h) : am_kd h 86 = some (.inr (7, 2)) := ok.kd 86
theorem okT_86 {h : am_H} (ok : am_okH h) : am_tc h 86 = some 7 := by unfold am_tc; rw [okK_86 ok]
theorem okL_86 {h : am_H} (ok : am_okH h) : am_len h 86 = 2 := by unfold am_len; rw [okK_86 ok]
theorem okR_86_0 {h : am_H} (ok : am_okH h) : h.2.2.1 86 0 = some 98 := ok.2 (86, 0, 98) (by decide +kernel) (by decide +kernel)
theorem okR_86_1 {h : am_H} (ok : am_okH h) : h.2.2.1 86 1 = some 114 := ok.2 (86, 1, 114) (by decide +kernel) (by decide +kernel)
theorem okK_87 {h : am_H} (ok : am_okH h) : am_kd h 87 = some (.inl 3) := ok.kd 87
theorem okR_87_7 {h : am_H} (ok : am_okH h) : h.2.2.1 87 7 = some 88 := ok.2 (87, 7, 88) (by decide +kernel) (by decide +kernel)
theorem okR_87_8 {h : am_H} (ok : am_okH h) : h.2.2.1 87 8 = some 89 := ok.2 (87, 8, 89) (by decide +kernel) (by decide +kernel)
theorem okK_88 {h : am_H} (ok : am_okH h) : am_kd h 88 = some (.inr (0, 6)) := ok.kd 88
theorem okT_88 {h : am_H} (ok : am_okH h) : am_tc h 88 = some 0 := by unfold am_tc; rw [okK_88 ok]
theorem okL_88 {h : am_H} (ok : am_okH h) : am_len h 88 = 6 := by unfold am_len; rw [okK_88 ok]
theorem okK_89 {h : am_H} (ok : am_okH h) : am_kd h 89 = some (.inr (0, 6)) := ok.kd 89
theorem okT_89 {h : am_H} (ok : am_okH h) : am_tc h 89 = some 0 := by unfold am_tc; rw [okK_89 ok]
theorem okL_89 {h : am_H} (ok : am_okH h) : am_len h 89 = 6 := by unfold am_len; rw [okK_89 ok]
theorem okK_90 {h : am_H} (ok : am_okH h) : am_kd h 90 = some (.inl 2) := ok.kd 90
theorem okR_90_1 {h : am_H} (ok : am_okH h) : h.2.2.1 90 1 = some 91 := ok.2 (90, 1, 91) (by decide +kernel) (by decide +kernel)
theorem okK_91 {h : am_H} (ok : am_okH h) : am_kd h 91 = some (.inr (0, 40)) := ok.kd 91
theorem okT_91 {h : am_H} (ok : am_okH h) : am_tc h 91 = some 0 := by unfold am_tc; rw [okK_91 ok]
theorem okL_91 {h : am_H} (ok : am_okH h) : am_len h 91 = 40 := by unfold am_len; rw [okK_91 ok]
theorem okK_92 {h : am_H} (ok : am_okH h) : am_kd h 92 = some (.inl 0) := ok.kd 92
theorem okR_92_3 {h : am_H} (ok : am_okH h) : h.2.2.1 92 3 = some 93 := ok.2 (92, 3, 93) (by decide +kernel) (by decide +kernel)
theorem okR_92_4 {h : am_H} (ok : am_okH h) : h.2.2.1 92 4 = some 94 := ok.2 (92, 4, 94) (by decide +kernel) (by decide +kernel)
theorem okR_92_5 {h : am_H} (ok : am_okH h) : h.2.2.1 92 5 = some 95 := ok.2 (92, 5, 95) (by decide +kernel) (by decide +kernel)
theorem okR_92_6 {h : am_H} (ok : am_okH h) : h.2.2.1 92 6 = some 96 := ok.2 (92, 6, 96) (by decide +kernel) (by decide +kernel)
theorem okR_92_7 {h : am_H} (ok : am_okH h) : h.2.2.1 92 7 = some 97 := ok.2 (92, 7, 97) (by decide +kernel) (by decide +kernel)
theorem okK_93 {h : am_H} (ok : am_okH h) : am_kd h 93 = some (.inr (0, 5)) := ok.kd 93
theorem okT_93 {h : am_H} (ok : am_okH h) : am_tc h 93 = some 0 := by unfold am_tc; rw [okK_93 ok]
theorem okL_93 {h : am_H} (ok : am_okH h) : am_len h 93 = 5 := by unfold am_len; rw [okK_93 ok]
theorem okK_94 {h : am_H} (ok : am_okH h) : am_kd h 94 = some (.inr (0, 5)) := ok.kd 94
theorem okT_94 {h : am_H} (ok : am_okH h) : am_tc h 94 = some 0 := by unfold am_tc; rw [okK_94 ok]
theorem okL_94 {h : am_H} (ok : am_okH h) : am_len h 94 = 5 := by unfold am_len; rw [okK_94 ok]
theorem okK_95 {h : am_H} (ok : am_okH h) : am_kd h 95 = some (.inr (0, 8)) := ok.kd 95
theorem okT_95 {h : am_H} (ok : am_okH h) : am_tc h 95 = some 0 := by unfold am_tc; rw [okK_95 ok]
theorem okL_95 {h : am_H} (ok : am_okH h) : am_len h 95 = 8 := by unfold am_len; rw [okK_95 ok]
theorem okK_96 {h : am_H} (ok : am_okH h) : am_kd h 96 = some (.inr (0, 8)) := ok.kd 96
theorem okT_96 {h : am_H} (ok : am_okH h) : am_tc h 96 = some 0 := by unfold am_tc; rw [okK_96 ok]
theorem okL_96 {h : am_H} (ok : am_okH h) : am_len h 96 = 8 := by unfold am_len; rw [okK_96 ok]
theorem okK_97 {h : am_H} (ok : am_okH h) : am_kd h 97 = some (.inr (0, 10)) := ok.kd 97
theorem okT_97 {h : am_H} (ok : am_okH h) : am_tc h 97 = some 0 := by unfold am_tc; rw [okK_97 ok]
theorem okL_97 {h : am_H} (ok : am_okH h) : am_len h 97 = 10 := by unfold am_len; rw [okK_97 ok]
theorem okK_98 {h : am_H} (ok : am_okH h) : am_kd h 98 = some (.inl 5) := ok.kd 98
theorem okR_98_1 {h : am_H} (ok : am_okH h) : h.2.2.1 98 1 = some 99 := ok.2 (98, 1, 99) (by decide +kernel) (by decide +kernel)
theorem okR_98_2 {h : am_H} (ok : am_okH h) : h.2.2.1 98 2 = some 100 := ok.2 (98, 2, 100) (by decide +kernel) (by decide +kernel)
theorem okR_98_3 {h : am_H} (ok : am_okH h) : h.2.2.1 98 3 = some 101 := ok.2 (98, 3, 101) (by decide +kernel) (by decide +kernel)
theorem okR_98_4 {h : am_H} (ok : am_okH h) : h.2.2.1 98 4 = some 102 := ok.2 (98, 4, 102) (by decide +kernel) (by decide +kernel)
theorem okK_99 {h : am_H} (ok : am_okH h) : am_kd h 99 = some (.inr (0, 8)) := ok.kd 99
theorem okT_99 {h : am_H} (ok : am_okH h) : am_tc h 99 = some 0 := by unfold am_tc; rw [okK_99 ok]
theorem okL_99 {h : am_H} (ok : am_okH h) : am_len h 99 = 8 := by unfold am_len; rw [okK_99 ok]
theorem okK_100 {h : am_H} (ok : am_okH h) : am_kd h 100 = some (.inr (0, 8)) := ok.kd 100
theorem okT_100 {h : am_H} (ok : am_okH h) : am_tc h 100 = some 0 := by unfold am_tc; rw [okK_100 ok]
theorem okL_100 {h : am_H} (ok : am_okH h) : am_len h 100 = 8 := by unfold am_len; rw [okK_100 ok]
theorem okK_101 {h : am_H} (ok : am_okH h) : am_kd h 101 = some (.inr (0, 8)) := ok.kd 101
theorem okT_101 {h : am_H} (ok : am_okH h) : am_tc h 101 = some 0 := by unfold am_tc; rw [okK_101 ok]
theorem okL_101 {h : am_H} (ok : am_okH h) : am_len h 101 = 8 := by unfold am_len; rw [okK_101 ok]
theorem okK_102 {h : am_H} (ok : am_okH h) : am_kd h 102 = some (.inr (0, 8)) := ok.kd 102
theorem okT_102 {h : am_H} (ok : am_okH h) : am_tc h 102 = some 0 := by unfold am_tc; rw [okK_102 ok]
theorem okL_102 {h : am_H} (ok : am_okH h) : am_len h 102 = 8 := by unfold am_len; rw [okK_102 ok]
theorem okK_103 {h : am_H} (ok : am_okH h) : am_kd h 103 = some (.inl 3) := ok.kd 103
theorem okR_103_7 {h : am_H} (ok : am_okH h) : h.2.2.1 103 7 = some 104 := ok.2 (103, 7, 104) (by decide +kernel) (by decide +kernel)
theorem okR_103_8 {h : am_H} (ok : am_okH h) : h.2.2.1 103 8 = some 105 := ok.2 (103, 8, 105) (by decide +kernel) (by decide +kernel)
theorem okK_104 {h : am_H} (ok : am_okH h) : am_kd h 104 = some (.inr (0, 6)) := ok.kd 104
theorem okT_104 {h : am_H} (ok : am_okH h) : am_tc h 104 = some 0 := by unfold am_tc; rw [okK_104 ok]
theorem okL_104 {h : am_H} (ok : am_okH h) : am_len h 104 = 6 := by unfold am_len; rw [okK_104 ok]
theorem okK_105 {h : am_H} (ok : am_okH h) : am_kd h 105 = some (.inr (0, 6)) := ok.kd 105
theorem okT_105 {h : am_H} (ok : am_okH h) : am_tc h 105 = some 0 := by unfold am_tc; rw [okK_105 ok]
theorem okL_105 {h : am_H} (ok : am_okH h) : am_len h 105 = 6 := by unfold am_len; rw [okK_105 ok]
theorem okK_106 {h : am_H} (ok : am_okH h) : am_kd h 106 = some (.inl 2) := ok.kd 106
theorem okR_106_1 {h : am_H} (ok : am_okH h) : h.2.2.1 106 1 = some 107 := ok.2 (106, 1, 107) (by decide +kernel) (by decide +kernel)
theorem okK_107 {h : am_H} (ok : am_okH h) : am_kd h 107 = some (.inr (0, 40)) := ok.kd 107
theorem okT_107 {h : am_H} (ok : am_okH h) : am_tc h 107 = some 0 := by unfold am_tc; rw [okK_107 ok]
theorem okL_107 {h : am_H} (ok : am_okH h) : am_len h 107 = 40 := by unfold am_len; rw [okK_107 ok]
theorem okK_108 {h : am_H} (ok : am_okH h) : am_kd h 108 = some (.inl 0) := ok.kd 108
theorem okR_108_3 {h : am_H} (ok : am_okH h) : h.2.2.1 108 3 = some 109 := ok.2 (108, 3, 109) (by decide +kernel) (by decide +kernel)
theorem okR_108_4 {h : am_H} (ok : am_okH h) : h.2.2.1 108 4 = some 110 := ok.2 (108, 4, 110) (by decide +kernel) (by decide +kernel)
theorem okR_108_5 {h : am_H} (ok : am_okH h) : h.2.2.1 108 5 = some 111 := ok.2 (108, 5, 111) (by decide +kernel) (by decide +kernel)
theorem okR_108_6 {h : am_H} (ok : am_okH h) : h.2.2.1 108 6 = some 112 := ok.2 (108, 6, 112) (by decide +kernel) (by decide +kernel)
theorem okR_108_7 {h : am_H} (ok : am_okH h) : h.2.2.1 108 7 = some 113 := ok.2 (108, 7, 113) (by decide +kernel) (by decide +kernel)
theorem okK_109 {h : am_H} (ok : am_okH h) : am_kd h 109 = some (.inr (0, 5)) := ok.kd 109
theorem okT_109 {h : am_H} (ok : am_okH h) : am_tc h 109 = some 0 := by unfold am_tc; rw [okK_109 ok]
theorem okL_109 {h : am_H} (ok : am_okH h) : am_len h 109 = 5 := by unfold am_len; rw [okK_109 ok]
theorem okK_110 {h : am_H} (ok : am_okH h) : am_kd h 110 = some (.inr (0, 5)) := ok.kd 110
theorem okT_110 {h : am_H} (ok : am_okH h) : am_tc h 110 = some 0 := by unfold am_tc; rw [okK_110 ok]
theorem okL_110 {h : am_H} (ok : am_okH h) : am_len h 110 = 5 := by unfold am_len; rw [okK_110 ok]
theorem okK_111 {h : am_H} (ok : am_okH h) : am_kd h 111 = some (.inr (0, 8)) := ok.kd 111
theorem okT_111 {h : am_H} (ok : am_okH h) : am_tc h 111 = some 0 := by unfold am_tc; rw [okK_111 ok]
theorem okL_111 {h : am_H} (ok : am_okH h) : am_len h 111 = 8 := by unfold am_len; rw [okK_111 ok]
theorem okK_112 {h : am_H} (ok : am_okH h) : am_kd h 112 = some (.inr (0, 8)) := ok.kd 112
theorem okT_112 {h : am_H} (ok : am_okH h) : am_tc h 112 = some 0 := by unfold am_tc; rw [okK_112 ok]
theorem okL_112 {h : am_H} (ok : am_okH h) : am_len h 112 = 8 := by unfold am_len; rw [okK_112 ok]
theorem okK_113 {h : am_H} (ok : am_okH h) : am_kd h 113 = some (.inr (0, 10)) := ok.kd 113
theorem okT_113 {h : am_H} (ok : am_okH h) : am_tc h 113 = some 0 := by unfold am_tc; rw [okK_113 ok]
theorem okL_113 {h : am_H} (ok : am_okH h) : am_len h 113 = 10 := by unfold am_len; rw [okK_113 ok]
theorem okK_114 {h : am_H} (ok : am_okH h) : am_kd h 114 = some (.inl 5) := ok.kd 114
theorem okR_114_1 {h : am_H} (ok : am_okH h) : h.2.2.1 114 1 = some 115 := ok.2 (114, 1, 115) (by decide +kernel) (by decide +kernel)
theorem okR_114_2 {h : am_H} (ok : am_okH h) : h.2.2.1 114 2 = some 116 := ok.2 (114, 2, 116) (by decide +kernel) (by decide +kernel)
theorem okR_114_3 {h : am_H} (ok : am_okH h) : h.2.2.1 114 3 = some 117 := ok.2 (114, 3, 117) (by decide +kernel) (by decide +kernel)
theorem okR_114_4 {h : am_H} (ok : am_okH h) : h.2.2.1 114 4 = some 118 := ok.2 (114, 4, 118) (by decide +kernel) (by decide +kernel)
theorem okK_115 {h : am_H} (ok : am_okH h) : am_kd h 115 = some (.inr (0, 8)) := ok.kd 115
theorem okT_115 {h : am_H} (ok : am_okH h) : am_tc h 115 = some 0 := by unfold am_tc; rw [okK_115 ok]
theorem okL_115 {h : am_H} (ok : am_okH h) : am_len h 115 = 8 := by unfold am_len; rw [okK_115 ok]
theorem okK_116 {h : am_H} (ok : am_okH h) : am_kd h 116 = some (.inr (0, 8)) := ok.kd 116
theorem okT_116 {h : am_H} (ok : am_okH h) : am_tc h 116 = some 0 := by unfold am_tc; rw [okK_116 ok]
theorem okL_116 {h : am_H} (ok : am_okH h) : am_len h 116 = 8 := by unfold am_len; rw [okK_116 ok]
theorem okK_117 {h : am_H} (ok : am_okH h) : am_kd h 117 = some (.inr (0, 8)) := ok.kd 117
theorem okT_117 {h : am_H} (ok : am_okH h) : am_tc h 117 = some 0 := by unfold am_tc; rw [okK_117 ok]
theorem okL_117 {h : am_H} (ok : am_okH h) : am_len h 117 = 8 := by unfold am_len; rw [okK_117 ok]
theorem okK_118 {h : am_H} (ok : am_okH h) : am_kd h 118 = some (.inr (0, 8)) := ok.kd 118
theorem okT_118 {h : am_H} (ok : am_okH h) : am_tc h 118 = some 0 := by unfold am_tc; rw [okK_118 ok]
theorem okL_118 {h : am_H} (ok : am_okH h) : am_len h 118 = 8 := by unfold am_len; rw [okK_118 ok]
theorem okK_119 {h : am_H} (ok : am_okH h) : am_kd h 119 = some (.inl 8) := ok.kd 119
theorem okR_119_0 {h : am_H} (ok : am_okH h) : h.2.2.1 119 0 = some 120 := ok.2 (119, 0, 120) (by decide +kernel) (by decide +kernel)
theorem okR_119_4 {h : am_H} (ok : am_okH h) : h.2.2.1 119 4 = some 121 := ok.2 (119, 4, 121) (by decide +kernel) (by decide +kernel)
theorem okR_119_5 {h : am_H} (ok : am_okH h) : h.2.2.1 119 5 = some 122 := ok.2 (119, 5, 122) (by decide +kernel) (by decide +kernel)
theorem okR_119_6 {h : am_H} (ok : am_okH h) : h.2.2.1 119 6 = some 123 := ok.2 (119, 6, 123) (by decide +kernel) (by decide +kernel)
theorem okR_119_7 {h : am_H} (ok : am_okH h) : h.2.2.1 119 7 = some 124 := ok.2 (119, 7, 124) (by decide +kernel) (by decide +kernel)
theorem okR_119_8 {h : am_H} (ok : am_okH h) : h.2.2.1 119 8 = some 125 := ok.2 (119, 8, 125) (by decide +kernel) (by decide +kernel)
theorem okK_120 {h : am_H} (ok : am_okH h) : am_kd h 120 = some (.inr (1, 600)) := ok.kd 120
theorem okT_120 {h : am_H} (ok : am_okH h) : am_tc h 120 = some 1 := by unfold am_tc; rw [okK_120 ok]
theorem okL_120 {h : am_H} (ok : am_okH h) : am_len h 120 = 600 := by unfold am_len; rw [okK_120 ok]
theorem okK_121 {h : am_H} (ok : am_okH h) : am_kd h 121 = some (.inr (0, 4)) := ok.kd 121
theorem okT_121 {h : am_H} (ok : am_okH h) : am_tc h 121 = some 0 := by unfold am_tc; rw [okK_121 ok]
theorem okL_121 {h : am_H} (ok : am_okH h) : am_len h 121 = 4 := by unfold am_len; rw [okK_121 ok]
theorem okK_122 {h : am_H} (ok : am_okH h) : am_kd h 122 = some (.inr (4, 2)) := ok.kd 122
theorem okT_122 {h : am_H} (ok : am_okH h) : am_tc h 122 = some 4 := by unfold am_tc; rw [okK_122 ok]
theorem okL_122 {h : am_H} (ok : am_okH h) : am_len h 122 = 2 := by unfold am_len; rw [okK_122 ok]
theorem okR_122_0 {h : am_H} (ok : am_okH h) : h.2.2.1 122 0 = some 126 := ok.2 (122, 0, 126) (by decide +kernel) (by decide +kernel)
theorem okR_122_1 {h : am_H} (ok : am_okH h) : h.2.2.1 122 1 = some 142 := ok.2 (122, 1, 142) (by decide +kernel) (by decide +kernel)
theorem okK_123 {h : am_H} (ok : am_okH h) : am_kd h 123 = some (.inr (5, 2)) := ok.kd 123
theorem okT_123 {h : am_H} (ok : am_okH h) : am_tc h 123 = some 5 := by unfold am_tc; rw [okK_123 ok]
theorem okL_123 {h : am_H} (ok : am_okH h) : am_len h 123 = 2 := by unfold am_len; rw [okK_123 ok]
theorem okR_123_0 {h : am_H} (ok : am_okH h) : h.2.2.1 123 0 = some 129 := ok.2 (123, 0, 129) (by decide +kernel) (by decide +kernel)
theorem okR_123_1 {h : am_H} (ok : am_okH h) : h.2.2.1 123 1 = some 145 := ok.2 (123, 1, 145) (by decide +kernel) (by decide +kernel)
theorem okK_124 {h : am_H} (ok : am_okH h) : am_kd h 124 = some (.inr (6, 2)) := ok.kd 124
theorem okT_124 {h : am_H} (ok : am_okH h) : am_tc h 124 = some 6 := by unfold am_tc; rw [okK_124 ok]
theorem okL_124 {h : am_H} (ok : am_okH h) : am_len h 124 = 2 := by unfold am_len; rw [okK_124 ok]
theorem okR_124_0 {h : am_H} (ok : am_okH h) : h.2.2.1 124 0 = some 131 := ok.2 (124, 0, 131) (by decide +kernel) (by decide +kernel)
theorem okR_124_1 {h : am_H} (ok : am_okH h) : h.2.2.1 124 1 = some 147 := ok.2 (124, 1, 147) (by decide +kernel) (by decide +kernel)
theorem okK_125 {h : am_H} (ok : am_okH h) : am_kd h 125 = some (.inr (7, 2)) := ok.kd 125
theorem okT_125 {h : am_H} (ok : am_okH h) : am_tc h 125 = some 7 := by unfold am_tc; rw [okK_125 ok]
theorem okL_125 {h : am_H} (ok : am_okH h) : am_len h 125 = 2 := by unfold am_len; rw [okK_125 ok]
theorem okR_125_0 {h : am_H} (ok : am_okH h) : h.2.2.1 125 0 = some 137 := ok.2 (125, 0, 137) (by decide +kernel) (by decide +kernel)
theorem okR_125_1 {h : am_H} (ok : am_okH h) : h.2.2.1 125 1 = some 153 := ok.2 (125, 1, 153) (by decide +kernel) (by decide +kernel)
theorem okK_126 {h : am_H} (ok : am_okH h) : am_kd h 126 = some (.inl 3) := ok.kd 126
theorem okR_126_7 {h : am_H} (ok : am_okH h) : h.2.2.1 126 7 = some 127 := ok.2 (126, 7, 127) (by decide +kernel) (by decide +kernel)
theorem okR_126_8 {h : am_H} (ok : am_okH h) : h.2.2.1 126 8 = some 128 := ok.2 (126, 8, 128) (by decide +kernel) (by decide +kernel)
theorem okK_127 {h : am_H} (ok : am_okH h) : am_kd h 127 = some (.inr (0, 6)) := ok.kd 127
theorem okT_127 {h : am_H} (ok : am_okH h) : am_tc h 127 = some 0 := by unfold am_tc; rw [okK_127 ok]
theorem okL_127 {h : am_H} (ok : am_okH h) : am_len h 127 = 6 := by unfold am_len; rw [okK_127 ok]
theorem okK_128 {h : am_H} (ok : am_okH h) : am_kd h 128 = some (.inr (0, 6)) := ok.kd 128
theorem okT_128 {h : am_H} (ok : am_okH h) : am_tc h 128 = some 0 := by unfold am_tc; rw [okK_128 ok]
theorem okL_128 {h : am_H} (ok : am_okH h) : am_len h 128 = 6 := by unfold am_len; rw [okK_128 ok]
theorem okK_129 {h : am_H} (ok : am_okH h) : am_kd h 129 = some (.inl 2) := ok.kd 129
theorem okR_129_1 {h : am_H} (ok : am_okH h) : h.2.2.1 129 1 = some 130 := ok.2 (129, 1, 130) (by decide +kernel) (by decide +kernel)
theorem okK_130 {h : am_H} (ok : am_okH h) : am_kd h 130 = some (.inr (0, 40)) := ok.kd 130
theorem okT_130 {h : am_H} (ok : am_okH h) : am_tc h 130 = some 0 := by unfold am_tc; rw [okK_130 ok]
theorem okL_130 {h : am_H} (ok : am_okH h) : am_len h 130 = 40 := by unfold am_len; rw [okK_130 ok]
theorem okK_131 {h : am_H} (ok : am_okH h) : am_kd h 131 = some (.inl 0) := ok.kd 131
theorem okR_131_3 {h : am_H} (ok : am_okH h) : h.2.2.1 131 3 = some 132 := ok.2 (131, 3, 132) (by decide +kernel) (by decide +kernel)
theorem okR_131_4 {h : am_H} (ok : am_okH h) : h.2.2.1 131 4 = some 133 := ok.2 (131, 4, 133) (by decide +kernel) (by decide +kernel)
theorem okR_131_5 {h : am_H} (ok : am_okH h) : h.2.2.1 131 5 = some 134 := ok.2 (131, 5, 134) (by decide +kernel) (by decide +kernel)
theorem okR_131_6 {h : am_H} (ok : am_okH h) : h.2.2.1 131 6 = some 135 := ok.2 (131, 6, 135) (by decide +kernel) (by decide +kernel)
theorem okR_131_7 {h : am_H} (ok : am_okH h) : h.2.2.1 131 7 = some 136 := ok.2 (131, 7, 136) (by decide +kernel) (by decide +kernel)
theorem okK_132 {h : am_H} (ok : am_okH h) : am_kd h 132 = some (.inr (0, 5)) := ok.kd 132
theorem okT_132 {h : am_H} (ok : am_okH h) : am_tc h 132 = some 0 := by unfold am_tc; rw [okK_132 ok]
theorem okL_132 {h : am_H} (ok : am_okH h) : am_len h 132 = 5 := by unfold am_len; rw [okK_132 ok]
theorem okK_133 {h : am_H} (ok : am_okH h) : am_kd h 133 = some (.inr (0, 5)) := ok.kd 133
theorem okT_133 {h : am_H} (ok : am_okH h) : am_tc h 133 = some 0 := by unfold am_tc; rw [okK_133 ok]
theorem okL_133 {h : am_H} (ok : am_okH h) : am_len h 133 = 5 := by unfold am_len; rw [okK_133 ok]
theorem okK_134 {h : am_H} (ok : am_okH h) : am_kd h 134 = some (.inr (0, 8)) := ok.kd 134
theorem okT_134 {h : am_H} (ok : am_okH h) : am_tc h 134 = some 0 := by unfold am_tc; rw [okK_134 ok]
theorem okL_134 {h : am_H} (ok : am_okH h) : am_len h 134 = 8 := by unfold am_len; rw [okK_134 ok]
theorem okK_135 {h : am_H} (ok : am_okH h) : am_kd h 135 = some (.inr (0, 8)) := ok.kd 135
theorem okT_135 {h : am_H} (ok : am_okH h) : am_tc h 135 = some 0 := by unfold am_tc; rw [okK_135 ok]
theorem okL_135 {h : am_H} (ok : am_okH h) : am_len h 135 = 8 := by unfold am_len; rw [okK_135 ok]
theorem okK_136 {h : am_H} (ok : am_okH h) : am_kd h 136 = some (.inr (0, 10)) := ok.kd 136
theorem okT_136 {h : am_H} (ok : am_okH h) : am_tc h 136 = some 0 := by unfold am_tc; rw [okK_136 ok]
theorem okL_136 {h : am_H} (ok : am_okH h) : am_len h 136 = 10 := by unfold am_len; rw [okK_136 ok]
theorem okK_137 {h : am_H} (ok : am_okH h) : am_kd h 137 = some (.inl 5) := ok.kd 137
theorem okR_137_1 {h : am_H} (ok : am_okH h) : h.2.2.1 137 1 = some 138 := ok.2 (137, 1, 138) (by decide +kernel) (by decide +kernel)
theorem okR_137_2 {h : am_H} (ok : am_okH h) : h.2.2.1 137 2 = some 139 := ok.2 (137, 2, 139) (by decide +kernel) (by decide +kernel)
theorem okR_137_3 {h : am_H} (ok : am_okH h) : h.2.2.1 137 3 = some 140 := ok.2 (137, 3, 140) (by decide +kernel) (by decide +kernel)
theorem okR_137_4 {h : am_H} (ok : am_okH h) : h.2.2.1 137 4 = some 141 := ok.2 (137, 4, 141) (by decide +kernel) (by decide +kernel)
theorem okK_138 {h : am_H} (ok : am_okH h) : am_kd h 138 = some (.inr (0, 8)) := ok.kd 138
theorem okT_138 {h : am_H} (ok : am_okH h) : am_tc h 138 = some 0 := by unfold am_tc; rw [okK_138 ok]
theorem okL_138 {h : am_H} (ok : am_okH h) : am_len h 138 = 8 := by unfold am_len; rw [okK_138 ok]
theorem okK_139 {h : am_H} (ok : am_okH h) : am_kd h 139 = some (.inr (0, 8)) := ok.kd 139
theorem okT_139 {h : am_H} (ok : am_okH h) : am_tc h 139 = some 0 := by unfold am_tc; rw [okK_139 ok]
theorem okL_139 {h : am_H} (ok : am_okH h) : am_len h 139 = 8 := by unfold am_len; rw [okK_139 ok]
theorem okK_140 {h : am_H} (ok : am_okH h) : am_kd h 140 = some (.inr (0, 8)) := ok.kd 140
theorem okT_140 {h : am_H} (ok : am_okH h) : am_tc h 140 = some 0 := by unfold am_tc; rw [okK_140 ok]
theorem okL_140 {h : am_H} (ok : am_okH h) : am_len h 140 = 8 := by unfold am_len; rw [okK_140 ok]
theorem okK_141 {h : am_H} (ok : am_okH h) : am_kd h 141 = some (.inr (0, 8)) := ok.kd 141
theorem okT_141 {h : am_H} (ok : am_okH h) : am_tc h 141 = some 0 := by unfold am_tc; rw [okK_141 ok]
theorem okL_141 {h : am_H} (ok : am_okH h) : am_len h 141 = 8 := by unfold am_len; rw [okK_141 ok]
theorem okK_142 {h : am_H} (ok : am_okH h) : am_kd h 142 = some (.inl 3) := ok.kd 142
theorem okR_142_7 {h : am_H} (ok : am_okH h) : h.2.2.1 142 7 = some 143 := ok.2 (142, 7, 143) (by decide +kernel) (by decide +kernel)
theorem okR_142_8 {h : am_H} (ok : am_okH h) : h.2.2.1 142 8 = some 144 := ok.2 (142, 8, 144) (by decide +kernel) (by decide +kernel)
theorem okK_143 {h : am_H} (ok : am_okH h) : am_kd h 143 = some (.inr (0, 6)) := ok.kd 143
theorem okT_143 {h : am_H} (ok : am_okH h) : am_tc h 143 = some 0 := by unfold am_tc; rw [okK_143 ok]
theorem okL_143 {h : am_H} (ok : am_okH h) : am_len h 143 = 6 := by unfold am_len; rw [okK_143 ok]
theorem okK_144 {h : am_H} (ok : am_okH h) : am_kd h 144 = some (.inr (0, 6)) := ok.kd 144
theorem okT_144 {h : am_H} (ok : am_okH h) : am_tc h 144 = some 0 := by unfold am_tc; rw [okK_144 ok]
theorem okL_144 {h : am_H} (ok : am_okH h) : am_len h 144 = 6 := by unfold am_len; rw [okK_144 ok]
theorem okK_145 {h : am_H} (ok : am_okH h) : am_kd h 145 = some (.inl 2) := ok.kd 145
theorem okR_145_1 {h : am_H} (ok : am_okH h) : h.2.2.1 145 1 = some 146 := ok.2 (145, 1, 146) (by decide +kernel) (by decide +kernel)
theorem okK_146 {h : am_H} (ok : am_okH h) : am_kd h 146 = some (.inr (0, 40)) := ok.kd 146
theorem okT_146 {h : am_H} (ok : am_okH h) : am_tc h 146 = some 0 := by unfold am_tc; rw [okK_146 ok]
theorem okL_146 {h : am_H} (ok : am_okH h) : am_len h 146 = 40 := by unfold am_len; rw [okK_146 ok]
theorem okK_147 {h : am_H} (ok : am_okH h) : am_kd h 147 = some (.inl 0) := ok.kd 147
theorem okR_147_3 {h : am_H} (ok : am_okH h) : h.2.2.1 147 3 = some 148 := ok.2 (147, 3, 148) (by decide +kernel) (by decide +kernel)
theorem okR_147_4 {h : am_H} (ok : am_okH h) : h.2.2.1 147 4 = some 149 := ok.2 (147, 4, 149) (by decide +kernel) (by decide +kernel)
theorem okR_147_5 {h : am_H} (ok : am_okH h) : h.2.2.1 147 5 = some 150 := ok.2 (147, 5, 150) (by decide +kernel) (by decide +kernel)
theorem okR_147_6 {h : am_H} (ok : am_okH h) : h.2.2.1 147 6 = some 151 := ok.2 (147, 6, 151) (by decide +kernel) (by decide +kernel)
theorem okR_147_7 {h : am_H} (ok : am_okH h) : h.2.2.1 147 7 = some 152 := ok.2 (147, 7, 152) (by decide +kernel) (by decide +kernel)
theorem okK_148 {h : am_H} (ok : am_okH h) : am_kd h 148 = some (.inr (0, 5)) := ok.kd 148
theorem okT_148 {h : am_H} (ok : am_okH h) : am_tc h 148 = some 0 := by unfold am_tc; rw [okK_148 ok]
theorem okL_148 {h : am_H} (ok : am_okH h) : am_len h 148 = 5 := by unfold am_len; rw [okK_148 ok]
theorem okK_149 {h : am_H} (ok : am_okH h) : am_kd h 149 = some (.inr (0, 5)) := ok.kd 149
theorem okT_149 {h : am_H} (ok : am_okH h) : am_tc h 149 = some 0 := by unfold am_tc; rw [okK_149 ok]
theorem okL_149 {h : am_H} (ok : am_okH h) : am_len h 149 = 5 := by unfold am_len; rw [okK_149 ok]
theorem okK_150 {h : am_H} (ok : am_okH h) : am_kd h 150 = some (.inr (0, 8)) := ok.kd 150
theorem okT_150 {h : am_H} (ok : am_okH h) : am_tc h 150 = some 0 := by unfold am_tc; rw [okK_150 ok]
theorem okL_150 {h : am_H} (ok : am_okH h) : am_len h 150 = 8 := by unfold am_len; rw [okK_150 ok]
theorem okK_151 {h : am_H} (ok : am_okH h) : am_kd h 151 = some (.inr (0, 8)) := ok.kd 151
theorem okT_151 {h : am_H} (ok : am_okH h) : am_tc h 151 = some 0 := by unfold am_tc; rw [okK_151 ok]
theorem okL_151 {h : am_H} (ok : am_okH h) : am_len h 151 = 8 := by unfold am_len; rw [okK_151 ok]
theorem okK_152 {h : am_H} (ok : am_okH h) : am_kd h 152 = some (.inr (0, 10)) := ok.kd 152
theorem okT_152 {h : am_H} (ok : am_okH h) : am_tc h 152 = some 0 := by unfold am_tc; rw [okK_152 ok]
theorem okL_152 {h : am_H} (ok : am_okH h) : am_len h 152 = 10 := by unfold am_len; rw [okK_152 ok]
theorem okK_153 {h : am_H} (ok : am_okH h) : am_kd h 153 = some (.inl 5) := ok.kd 153
theorem okR_153_1 {h : am_H} (ok : am_okH h) : h.2.2.1 153 1 = some 154 := ok.2 (153, 1, 154) (by decide +kernel) (by decide +kernel)
theorem okR_153_2 {h : am_H} (ok : am_okH h) : h.2.2.1 153 2 = some 155 := ok.2 (153, 2, 155) (by decide +kernel) (by decide +kernel)
theorem okR_153_3 {h : am_H} (ok : am_okH h) : h.2.2.1 153 3 = some 156 := ok.2 (153, 3, 156) (by decide +kernel) (by decide +kernel)
theorem okR_153_4 {h : am_H} (ok : am_okH h) : h.2.2.1 153 4 = some 157 := ok.2 (153, 4, 157) (by decide +kernel) (by decide +kernel)
theorem okK_154 {h : am_H} (ok : am_okH h) : am_kd h 154 = some (.inr (0, 8)) := ok.kd 154
theorem okT_154 {h : am_H} (ok : am_okH h) : am_tc h 154 = some 0 := by unfold am_tc; rw [okK_154 ok]
theorem okL_154 {h : am_H} (ok : am_okH h) : am_len h 154 = 8 := by unfold am_len; rw [okK_154 ok]
theorem okK_155 {h : am_H} (ok : am_okH h) : am_kd h 155 = some (.inr (0, 8)) := ok.kd 155
theorem okT_155 {h : am_H} (ok : am_okH h) : am_tc h 155 = some 0 := by unfold am_tc; rw [okK_155 ok]
theorem okL_155 {h : am_H} (ok : am_okH h) : am_len h 155 = 8 := by unfold am_len; rw [okK_155 ok]
theorem okK_156 {h : am_H} (ok : am_okH h) : am_kd h 156 = some (.inr (0, 8)) := ok.kd 156
theorem okT_156 {h : am_H} (ok : am_okH h) : am_tc h 156 = some 0 := by unfold am_tc; rw [okK_156 ok]
theorem okL_156 {h : am_H} (ok : am_okH h) : am_len h 156 = 8 := by unfold am_len; rw [okK_156 ok]
theorem okK_157 {h : am_H} (ok : am_okH h) : am_kd h 157 = some (.inr (0, 8)) := ok.kd 157
theorem okT_157 {h : am_H} (ok : am_okH h) : am_tc h 157 = some 0 := by unfold am_tc; rw [okK_157 ok]
theorem okL_157 {h : am_H} (ok : am_okH h) : am_len h 157 = 8 := by unfold am_len; rw [okK_157 ok]
theorem okK_158 {h : am_H} (ok : am_okH h) : am_kd h 158 = some (.inr (2, 3)) := ok.kd 158
theorem okT_158 {h : am_H} (ok : am_okH h) : am_tc h 158 = some 2 := by unfold am_tc; rw [okK_158 ok]
theorem okL_158 {h : am_H} (ok : am_okH h) : am_len h 158 = 3 := by unfold am_len; rw [okK_158 ok]
theorem okK_159 {h : am_H} (ok : am_okH h) : am_kd h 159 = some (.inl 7) := ok.kd 159
theorem okR_159_0 {h : am_H} (ok : am_okH h) : h.2.2.1 159 0 = some 160 := ok.2 (159, 0, 160) (by decide +kernel) (by decide +kernel)
theorem okR_159_1 {h : am_H} (ok : am_okH h) : h.2.2.1 159 1 = some 163 := ok.2 (159, 1, 163) (by decide +kernel) (by decide +kernel)
theorem okR_159_2 {h : am_H} (ok : am_okH h) : h.2.2.1 159 2 = some 165 := ok.2 (159, 2, 165) (by decide +kernel) (by decide +kernel)
theorem okR_159_3 {h : am_H} (ok : am_okH h) : h.2.2.1 159 3 = some 171 := ok.2 (159, 3, 171) (by decide +kernel) (by decide +kernel)
theorem okR_159_6 {h : am_H} (ok : am_okH h) : h.2.2.1 159 6 = some 176 := ok.2 (159, 6, 176) (by decide +kernel) (by decide +kernel)
theorem okK_160 {h : am_H} (ok : am_okH h) : am_kd h 160 = some (.inl 3) := ok.kd 160
theorem okR_160_7 {h : am_H} (ok : am_okH h) : h.2.2.1 160 7 = some 161 := ok.2 (160, 7, 161) (by decide +kernel) (by decide +kernel)
theorem okR_160_8 {h : am_H} (ok : am_okH h) : h.2.2.1 160 8 = some 162 := ok.2 (160, 8, 162) (by decide +kernel) (by decide +kernel)
theorem okK_161 {h : am_H} (ok : am_okH h) : am_kd h 161 = some (.inr (0, 6)) := ok.kd 161
theorem okT_161 {h : am_H} (ok : am_okH h) : am_tc h 161 = some 0 := by unfold am_tc; rw [okK_161 ok]
theorem okL_161 {h : am_H} (ok : am_okH h) : am_len h 161 = 6 := by unfold am_len; rw [okK_161 ok]
theorem okK_162 {h : am_H} (ok : am_okH h) : am_kd h 162 = some (.inr (0, 6)) := ok.kd 162
theorem okT_162 {h : am_H} (ok : am_okH h) : am_tc h 162 = some 0 := by unfold am_tc; rw [okK_162 ok]
theorem okL_162 {h : am_H} (ok : am_okH h) : am_len h 162 = 6 := by unfold am_len; rw [okK_162 ok]
theorem okK_163 {h : am_H} (ok : am_okH h) : am_kd h 163 = some (.inl 2) := ok.kd 163
theorem okR_163_1 {h : am_H} (ok : am_okH h) : h.2.2.1 163 1 = some 164 := ok.2 (163, 1, 164) (by decide +kernel) (by decide +kernel)
theorem okK_164 {h : am_H} (ok : am_okH h) : am_kd h 164 = some (.inr (0, 40)) := ok.kd 164
theorem okT_164 {h : am_H} (ok : am_okH h) : am_tc h 164 = some 0 := by unfold am_tc; rw [okK_164 ok]
theorem okL_164 {h : am_H} (ok : am_okH h) : am_len h 164 = 40 := by unfold am_len; rw [okK_164 ok]
theorem okK_165 {h : am_H} (ok : am_okH h) : am_kd h 165 = some (.inl 0) := ok.kd 165
theorem okR_165_3 {h : am_H} (ok : am_okH h) : h.2.2.1 165 3 = some 166 := ok.2 (165, 3, 166) (by decide +kernel) (by decide +kernel)
theorem okR_165_4 {h : am_H} (ok : am_okH h) : h.2.2.1 165 4 = some 167 := ok.2 (165, 4, 167) (by decide +kernel) (by decide +kernel)
theorem okR_165_5 {h : am_H} (ok : am_okH h) : h.2.2.1 165 5 = some 168 := ok.2 (165, 5, 168) (by decide +kernel) (by decide +kernel)
theorem okR_165_6 {h : am_H} (ok : am_okH h) : h.2.2.1 165 6 = some 169 := ok.2 (165, 6, 169) (by decide +kernel) (by decide +kernel)
theorem okR_165_7 {h : am_H} (ok : am_okH h) : h.2.2.1 165 7 = some 170 := ok.2 (165, 7, 170) (by decide +kernel) (by decide +kernel)
theorem okK_166 {h : am_H} (ok : am_okH h) : am_kd h 166 = some (.inr (0, 5)) := ok.kd 166
theorem okT_166 {h : am_H} (ok : am_okH h) : am_tc h 166 = some 0 := by unfold am_tc; rw [okK_166 ok]
theorem okL_166 {h : am_H} (ok : am_okH h) : am_len h 166 = 5 := by unfold am_len; rw [okK_166 ok]
theorem okK_167 {h : am_H} (ok : am_okH h) : am_kd h 167 = some (.inr (0, 5)) := ok.kd 167
theorem okT_167 {h : am_H} (ok : am_okH h) : am_tc h 167 = some 0 := by unfold am_tc; rw [okK_167 ok]
theorem okL_167 {h : am_H} (ok : am_okH h) : am_len h 167 = 5 := by unfold am_len; rw [okK_167 ok]
theorem okK_168 {h : am_H} (ok : am_okH h) : am_kd h 168 = some (.inr (0, 8)) := ok.kd 168
theorem okT_168 {h : am_H} (ok : am_okH h) : am_tc h 168 = some 0 := by unfold am_tc; rw [okK_168 ok]
theorem okL_168 {h : am_H} (ok : am_okH h) : am_len h 168 = 8 := by unfold am_len; rw [okK_168 ok]
theorem okK_169 {h : am_H} (ok : am_okH h) : am_kd h 169 = some (.inr (0, 8)) := ok.kd 169
theorem okT_169 {h : am_H} (ok : am_okH h) : am_tc h 169 = some 0 := by unfold am_tc; rw [okK_169 ok]
theorem okL_169 {h : am_H} (ok : am_okH h) : am_len h 169 = 8 := by unfold am_len; rw [okK_169 ok]
theorem okK_170 {h : am_H} (ok : am_okH h) : am_kd h 170 = some (.inr (0, 10)) := ok.kd 170
theorem okT_170 {h : am_H} (ok : am_okH h) : am_tc h 170 = some 0 := by unfold am_tc; rw [okK_170 ok]
theorem okL_170 {h : am_H} (ok : am_okH h) : am_len h 170 = 10 := by unfold am_len; rw [okK_170 ok]
theorem okK_171 {h : am_H} (ok : am_okH h) : am_kd h 171 = some (.inl 5) := ok.kd 171
theorem okR_171_1 {h : am_H} (ok : am_okH h) : h.2.2.1 171 1 = some 172 := ok.2 (171, 1, 172) (by decide +kernel) (by decide +kernel)
theorem okR_171_2 {h : am_H} (ok : am_okH h) : h.2.2.1 171 2 = some 173 := ok.2 (171, 2, 173) (by decide +kernel) (by decide +kernel)
theorem okR_171_3 {h : am_H} (ok : am_okH h) : h.2.2.1 171 3 = some 174 := ok.2 (171, 3, 174) (by decide +kernel) (by decide +kernel)
theorem okR_171_4 {h : am_H} (ok : am_okH h) : h.2.2.1 171 4 = some 175 := ok.2 (171, 4, 175) (by decide +kernel) (by decide +kernel)
theorem okK_172 {h : am_H} (ok : am_okH h) : am_kd h 172 = some (.inr (0, 8)) := ok.kd 172
theorem okT_172 {h : am_H} (ok : am_okH h) : am_tc h 172 = some 0 := by unfold am_tc; rw [okK_172 ok]
theorem okL_172 {h : am_H} (ok : am_okH h) : am_len h 172 = 8 := by unfold am_len; rw [okK_172 ok]
theorem okK_173 {h : am_H} (ok : am_okH h) : am_kd h 173 = some (.inr (0, 8)) := ok.kd 173
theorem okT_173 {h : am_H} (ok : am_okH h) : am_tc h 173 = some 0 := by unfold am_tc; rw [okK_173 ok]
theorem okL_173 {h : am_H} (ok : am_okH h) : am_len h 173 = 8 := by unfold am_len; rw [okK_173 ok]
theorem okK_174 {h : am_H} (ok : am_okH h) : am_kd h 174 = some (.inr (0, 8)) := ok.kd 174
theorem okT_174 {h : am_H} (ok : am_okH h) : am_tc h 174 = some 0 := by unfold am_tc; rw [okK_174 ok]
theorem okL_174 {h : am_H} (ok : am_okH h) : am_len h 174 = 8 := by unfold am_len; rw [okK_174 ok]
theorem okK_175 {h : am_H} (ok : am_okH h) : am_kd h 175 = some (.inr (0, 8)) := ok.kd 175
theorem okT_175 {h : am_H} (ok : am_okH h) : am_tc h 175 = some 0 := by unfold am_tc; rw [okK_175 ok]
theorem okL_175 {h : am_H} (ok : am_okH h) : am_len h 175 = 8 := by unfold am_len; rw [okK_175 ok]
theorem okK_176 {h : am_H} (ok : am_okH h) : am_kd h 176 = some (.inr (0, 5)) := ok.kd 176
theorem okT_176 {h : am_H} (ok : am_okH h) : am_tc h 176 = some 0 := by unfold am_tc; rw [okK_176 ok]
theorem okL_176 {h : am_H} (ok : am_okH h) : am_len h 176 = 5 := by unfold am_len; rw [okK_176 ok]
theorem okK_177 {h : am_H} (ok : am_okH h) : am_kd h 177 = some (.inr (1, 0)) := ok.kd 177
theorem okT_177 {h : am_H} (ok : am_okH h) : am_tc h 177 = some 1 := by unfold am_tc; rw [okK_177 ok]
theorem okL_177 {h : am_H} (ok : am_okH h) : am_len h 177 = 0 := by unfold am_len; rw [okK_177 ok]
theorem okK_178 {h : am_H} (ok : am_okH h) : am_kd h 178 = some (.inl 4) := ok.kd 178
theorem okR_178_3 {h : am_H} (ok : am_okH h) : h.2.2.1 178 3 = some 182 := ok.2 (178, 3, 182) (by decide +kernel) (by decide +kernel)
theorem okR_178_7 {h : am_H} (ok : am_okH h) : h.2.2.1 178 7 = some 183 := ok.2 (178, 7, 183) (by decide +kernel) (by decide +kernel)
theorem okK_179 {h : am_H} (ok : am_okH h) : am_kd h 179 = some (.inl 3) := ok.kd 179
theorem okR_179_7 {h : am_H} (ok : am_okH h) : h.2.2.1 179 7 = some 180 := ok.2 (179, 7, 180) (by decide +kernel) (by decide +kernel)
theorem okR_179_8 {h : am_H} (ok : am_okH h) : h.2.2.1 179 8 = some 181 := ok.2 (179, 8, 181) (by decide +kernel) (by decide +kernel)
theorem okK_180 {h : am_H} (ok : am_okH h) : am_kd h 180 = some (.inr (0, 6)) := ok.kd 180
theorem okT_180 {h : am_H} (ok : am_okH h) : am_tc h 180 = some 0 := by unfold am_tc; rw [okK_180 ok]
theorem okL_180 {h : am_H} (ok : am_okH h) : am_len h 180 = 6 := by unfold am_len; rw [okK_180 ok]
theorem okK_181 {h : am_H} (ok : am_okH h) : am_kd h 181 = some (.inr (0, 6)) := ok.kd 181
theorem okT_181 {h : am_H} (ok : am_okH h) : am_tc h 181 = some 0 := by unfold am_tc; rw [okK_181 ok]
theorem okL_181 {h : am_H} (ok : am_okH h) : am_len h 181 = 6 := by unfold am_len; rw [okK_181 ok]
theorem okK_182 {h : am_H} (ok : am_okH h) : am_kd h 182 = some (.inr (0, 6)) := ok.kd 182
theorem okT_182 {h : am_H} (ok : am_okH h) : am_tc h 182 = some 0 := by unfold am_tc; rw [okK_182 ok]
theorem okL_182 {h : am_H} (ok : am_okH h) : am_len h 182 = 6 := by unfold am_len; rw [okK_182 ok]
theorem okK_183 {h : am_H} (ok : am_okH h) : am_kd h 183 = some (.inr (0, 6)) := ok.kd 183
theorem okT_183 {h : am_H} (ok : am_okH h) : am_tc h 183 = some 0 := by unfold am_tc; rw [okK_183 ok]
theorem okL_183 {h : am_H} (ok : am_okH h) : am_len h 183 = 6 := by unfold am_len; rw [okK_183 ok]
theorem okK_184 {h : am_H} (ok : am_okH h) : am_kd h 184 = some (.inl 4) := ok.kd 184
theorem okR_184_3 {h : am_H} (ok : am_okH h) : h.2.2.1 184 3 = some 188 := ok.2 (184, 3, 188) (by decide +kernel) (by decide +kernel)
theorem okR_184_7 {h : am_H} (ok : am_okH h) : h.2.2.1 184 7 = some 189 := ok.2 (184, 7, 189) (by decide +kernel) (by decide +kernel)
theorem okK_185 {h : am_H} (ok : am_okH h) : am_kd h 185 = some (.inl 3) := ok.kd 185
theorem okR_185_7 {h : am_H} (ok : am_okH h) : h.2.2.1 185 7 = some 186 := ok.2 (185, 7, 186) (by decide +kernel) (by decide +kernel)
theorem okR_185_8 {h : am_H} (ok : am_okH h) : h.2.2.1 185 8 = some 187 := ok.2 (185, 8, 187) (by decide +kernel) (by decide +kernel)
theorem okK_186 {h : am_H} (ok : am_okH h) : am_kd h 186 = some (.inr (0, 6)) := ok.kd 186
theorem okT_186 {h : am_H} (ok : am_okH h) : am_tc h 186 = some 0 := by unfold am_tc; rw [okK_186 ok]
theorem okL_186 {h : am_H} (ok : am_okH h) : am_len h 186 = 6 := by unfold am_len; rw [okK_186 ok]
theorem okK_187 {h : am_H} (ok : am_okH h) : am_kd h 187 = some (.inr (0, 6)) := ok.kd 187
theorem okT_187 {h : am_H} (ok : am_okH h) : am_tc h 187 = some 0 := by unfold am_tc; rw [okK_187 ok]
theorem okL_187 {h : am_H} (ok : am_okH h) : am_len h 187 = 6 := by unfold am_len; rw [okK_187 ok]
theorem okK_188 {h : am_H} (ok : am_okH h) : am_kd h 188 = some (.inr (0, 6)) := ok.kd 188
theorem okT_188 {h : am_H} (ok : am_okH h) : am_tc h 188 = some 0 := by unfold am_tc; rw [okK_188 ok]
theorem okL_188 {h : am_H} (ok : am_okH h) : am_len h 188 = 6 := by unfold am_len; rw [okK_188 ok]
theorem okK_189 {h : am_H} (ok : am_okH h) : am_kd h 189 = some (.inr (0, 6)) := ok.kd 189
theorem okT_189 {h : am_H} (ok : am_okH h) : am_tc h 189 = some 0 := by unfold am_tc; rw [okK_189 ok]
theorem okL_189 {h : am_H} (ok : am_okH h) : am_len h 189 = 6 := by unfold am_len; rw [okK_189 ok]
theorem okK_190 {h : am_H} (ok : am_okH h) : am_kd h 190 = some (.inl 4) := ok.kd 190
theorem okR_190_3 {h : am_H} (ok : am_okH h) : h.2.2.1 190 3 = some 194 := ok.2 (190, 3, 194) (by decide +kernel) (by decide +kernel)
theorem okR_190_7 {h : am_H} (ok : am_okH h) : h.2.2.1 190 7 = some 195 := ok.2 (190, 7, 195) (by decide +kernel) (by decide +kernel)
theorem okK_191 {h : am_H} (ok : am_okH h) : am_kd h 191 = some (.inl 3) := ok.kd 191
theorem okR_191_7 {h : am_H} (ok : am_okH h) : h.2.2.1 191 7 = some 192 := ok.2 (191, 7, 192) (by decide +kernel) (by decide +kernel)
theorem okR_191_8 {h : am_H} (ok : am_okH h) : h.2.2.1 191 8 = some 193 := ok.2 (191, 8, 193) (by decide +kernel) (by decide +kernel)
theorem okK_192 {h : am_H} (ok : am_okH h) : am_kd h 192 = some (.inr (0, 6)) := ok.kd 192
theorem okT_192 {h : am_H} (ok : am_okH h) : am_tc h 192 = some 0 := by unfold am_tc; rw [okK_192 ok]
theorem okL_192 {h : am_H} (ok : am_okH h) : am_len h 192 = 6 := by unfold am_len; rw [okK_192 ok]
theorem okK_193 {h : am_H} (ok : am_okH h) : am_kd h 193 = some (.inr (0, 6)) := ok.kd 193
theorem okT_193 {h : am_H} (ok : am_okH h) : am_tc h 193 = some 0 := by unfold am_tc; rw [okK_193 ok]
theorem okL_193 {h : am_H} (ok : am_okH h) : am_len h 193 = 6 := by unfold am_len; rw [okK_193 ok]
theorem okK_194 {h : am_H} (ok : am_okH h) : am_kd h 194 = some (.inr (0, 6)) := ok.kd 194
theorem okT_194 {h : am_H} (ok : am_okH h) : am_tc h 194 = some 0 := by unfold am_tc; rw [okK_194 ok]
theorem okL_194 {h : am_H} (ok : am_okH h) : am_len h 194 = 6 := by unfold am_len; rw [okK_194 ok]
theorem okK_195 {h : am_H} (ok : am_okH h) : am_kd h 195 = some (.inr (0, 6)) := ok.kd 195
theorem okT_195 {h : am_H} (ok : am_okH h) : am_tc h 195 = some 0 := by unfold am_tc; rw [okK_195 ok]
theorem okL_195 {h : am_H} (ok : am_okH h) : am_len h 195 = 6 := by unfold am_len; rw [okK_195 ok]
theorem okK_196 {h : am_H} (ok : am_okH h) : am_kd h 196 = some (.inl 3) := ok.kd 196
theorem okR_196_7 {h : am_H} (ok : am_okH h) : h.2.2.1 196 7 = some 197 := ok.2 (196, 7, 197) (by decide +kernel) (by decide +kernel)
theorem okR_196_8 {h : am_H} (ok : am_okH h) : h.2.2.1 196 8 = some 198 := ok.2 (196, 8, 198) (by decide +kernel) (by decide +kernel)
theorem okK_197 {h : am_H} (ok : am_okH h) : am_kd h 197 = some (.inr (0, 6)) := ok.kd 197
theorem okT_197 {h : am_H} (ok : am_okH h) : am_tc h 197 = some 0 := by unfold am_tc; rw [okK_197 ok]
theorem okL_197 {h : am_H} (ok : am_okH h) : am_len h 197 = 6 := by unfold am_len; rw [okK_197 ok]
theorem okK_198 {h : am_H} (ok : am_okH h) : am_kd h 198 = some (.inr (0, 6)) := ok.kd 198
theorem okT_198 {h : am_H} (ok : am_okH h) : am_tc h 198 = some 0 := by unfold am_tc; rw [okK_198 ok]
theorem okL_198 {h : am_H} (ok : am_okH h) : am_len h 198 = 6 := by unfold am_len; rw [okK_198 ok]
theorem okK_199 {h : am_H} (ok : am_okH h) : am_kd h 199 = some (.inl 9) := ok.kd 199
theorem okR_199_0 {h : am_H} (ok : am_okH h) : h.2.2.1 199 0 = some 200 := ok.2 (199, 0, 200) (by decide +kernel) (by decide +kernel)
theorem okR_199_1 {h : am_H} (ok : am_okH h) : h.2.2.1 199 1 = some 201 := ok.2 (199, 1, 201) (by decide +kernel) (by decide +kernel)
theorem okK_200 {h : am_H} (ok : am_okH h) : am_kd h 200 = some (.inr (0, 64)) := ok.kd 200
theorem okT_200 {h : am_H} (ok : am_okH h) : am_tc h 200 = some 0 := by unfold am_tc; rw [okK_200 ok]
theorem okL_200 {h : am_H} (ok : am_okH h) : am_len h 200 = 64 := by unfold am_len; rw [okK_200 ok]
theorem okK_201 {h : am_H} (ok : am_okH h) : am_kd h 201 = some (.inr (0, 64)) := ok.kd 201
theorem okT_201 {h : am_H} (ok : am_okH h) : am_tc h 201 = some 0 := by unfold am_tc; rw [okK_201 ok]
theorem okL_201 {h : am_H} (ok : am_okH h) : am_len h 201 = 64 := by unfold am_len; rw [okK_201 ok]
theorem okK_202 {h : am_H} (ok : am_okH h) : am_kd h 202 = some (.inl 1) := ok.kd 202
theorem okR_202_3 {h : am_H} (ok : am_okH h) : h.2.2.1 202 3 = some 203 := ok.2 (202, 3, 203) (by decide +kernel) (by decide +kernel)
theorem okR_202_4 {h : am_H} (ok : am_okH h) : h.2.2.1 202 4 = some 204 := ok.2 (202, 4, 204) (by decide +kernel) (by decide +kernel)
theorem okK_203 {h : am_H} (ok : am_okH h) : am_kd h 203 = some (.inr (3, 64)) := ok.kd 203
theorem okT_203 {h : am_H} (ok : am_okH h) : am_tc h 203 = some 3 := by unfold am_tc; rw [okK_203 ok]
theorem okL_203 {h : am_H} (ok : am_okH h) : am_len h 203 = 64 := by unfold am_len; rw [okK_203 ok]
theorem okK_204 {h : am_H} (ok : am_okH h) : am_kd h 204 = some (.inr (0, 4096)) := ok.kd 204
theorem okT_204 {h : am_H} (ok : am_okH h) : am_tc h 204 = some 0 := by unfold am_tc; rw [okK_204 ok]
theorem okL_204 {h : am_H} (ok : am_okH h) : am_len h 204 = 4096 := by unfold am_len; rw [okK_204 ok]
theorem okK_205 {h : am_H} (ok : am_okH h) : am_kd h 205 = some (.inl 6) := ok.kd 205
theorem okR_205_0 {h : am_H} (ok : am_okH h) : h.2.2.1 205 0 = some 206 := ok.2 (205, 0, 206) (by decide +kernel) (by decide +kernel)
theorem okR_205_1 {h : am_H} (ok : am_okH h) : h.2.2.1 205 1 = some 207 := ok.2 (205, 1, 207) (by decide +kernel) (by decide +kernel)
theorem okR_205_2 {h : am_H} (ok : am_okH h) : h.2.2.1 205 2 = some 208 := ok.2 (205, 2, 208) (by decide +kernel) (by decide +kernel)
theorem okR_205_3 {h : am_H} (ok : am_okH h) : h.2.2.1 205 3 = some 209 := ok.2 (205, 3, 209) (by decide +kernel) (by decide +kernel)
theorem okR_205_4 {h : am_H} (ok : am_okH h) : h.2.2.1 205 4 = some 210 := ok.2 (205, 4, 210) (by decide +kernel) (by decide +kernel)
theorem okK_206 {h : am_H} (ok : am_okH h) : am_kd h 206 = some (.inr (0, 8)) := ok.kd 206
theorem okT_206 {h : am_H} (ok : am_okH h) : am_tc h 206 = some 0 := by unfold am_tc; rw [okK_206 ok]
theorem okL_206 {h : am_H} (ok : am_okH h) : am_len h 206 = 8 := by unfold am_len; rw [okK_206 ok]
theorem okK_207 {h : am_H} (ok : am_okH h) : am_kd h 207 = some (.inr (0, 5)) := ok.kd 207
theorem okT_207 {h : am_H} (ok : am_okH h) : am_tc h 207 = some 0 := by unfold am_tc; rw [okK_207 ok]
theorem okL_207 {h : am_H} (ok : am_okH h) : am_len h 207 = 5 := by unfold am_len; rw [okK_207 ok]
theorem okK_208 {h : am_H} (ok : am_okH h) : am_kd h 208 = some (.inr (0, 8)) := ok.kd 208
theorem okT_208 {h : am_H} (ok : am_okH h) : am_tc h 208 = some 0 := by unfold am_tc; rw [okK_208 ok]
theorem okL_208 {h : am_H} (ok : am_okH h) : am_len h 208 = 8 := by unfold am_len; rw [okK_208 ok]
theorem okK_209 {h : am_H} (ok : am_okH h) : am_kd h 209 = some (.inr (0, 8)) := ok.kd 209
theorem okT_209 {h : am_H} (ok : am_okH h) : am_tc h 209 = some 0 := by unfold am_tc; rw [okK_209 ok]
theorem okL_209 {h : am_H} (ok : am_okH h) : am_len h 209 = 8 := by unfold am_len; rw [okK_209 ok]
theorem okK_210 {h : am_H} (ok : am_okH h) : am_kd h 210 = some (.inr (0, 66)) := ok.kd 210
theorem okT_210 {h : am_H} (ok : am_okH h) : am_tc h 210 = some 0 := by unfold am_tc; rw [okK_210 ok]
theorem okL_210 {h : am_H} (ok : am_okH h) : am_len h 210 = 66 := by unfold am_len; rw [okK_210 ok]
theorem okK_211 {h : am_H} (ok : am_okH h) : am_kd h 211 = some (.inl 11) := ok.kd 211
theorem okR_211_1 {h : am_H} (ok : am_okH h) : h.2.2.1 211 1 = some 212 := ok.2 (211, 1, 212) (by decide +kernel) (by decide +kernel)
theorem okR_211_2 {h : am_H} (ok : am_okH h) : h.2.2.1 211 2 = some 213 := ok.2 (211, 2, 213) (by decide +kernel) (by decide +kernel)
theorem okR_211_3 {h : am_H} (ok : am_okH h) : h.2.2.1 211 3 = some 214 := ok.2 (211, 3, 214) (by decide +kernel) (by decide +kernel)
theorem okR_211_4 {h : am_H} (ok : am_okH h) : h.2.2.1 211 4 = some 215 := ok.2 (211, 4, 215) (by decide +kernel) (by decide +kernel)
theorem okR_211_5 {h : am_H} (ok : am_okH h) : h.2.2.1 211 5 = some 216 := ok.2 (211, 5, 216) (by decide +kernel) (by decide +kernel)
theorem okR_211_6 {h : am_H} (ok : am_okH h) : h.2.2.1 211 6 = some 217 := ok.2 (211, 6, 217) (by decide +kernel) (by decide +kernel)
theorem okR_211_7 {h : am_H} (ok : am_okH h) : h.2.2.1 211 7 = some 218 := ok.2 (211, 7, 218) (by decide +kernel) (by decide +kernel)
theorem okR_211_8 {h : am_H} (ok : am_okH h) : h.2.2.1 211 8 = some 219 := ok.2 (211, 8, 219) (by decide +kernel) (by decide +kernel)
theorem okR_211_9 {h : am_H} (ok : am_okH h) : h.2.2.1 211 9 = some 220 := ok.2 (211, 9, 220) (by decide +kernel) (by decide +kernel)
theorem okR_211_19 {h : am_H} (ok : am_okH h) : h.2.2.1 211 19 = some 221 := ok.2 (211, 19, 221) (by decide +kernel) (by decide +kernel)
theorem okR_211_20 {h : am_H} (ok : am_okH h) : h.2.2.1 211 20 = some 222 := ok.2 (211, 20, 222) (by decide +kernel) (by decide +kernel)
theorem okR_211_34 {h : am_H} (ok : am_okH h) : h.2.2.1 211 34 = some 223 := ok.2 (211, 34, 223) (by decide +kernel) (by decide +kernel)
theorem okR_211_35 {h : am_H} (ok : am_okH h) : h.2.2.1 211 35 = some 224 := ok.2 (211, 35, 224) (by decide +kernel) (by decide +kernel)
theorem okR_211_36 {h : am_H} (ok : am_okH h) : h.2.2.1 211 36 = some 225 := ok.2 (211, 36, 225) (by decide +kernel) (by decide +kernel)
theorem okR_211_37 {h : am_H} (ok : am_okH h) : h.2.2.1 211 37 = some 226 := ok.2 (211, 37, 226) (by decide +kernel) (by decide +kernel)
theorem okR_211_40 {h : am_H} (ok : am_okH h) : h.2.2.1 211 40 = some 227 := ok.2 (211, 40, 227) (by decide +kernel) (by decide +kernel)
theorem okR_211_41 {h : am_H} (ok : am_okH h) : h.2.2.1 211 41 = some 228 := ok.2 (211, 41, 228) (by decide +kernel) (by decide +kernel)
theorem okR_211_42 {h : am_H} (ok : am_okH h) : h.2.2.1 211 42 = some 229 := ok.2 (211, 42, 229) (by decide +kernel) (by decide +kernel)
theorem okR_211_44 {h : am_H} (ok : am_okH h) : h.2.2.1 211 44 = some 230 := ok.2 (211, 44, 230) (by decide +kernel) (by decide +kernel)
theorem okR_211_46 {h : am_H} (ok : am_okH h) : h.2.2.1 211 46 = some 231 := ok.2 (211, 46, 231) (by decide +kernel) (by decide +kernel)
theorem okR_211_48 {h : am_H} (ok : am_okH h) : h.2.2.1 211 48 = some 232 := ok.2 (211, 48, 232) (by decide +kernel) (by decide +kernel)
theorem okR_211_50 {h : am_H} (ok : am_okH h) : h.2.2.1 211 50 = some 233 := ok.2 (211, 50, 233) (by decide +kernel) (by decide +kernel)
theorem okR_211_54 {h : am_H} (ok : am_okH h) : h.2.2.1 211 54 = some 234 := ok.2 (211, 54, 234) (by decide +kernel) (by decide +kernel)
theorem okR_211_56 {h : am_H} (ok : am_okH h) : h.2.2.1 211 56 = some 235 := ok.2 (211, 56, 235) (by decide +kernel) (by decide +kernel)
theorem okR_211_59 {h : am_H} (ok : am_okH h) : h.2.2.1 211 59 = some 236 := ok.2 (211, 59, 236) (by decide +kernel) (by decide +kernel)
theorem okK_212 {h : am_H} (ok : am_okH h) : am_kd h 212 = some (.inr (1, 2400)) := ok.kd 212
theorem okT_212 {h : am_H} (ok : am_okH h) : am_tc h 212 = some 1 := by unfold am_tc; rw [okK_212 ok]
theorem okL_212 {h : am_H} (ok : am_okH h) : am_len h 212 = 2400 := by unfold am_len; rw [okK_212 ok]
theorem okK_213 {h : am_H} (ok : am_okH h) : am_kd h 213 = some (.inr (0, 4)) := ok.kd 213
theorem okT_213 {h : am_H} (ok : am_okH h) : am_tc h 213 = some 0 := by unfold am_tc; rw [okK_213 ok]
theorem okL_213 {h : am_H} (ok : am_okH h) : am_len h 213 = 4 := by unfold am_len; rw [okK_213 ok]
theorem okK_214 {h : am_H} (ok : am_okH h) : am_kd h 214 = some (.inr (0, 4)) := ok.kd 214
theorem okT_214 {h : am_H} (ok : am_okH h) : am_tc h 214 = some 0 := by unfold am_tc; rw [okK_214 ok]
theorem okL_214 {h : am_H} (ok : am_okH h) : am_len h 214 = 4 := by unfold am_len; rw [okK_214 ok]
theorem okK_215 {h : am_H} (ok : am_okH h) : am_kd h 215 = some (.inr (0, 4)) := ok.kd 215
theorem okT_215 {h : am_H} (ok : am_okH h) : am_tc h 215 = some 0 := by unfold am_tc; rw [okK_215 ok]
theorem okL_215 {h : am_H} (ok : am_okH h) : am_len h 215 = 4 := by unfold am_len; rw [okK_215 ok]
theorem okK_216 {h : am_H} (ok : am_okH h) : am_kd h 216 = some (.inr (0, 16)) := ok.kd 216
theorem okT_216 {h : am_H} (ok : am_okH h) : am_tc h 216 = some 0 := by unfold am_tc; rw [okK_216 ok]
theorem okL_216 {h : am_H} (ok : am_okH h) : am_len h 216 = 16 := by unfold am_len; rw [okK_216 ok]
theorem okK_217 {h : am_H} (ok : am_okH h) : am_kd h 217 = some (.inr (0, 272)) := ok.kd 217
theorem okT_217 {h : am_H} (ok : am_okH h) : am_tc h 217 = some 0 := by unfold am_tc; rw [okK_217 ok]
theorem okL_217 {h : am_H} (ok : am_okH h) : am_len h 217 = 272 := by unfold am_len; rw [okK_217 ok]
theorem okK_218 {h : am_H} (ok : am_okH h) : am_kd h 218 = some (.inr (0, 648)) := ok.kd 218
theorem okT_218 {h : am_H} (ok : am_okH h) : am_tc h 218 = some 0 := by unfold am_tc; rw [okK_218 ok]
theorem okL_218 {h : am_H} (ok : am_okH h) : am_len h 218 = 648 := by unfold am_len; rw [okK_218 ok]
theorem okK_219 {h : am_H} (ok : am_okH h) : am_kd h 219 = some (.inr (0, 312)) := ok.kd 219
theorem okT_219 {h : am_H} (ok : am_okH h) : am_tc h 219 = some 0 := by unfold am_tc; rw [okK_219 ok]
theorem okL_219 {h : am_H} (ok : am_okH h) : am_len h 219 = 312 := by unfold am_len; rw [okK_219 ok]
theorem okK_220 {h : am_H} (ok : am_okH h) : am_kd h 220 = some (.inr (0, 392)) := ok.kd 220
theorem okT_220 {h : am_H} (ok : am_okH h) : am_tc h 220 = some 0 := by unfold am_tc; rw [okK_220 ok]
theorem okL_220 {h : am_H} (ok : am_okH h) : am_len h 220 = 392 := by unfold am_len; rw [okK_220 ok]
theorem okK_221 {h : am_H} (ok : am_okH h) : am_kd h 221 = some (.inr (0, 81)) := ok.kd 221
theorem okT_221 {h : am_H} (ok : am_okH h) : am_tc h 221 = some 0 := by unfold am_tc; rw [okK_221 ok]
theorem okL_221 {h : am_H} (ok : am_okH h) : am_len h 221 = 81 := by unfold am_len; rw [okK_221 ok]
theorem okK_222 {h : am_H} (ok : am_okH h) : am_kd h 222 = some (.inr (0, 6)) := ok.kd 222
theorem okT_222 {h : am_H} (ok : am_okH h) : am_tc h 222 = some 0 := by unfold am_tc; rw [okK_222 ok]
theorem okL_222 {h : am_H} (ok : am_okH h) : am_len h 222 = 6 := by unfold am_len; rw [okK_222 ok]
theorem okK_223 {h : am_H} (ok : am_okH h) : am_kd h 223 = some (.inr (2, 64)) := ok.kd 223
theorem okT_223 {h : am_H} (ok : am_okH h) : am_tc h 223 = some 2 := by unfold am_tc; rw [okK_223 ok]
theorem okL_223 {h : am_H} (ok : am_okH h) : am_len h 223 = 64 := by unfold am_len; rw [okK_223 ok]
theorem okK_224 {h : am_H} (ok : am_okH h) : am_kd h 224 = some (.inr (0, 6)) := ok.kd 224
theorem okT_224 {h : am_H} (ok : am_okH h) : am_tc h 224 = some 0 := by unfold am_tc; rw [okK_224 ok]
theorem okL_224 {h : am_H} (ok : am_okH h) : am_len h 224 = 6 := by unfold am_len; rw [okK_224 ok]
theorem okK_225 {h : am_H} (ok : am_okH h) : am_kd h 225 = some (.inr (0, 6)) := ok.kd 225
theorem okT_225 {h : am_H} (ok : am_okH h) : am_tc h 225 = some 0 := by unfold am_tc; rw [okK_225 ok]
theorem okL_225 {h : am_H} (ok : am_okH h) : am_len h 225 = 6 := by unfold am_len; rw [okK_225 ok]
theorem okK_226 {h : am_H} (ok : am_okH h) : am_kd h 226 = some (.inr (0, 6)) := ok.kd 226
theorem okT_226 {h : am_H} (ok : am_okH h) : am_tc h 226 = some 0 := by unfold am_tc; rw [okK_226 ok]
theorem okL_226 {h : am_H} (ok : am_okH h) : am_len h 226 = 6 := by unfold am_len; rw [okK_226 ok]
theorem okK_227 {h : am_H} (ok : am_okH h) : am_kd h 227 = some (.inr (0, 4096)) := ok.kd 227
theorem okT_227 {h : am_H} (ok : am_okH h) : am_tc h 227 = some 0 := by unfold am_tc; rw [okK_227 ok]
theorem okL_227 {h : am_H} (ok : am_okH h) : am_len h 227 = 4096 := by unfold am_len; rw [okK_227 ok]
theorem okK_228 {h : am_H} (ok : am_okH h) : am_kd h 228 = some (.inr (0, 4096)) := ok.kd 228
theorem okT_228 {h : am_H} (ok : am_okH h) : am_tc h 228 = some 0 := by unfold am_tc; rw [okK_228 ok]
theorem okL_228 {h : am_H} (ok : am_okH h) : am_len h 228 = 4096 := by unfold am_len; rw [okK_228 ok]
theorem okK_229 {h : am_H} (ok : am_okH h) : am_kd h 229 = some (.inr (0, 4096)) := ok.kd 229
theorem okT_229 {h : am_H} (ok : am_okH h) : am_tc h 229 = some 0 := by unfold am_tc; rw [okK_229 ok]
theorem okL_229 {h : am_H} (ok : am_okH h) : am_len h 229 = 4096 := by unfold am_len; rw [okK_229 ok]
theorem okK_230 {h : am_H} (ok : am_okH h) : am_kd h 230 = some (.inr (0, 64)) := ok.kd 230
theorem okT_230 {h : am_H} (ok : am_okH h) : am_tc h 230 = some 0 := by unfold am_tc; rw [okK_230 ok]
theorem okL_230 {h : am_H} (ok : am_okH h) : am_len h 230 = 64 := by unfold am_len; rw [okK_230 ok]
theorem okK_231 {h : am_H} (ok : am_okH h) : am_kd h 231 = some (.inr (0, 9216)) := ok.kd 231
theorem okT_231 {h : am_H} (ok : am_okH h) : am_tc h 231 = some 0 := by unfold am_tc; rw [okK_231 ok]
theorem okL_231 {h : am_H} (ok : am_okH h) : am_len h 231 = 9216 := by unfold am_len; rw [okK_231 ok]
theorem okK_232 {h : am_H} (ok : am_okH h) : am_kd h 232 = some (.inr (0, 66)) := ok.kd 232
theorem okT_232 {h : am_H} (ok : am_okH h) : am_tc h 232 = some 0 := by unfold am_tc; rw [okK_232 ok]
theorem okL_232 {h : am_H} (ok : am_okH h) : am_len h 232 = 66 := by unfold am_len; rw [okK_232 ok]
theorem okK_233 {h : am_H} (ok : am_okH h) : am_kd h 233 = some (.inr (0, 36)) := ok.kd 233
theorem okT_233 {h : am_H} (ok : am_okH h) : am_tc h 233 = some 0 := by unfold am_tc; rw [okK_233 ok]
theorem okL_233 {h : am_H} (ok : am_okH h) : am_len h 233 = 36 := by unfold am_len; rw [okK_233 ok]
theorem okK_234 {h : am_H} (ok : am_okH h) : am_kd h 234 = some (.inr (0, 64)) := ok.kd 234
theorem okT_234 {h : am_H} (ok : am_okH h) : am_tc h 234 = some 0 := by unfold am_tc; rw [okK_234 ok]
theorem okL_234 {h : am_H} (ok : am_okH h) : am_len h 234 = 64 := by unfold am_len; rw [okK_234 ok]
theorem okK_235 {h : am_H} (ok : am_okH h) : am_kd h 235 = some (.inr (0, 6)) := ok.kd 235
theorem okT_235 {h : am_H} (ok : am_okH h) : am_tc h 235 = some 0 := by unfold am_tc; rw [okK_235 ok]
theorem okL_235 {h : am_H} (ok : am_okH h) : am_len h 235 = 6 := by unfold am_len; rw [okK_235 ok]
theorem okK_236 {h : am_H} (ok : am_okH h) : am_kd h 236 = some (.inr (2, 3)) := ok.kd 236
theorem okT_236 {h : am_H} (ok : am_okH h) : am_tc h 236 = some 2 := by unfold am_tc; rw [okK_236 ok]
theorem okL_236 {h : am_H} (ok : am_okH h) : am_len h 236 = 3 := by unfold am_len; rw [okK_236 ok]
theorem am_okH.sI {h : am_H} (ok : am_okH h) (o k : Nat) (v : Int32) : am_okH (am_sI h o k v) := ok
theorem am_okH.sL {h : am_H} (ok : am_okH h) (o k : Nat) (v : Int64) : am_okH (am_sL h o k v) := ok
theorem am_okH.sR {h : am_H} (ok : am_okH h) (o k : Nat) (v : Option Nat) (hm : (o, k) ∈ am_mut) : am_okH (am_sR h o k v) := ⟨ok.1, fun q hq hn => by
  show am_up h.2.2.1 o k v q.1 q.2.1 = _
  unfold am_up
  rw [if_neg (fun z => hn (by rw [z.1, z.2]; exact hm))]
  exact ok.2 q hq hn⟩
theorem am_sI_id {h : am_H} {o k : Nat} {v : Int32} (e : h.1 o k = v) : am_sI h o k v = h := by
  unfold am_sI am_up
  have : (fun a b => if a = o ∧ b = k then v else h.1 a b) = h.1 := by
    funext a b
    split
    · rename_i q
      rw [q.1, q.2]
      exact e.symm
    · rfl
  rw [this]
