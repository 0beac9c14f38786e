/-! part 31: image, again -/
def q_to (h : am_H) (d : Nat) : Prop := am_kd h d = some (.inl 8) ∧ h.2.2.1 d 0 = some (d + 1) ∧ am_kd h (d + 1) = some (.inr (1, 600)) ∧ h.2.2.1 d 4 = some (d + 2) ∧ am_kd h (d + 2) = some (.inr (0, 4)) ∧ h.2.2.1 d 5 = some (d + 3) ∧ am_kd h (d + 3) = some (.inr (4, 2)) ∧ h.2.2.1 (d + 3) 0 = some (d + 7) ∧ h.2.2.1 (d + 3) 1 = some (d + 23) ∧ h.2.2.1 d 6 = some (d + 4) ∧ am_kd h (d + 4) = some (.inr (5, 2)) ∧ h.2.2.1 (d + 4) 0 = some (d + 10) ∧ h.2.2.1 (d + 4) 1 = some (d + 26) ∧ h.2.2.1 d 7 = some (d + 5) ∧ am_kd h (d + 5) = some (.inr (6, 2)) ∧ h.2.2.1 (d + 5) 0 = some (d + 12) ∧ h.2.2.1 (d + 5) 1 = some (d + 28) ∧ h.2.2.1 d 8 = some (d + 6) ∧ am_kd h (d + 6) = some (.inr (7, 2)) ∧ h.2.2.1 (d + 6) 0 = some (d + 18) ∧ h.2.2.1 (d + 6) 1 = some (d + 34) ∧ q_fo h (d + 7) ∧ q_do h (d + 10) ∧ q_bo h (d + 12) ∧ q_lo h (d + 18) ∧ q_fo h (d + 23) ∧ q_do h (d + 26) ∧ q_bo h (d + 28) ∧ q_lo h (d + 34)
theorem q_to_1 {h : am_H} (ok : am_okH h) : q_to h 1 := ⟨okK_1 ok, okR_1_0 ok, okK_2 ok, okR_1_4 ok, okK_3 ok, okR_1_5 ok, okK_4 ok, okR_4_0 ok, okR_4_1 ok, okR_1_6 ok, okK_5 ok, okR_5_0 ok, okR_5_1 ok, okR_1_7 ok, okK_6 ok, okR_6_0 ok, okR_6_1 ok, okR_1_8 ok, okK_7 ok, okR_7_0 ok, okR_7_1 ok, ⟨okK_8 ok, okR_8_7 ok, okR_8_8 ok, okK_9 ok, okK_10 ok⟩, ⟨okK_11 ok, okR_11_1 ok, okK_12 ok⟩, ⟨okK_13 ok, okR_13_3 ok, okR_13_4 ok, okR_13_5 ok, okR_13_6 ok, okR_13_7 ok, okK_14 ok, okK_15 ok, okK_16 ok, okK_17 ok, okK_18 ok⟩, ⟨okK_19 ok, okR_19_1 ok, okR_19_2 ok, okR_19_3 ok, okR_19_4 ok, okK_20 ok, okK_21 ok, okK_22 ok, okK_23 ok⟩, ⟨okK_24 ok, okR_24_7 ok, okR_24_8 ok, okK_25 ok, okK_26 ok⟩, ⟨okK_27 ok, okR_27_1 ok, okK_28 ok⟩, ⟨okK_29 ok, okR_29_3 ok, okR_29_4 ok, okR_29_5 ok, okR_29_6 ok, okR_29_7 ok, okK_30 ok, okK_31 ok, okK_32 ok, okK_33 ok, okK_34 ok⟩, ⟨okK_35 ok, okR_35_1 ok, okR_35_2 ok, okR_35_3 ok, okR_35_4 ok, okK_36 ok, okK_37 ok, okK_38 ok, okK_39 ok⟩⟩
theorem q_to_41 {h : am_H} (ok : am_okH h) : q_to h 41 := ⟨okK_41 ok, okR_41_0 ok, okK_42 ok, okR_41_4 ok, okK_43 ok, okR_41_5 ok, okK_44 ok, okR_44_0 ok, okR_44_1 ok, okR_41_6 ok, okK_45 ok, okR_45_0 ok, okR_45_1 ok, okR_41_7 ok, okK_46 ok, okR_46_0 ok, okR_46_1 ok, okR_41_8 ok, okK_47 ok, okR_47_0 ok, okR_47_1 ok, ⟨okK_48 ok, okR_48_7 ok, okR_48_8 ok, okK_49 ok, okK_50 ok⟩, ⟨okK_51 ok, okR_51_1 ok, okK_52 ok⟩, ⟨okK_53 ok, okR_53_3 ok, okR_53_4 ok, okR_53_5 ok, okR_53_6 ok, okR_53_7 ok, okK_54 ok, okK_55 ok, okK_56 ok, okK_57 ok, okK_58 ok⟩, ⟨okK_59 ok, okR_59_1 ok, okR_59_2 ok, okR_59_3 ok, okR_59_4 ok, okK_60 ok, okK_61 ok, okK_62 ok, okK_63 ok⟩, ⟨okK_64 ok, okR_64_7 ok, okR_64_8 ok, okK_65 ok, okK_66 ok⟩, ⟨okK_67 ok, okR_67_1 ok, okK_68 ok⟩, ⟨okK_69 ok, okR_69_3 ok, okR_69_4 ok, okR_69_5 ok, okR_69_6 ok, okR_69_7 ok, okK_70 ok, okK_71 ok, okK_72 ok, okK_73 ok, okK_74 ok⟩, ⟨okK_75 ok, okR_75_1 ok, okR_75_2 ok, okR_75_3 ok, okR_75_4 ok, okK_76 ok, okK_77 ok, okK_78 ok, okK_79 ok⟩⟩
theorem q_to_80 {h : am_H} (ok : am_okH h) : q_to h 80 := ⟨okK_80 ok, okR_80_0 ok, okK_81 ok, okR_80_4 ok, okK_82 ok, okR_80_5 ok, okK_83 ok, okR_83_0 ok, okR_83_1 ok, okR_80_6 ok, okK_84 ok, okR_84_0 ok, okR_84_1 ok, okR_80_7 ok, okK_85 ok, okR_85_0 ok, okR_85_1 ok, okR_80_8 ok, okK_86 ok, okR_86_0 ok, okR_86_1 ok, ⟨okK_87 ok, okR_87_7 ok, okR_87_8 ok, okK_88 ok, okK_89 ok⟩, ⟨okK_90 ok, okR_90_1 ok, okK_91 ok⟩, ⟨okK_92 ok, okR_92_3 ok, okR_92_4 ok, okR_92_5 ok, okR_92_6 ok, okR_92_7 ok, okK_93 ok, okK_94 ok, okK_95 ok, okK_96 ok, okK_97 ok⟩, ⟨okK_98 ok, okR_98_1 ok, okR_98_2 ok, okR_98_3 ok, okR_98_4 ok, okK_99 ok, okK_100 ok, okK_101 ok, okK_102 ok⟩, ⟨okK_103 ok, okR_103_7 ok, okR_103_8 ok, okK_104 ok, okK_105 ok⟩, ⟨okK_106 ok, okR_106_1 ok, okK_107 ok⟩, ⟨okK_108 ok, okR_108_3 ok, okR_108_4 ok, okR_108_5 ok, okR_108_6 ok, okR_108_7 ok, okK_109 ok, okK_110 ok, okK_111 ok, okK_112 ok, okK_113 ok⟩, ⟨okK_114 ok, okR_114_1 ok, okR_114_2 ok, okR_114_3 ok, okR_114_4 ok, okK_115 ok, okK_116 ok, okK_117 ok, okK_118 ok⟩⟩
theorem q_to_119 {h : am_H} (ok : am_okH h) : q_to h 119 := ⟨okK_119 ok, okR_119_0 ok, okK_120 ok, okR_119_4 ok, okK_121 ok, okR_119_5 ok, okK_122 ok, okR_122_0 ok, okR_122_1 ok, okR_119_6 ok, okK_123 ok, okR_123_0 ok, okR_123_1 ok, okR_119_7 ok, okK_124 ok, okR_124_0 ok, okR_124_1 ok, okR_119_8 ok, okK_125 ok, okR_125_0 ok, okR_125_1 ok, ⟨okK_126 ok, okR_126_7 ok, okR_126_8 ok, okK_127 ok, okK_128 ok⟩, ⟨okK_129 ok, okR_129_1 ok, okK_130 ok⟩, ⟨okK_131 ok, okR_131_3 ok, okR_131_4 ok, okR_131_5 ok, okR_131_6 ok, okR_131_7 ok, okK_132 ok, okK_133 ok, okK_134 ok, okK_135 ok, okK_136 ok⟩, ⟨okK_137 ok, okR_137_1 ok, okR_137_2 ok, okR_137_3 ok, okR_137_4 ok, okK_138 ok, okK_139 ok, okK_140 ok, okK_141 ok⟩, ⟨okK_142 ok, okR_142_7 ok, okR_142_8 ok, okK_143 ok, okK_144 ok⟩, ⟨okK_145 ok, okR_145_1 ok, okK_146 ok⟩, ⟨okK_147 ok, okR_147_3 ok, okR_147_4 ok, okR_147_5 ok, okR_147_6 ok, okR_147_7 ok, okK_148 ok, okK_149 ok, okK_150 ok, okK_151 ok, okK_152 ok⟩, ⟨okK_153 ok, okR_153_1 ok, okR_153_2 ok, okR_153_3 ok, okR_153_4 ok, okK_154 ok, okK_155 ok, okK_156 ok, okK_157 ok⟩⟩
def q_full : List Nat := [4, 600, 4, 0, 0, 0, 0, 6, 6, 6, 1, 40, 3, 5, 5, 8, 8, 10, 1, 8, 8, 8, 8, 6, 6, 6, 1, 40, 3, 5, 5, 8, 8, 10, 1, 8, 8, 8, 8]
def q_tc2 (d s : Nat) (h : am_H) : am_H := q_bL (d + 23) (s + 23) (q_bL (d + 7) (s + 7) (q_bl 1 q_full d s h))
theorem q_bL_kd (d s a : Nat) (h : am_H) : am_kd (q_bL d s h) a = am_kd h a := rfl
theorem q_bL_tc (d s a : Nat) (h : am_H) : am_tc (q_bL d s h) a = am_tc h a := rfl
theorem q_bL_len (d s a : Nat) (h : am_H) : am_len (q_bL d s h) a = am_len h a := rfl
theorem q_bL_rt (d s : Nat) (h : am_H) : (q_bL d s h).2.2 = h.2.2 := rfl
theorem q_bl_z (l0 d s : Nat) (lim : List Nat) (h : am_H) : q_bl l0 (lim ++ [0]) d s h = q_bl l0 lim d s h := by
  have e : ∀ i, (lim ++ [0]).getD i 0 = lim.getD i 0 := fun i => by
    by_cases c : i < lim.length
    · exact q_gl c
    · rw [q_gr (by omega), q_gz (l := lim) (by omega)]
      cases i - lim.length <;> rfl
  unfold q_bl
  simp only [e]
theorem den_tcopy (d s : Nat) (h : am_H) (fd : q_to h d) (fs : q_to h s) (hd : s + 39 ≤ d ∨ d + 39 ≤ s) : am_den 63 [.ref d, .ref s] h = some (none, q_tc2 d s h) := by
  obtain ⟨dk0, dr0, dt0, dr4, dt4, dr5, dt5, dx5_0, dx5_1, dr6, dt6, dx6_0, dx6_1, dr7, dt7, dx7_0, dx7_1, dr8, dt8, dx8_0, dx8_1, df7, df10, df12, df18, df23, df26, df28, df34⟩ := fd
  obtain ⟨sk0, sr0, st0, sr4, st4, sr5, st5, sx5_0, sx5_1, sr6, st6, sx6_0, sx6_1, sr7, st7, sx7_0, sx7_1, sr8, st8, sx8_0, sx8_1, sf7, sf10, sf12, sf18, sf23, sf26, sf28, sf34⟩ := fs
  have n0 : s ≠ d := by omega
  have e1 : am_sI h d 1 (h.1 s 1) = q_bl 1 [2] d s h := q_bl_0 1 d s 1 h rfl
  have e2 := q_bl_f 1 d s 2 h (by decide) n0
  have e3 := q_bl_f 1 d s 3 h (by decide) n0
  have c0 : am_cq (q_bl 1 [4] d s h) (s + 1) (d + 1) 600 = q_bl 1 [4, 600] d s h := q_bl_kk 1 d s 600 [4] h (by decide) (by show s + 2 ≤ d ∨ d + 2 ≤ s; omega)
  have c1 : am_cq (q_bl 1 [4, 600] d s h) (s + 2) (d + 2) 4 = q_bl 1 [4, 600, 4, 0, 0, 0, 0] d s h := by
    rw [show am_cq (q_bl 1 [4, 600] d s h) (s + 2) (d + 2) 4 = q_bl 1 [4, 600, 4] d s h from q_bl_kk 1 d s 4 [4, 600] h (by decide) (by show s + 3 ≤ d ∨ d + 3 ≤ s; omega)]
    exact (q_bl_z 1 d s [4, 600, 4] h).symm.trans ((q_bl_z 1 d s [4, 600, 4, 0] h).symm.trans ((q_bl_z 1 d s [4, 600, 4, 0, 0] h).symm.trans (q_bl_z 1 d s [4, 600, 4, 0, 0, 0] h).symm))
  have a7 : q_bl 0 [6, 6, 6] (d + 7) (s + 7) (q_bl 1 [4, 600, 4, 0, 0, 0, 0] d s h) = q_bl 1 [4, 600, 4, 0, 0, 0, 0, 6, 6, 6] d s h := q_bl_ap 1 d s [4, 600, 4, 0, 0, 0, 0] [6, 6, 6] h (by decide) (by show s + 10 ≤ d ∨ d + 10 ≤ s; omega)
  have m7 : am_den 56 [.ref (d + 7), .ref (s + 7)] (q_bl 1 [4, 600, 4, 0, 0, 0, 0] d s h) = some (none, q_bL (d + 7) (s + 7) (q_bl 1 [4, 600, 4, 0, 0, 0, 0, 6, 6, 6] d s h)) := by
    rw [den_fcopy (d + 7) (s + 7) (q_bl 1 [4, 600, 4, 0, 0, 0, 0] d s h) (df7.of rfl) (sf7.of rfl) (by omega)]
    rw [a7]
  have a10 : q_bl 0 [1, 40] (d + 10) (s + 10) (q_bl 1 [4, 600, 4, 0, 0, 0, 0, 6, 6, 6] d s h) = q_bl 1 [4, 600, 4, 0, 0, 0, 0, 6, 6, 6, 1, 40] d s h := q_bl_ap 1 d s [4, 600, 4, 0, 0, 0, 0, 6, 6, 6] [1, 40] h (by decide) (by show s + 12 ≤ d ∨ d + 12 ≤ s; omega)
  have m10 : am_den 57 [.ref (d + 10), .ref (s + 10)] (q_bL (d + 7) (s + 7) (q_bl 1 [4, 600, 4, 0, 0, 0, 0, 6, 6, 6] d s h)) = some (none, q_bL (d + 7) (s + 7) (q_bl 1 [4, 600, 4, 0, 0, 0, 0, 6, 6, 6, 1, 40] d s h)) := by
    rw [den_docopy (d + 10) (s + 10) (q_bL (d + 7) (s + 7) (q_bl 1 [4, 600, 4, 0, 0, 0, 0, 6, 6, 6] d s h)) (df10.of rfl) (sf10.of rfl) (by omega)]
    rw [q_bL_bl, a10]
  have a12 : q_bl 0 [3, 5, 5, 8, 8, 10] (d + 12) (s + 12) (q_bl 1 [4, 600, 4, 0, 0, 0, 0, 6, 6, 6, 1, 40] d s h) = q_bl 1 [4, 600, 4, 0, 0, 0, 0, 6, 6, 6, 1, 40, 3, 5, 5, 8, 8, 10] d s h := q_bl_ap 1 d s [4, 600, 4, 0, 0, 0, 0, 6, 6, 6, 1, 40] [3, 5, 5, 8, 8, 10] h (by decide) (by show s + 18 ≤ d ∨ d + 18 ≤ s; omega)
  have m12 : am_den 58 [.ref (d + 12), .ref (s + 12)] (q_bL (d + 7) (s + 7) (q_bl 1 [4, 600, 4, 0, 0, 0, 0, 6, 6, 6, 1, 40] d s h)) = some (none, q_bL (d + 7) (s + 7) (q_bl 1 [4, 600, 4, 0, 0, 0, 0, 6, 6, 6, 1, 40, 3, 5, 5, 8, 8, 10] d s h)) := by
    rw [den_bocopy (d + 12) (s + 12) (q_bL (d + 7) (s + 7) (q_bl 1 [4, 600, 4, 0, 0, 0, 0, 6, 6, 6, 1, 40] d s h)) (df12.of rfl) (sf12.of rfl) (by omega)]
    rw [q_bL_bl, a12]
  have a18 : q_bl 0 [1, 8, 8, 8, 8] (d + 18) (s + 18) (q_bl 1 [4, 600, 4, 0, 0, 0, 0, 6, 6, 6, 1, 40, 3, 5, 5, 8, 8, 10] d s h) = q_bl 1 [4, 600, 4, 0, 0, 0, 0, 6, 6, 6, 1, 40, 3, 5, 5, 8, 8, 10, 1, 8, 8, 8, 8] d s h := q_bl_ap 1 d s [4, 600, 4, 0, 0, 0, 0, 6, 6, 6, 1, 40, 3, 5, 5, 8, 8, 10] [1, 8, 8, 8, 8] h (by decide) (by show s + 23 ≤ d ∨ d + 23 ≤ s; omega)
  have m18 : am_den 59 [.ref (d + 18), .ref (s + 18)] (q_bL (d + 7) (s + 7) (q_bl 1 [4, 600, 4, 0, 0, 0, 0, 6, 6, 6, 1, 40, 3, 5, 5, 8, 8, 10] d s h)) = some (none, q_bL (d + 7) (s + 7) (q_bl 1 [4, 600, 4, 0, 0, 0, 0, 6, 6, 6, 1, 40, 3, 5, 5, 8, 8, 10, 1, 8, 8, 8, 8] d s h)) := by
    rw [den_locopy (d + 18) (s + 18) (q_bL (d + 7) (s + 7) (q_bl 1 [4, 600, 4, 0, 0, 0, 0, 6, 6, 6, 1, 40, 3, 5, 5, 8, 8, 10] d s h)) (df18.of rfl) (sf18.of rfl) (by omega)]
    rw [q_bL_bl, a18]
  have a23 : q_bl 0 [6, 6, 6] (d + 23) (s + 23) (q_bl 1 [4, 600, 4, 0, 0, 0, 0, 6, 6, 6, 1, 40, 3, 5, 5, 8, 8, 10, 1, 8, 8, 8, 8] d s h) = q_bl 1 [4, 600, 4, 0, 0, 0, 0, 6, 6, 6, 1, 40, 3, 5, 5, 8, 8, 10, 1, 8, 8, 8, 8, 6, 6, 6] d s h := q_bl_ap 1 d s [4, 600, 4, 0, 0, 0, 0, 6, 6, 6, 1, 40, 3, 5, 5, 8, 8, 10, 1, 8, 8, 8, 8] [6, 6, 6] h (by decide) (by show s + 26 ≤ d ∨ d + 26 ≤ s; omega)
  have m23 : am_den 56 [.ref (d + 23), .ref (s + 23)] (q_bL (d + 7) (s + 7) (q_bl 1 [4, 600, 4, 0, 0, 0, 0, 6, 6, 6, 1, 40, 3, 5, 5, 8, 8, 10, 1, 8, 8, 8, 8] d s h)) = some (none, q_bL (d + 23) (s + 23) (q_bL (d + 7) (s + 7) (q_bl 1 [4, 600, 4, 0, 0, 0, 0, 6, 6, 6, 1, 40, 3, 5, 5, 8, 8, 10, 1, 8, 8, 8, 8, 6, 6, 6] d s h))) := by
    rw [den_fcopy (d + 23) (s + 23) (q_bL (d + 7) (s + 7) (q_bl 1 [4, 600, 4, 0, 0, 0, 0, 6, 6, 6, 1, 40, 3, 5, 5, 8, 8, 10, 1, 8, 8, 8, 8] d s h)) (df23.of rfl) (sf23.of rfl) (by omega)]
    rw [q_bL_bl, a23]
  have a26 : q_bl 0 [1, 40] (d + 26) (s + 26) (q_bl 1 [4, 600, 4, 0, 0, 0, 0, 6, 6, 6, 1, 40, 3, 5, 5, 8, 8, 10, 1, 8, 8, 8, 8, 6, 6, 6] d s h) = q_bl 1 [4, 600, 4, 0, 0, 0, 0, 6, 6, 6, 1, 40, 3, 5, 5, 8, 8, 10, 1, 8, 8, 8, 8, 6, 6, 6, 1, 40] d s h := q_bl_ap 1 d s [4, 600, 4, 0, 0, 0, 0, 6, 6, 6, 1, 40, 3, 5, 5, 8, 8, 10, 1, 8, 8, 8, 8, 6, 6, 6] [1, 40] h (by decide) (by show s + 28 ≤ d ∨ d + 28 ≤ s; omega)
  have m26 : am_den 57 [.ref (d + 26), .ref (s + 26)] (q_bL (d + 23) (s + 23) (q_bL (d + 7) (s + 7) (q_bl 1 [4, 600, 4, 0, 0, 0, 0, 6, 6, 6, 1, 40, 3, 5, 5, 8, 8, 10, 1, 8, 8, 8, 8, 6, 6, 6] d s h))) = some (none, q_bL (d + 23) (s + 23) (q_bL (d + 7) (s + 7) (q_bl 1 [4, 600, 4, 0, 0, 0, 0, 6, 6, 6, 1, 40, 3, 5, 5, 8, 8, 10, 1, 8, 8, 8, 8, 6, 6, 6, 1, 40] d s h))) := by
    rw [den_docopy (d + 26) (s + 26) (q_bL (d + 23) (s + 23) (q_bL (d + 7) (s + 7) (q_bl 1 [4, 600, 4, 0, 0, 0, 0, 6, 6, 6, 1, 40, 3, 5, 5, 8, 8, 10, 1, 8, 8, 8, 8, 6, 6, 6] d s h))) (df26.of rfl) (sf26.of rfl) (by omega)]
    rw [q_bL_bl, q_bL_bl, a26]
  have a28 : q_bl 0 [3, 5, 5, 8, 8, 10] (d + 28) (s + 28) (q_bl 1 [4, 600, 4, 0, 0, 0, 0, 6, 6, 6, 1, 40, 3, 5, 5, 8, 8, 10, 1, 8, 8, 8, 8, 6, 6, 6, 1, 40] d s h) = q_bl 1 [4, 600, 4, 0, 0, 0, 0, 6, 6, 6, 1, 40, 3, 5, 5, 8, 8, 10, 1, 8, 8, 8, 8, 6, 6, 6, 1, 40, 3, 5, 5, 8, 8, 10] d s h := q_bl_ap 1 d s [4, 600, 4, 0, 0, 0, 0, 6, 6, 6, 1, 40, 3, 5, 5, 8, 8, 10, 1, 8, 8, 8, 8, 6, 6, 6, 1, 40] [3, 5, 5, 8, 8, 10] h (by decide) (by show s + 34 ≤ d ∨ d + 34 ≤ s; omega)
  have m28 : am_den 58 [.ref (d + 28), .ref (s + 28)] (q_bL (d + 23) (s + 23) (q_bL (d + 7) (s + 7) (q_bl 1 [4, 600, 4, 0, 0, 0, 0, 6, 6, 6, 1, 40, 3, 5, 5, 8, 8, 10, 1, 8, 8, 8, 8, 6, 6, 6, 1, 40] d s h))) = some (none, q_bL (d + 23) (s + 23) (q_bL (d + 7) (s + 7) (q_bl 1 [4, 600, 4, 0, 0, 0, 0, 6, 6, 6, 1, 40, 3, 5, 5, 8, 8, 10, 1, 8, 8, 8, 8, 6, 6, 6, 1, 40, 3, 5, 5, 8, 8, 10] d s h))) := by
    rw [den_bocopy (d + 28) (s + 28) (q_bL (d + 23) (s + 23) (q_bL (d + 7) (s + 7) (q_bl 1 [4, 600, 4, 0, 0, 0, 0, 6, 6, 6, 1, 40, 3, 5, 5, 8, 8, 10, 1, 8, 8, 8, 8, 6, 6, 6, 1, 40] d s h))) (df28.of rfl) (sf28.of rfl) (by omega)]
    rw [q_bL_bl, q_bL_bl, a28]
  have a34 : q_bl 0 [1, 8, 8, 8, 8] (d + 34) (s + 34) (q_bl 1 [4, 600, 4, 0, 0, 0, 0, 6, 6, 6, 1, 40, 3, 5, 5, 8, 8, 10, 1, 8, 8, 8, 8, 6, 6, 6, 1, 40, 3, 5, 5, 8, 8, 10] d s h) = q_bl 1 [4, 600, 4, 0, 0, 0, 0, 6, 6, 6, 1, 40, 3, 5, 5, 8, 8, 10, 1, 8, 8, 8, 8, 6, 6, 6, 1, 40, 3, 5, 5, 8, 8, 10, 1, 8, 8, 8, 8] d s h := q_bl_ap 1 d s [4, 600, 4, 0, 0, 0, 0, 6, 6, 6, 1, 40, 3, 5, 5, 8, 8, 10, 1, 8, 8, 8, 8, 6, 6, 6, 1, 40, 3, 5, 5, 8, 8, 10] [1, 8, 8, 8, 8] h (by decide) (by show s + 39 ≤ d ∨ d + 39 ≤ s; omega)
  have m34 : am_den 59 [.ref (d + 34), .ref (s + 34)] (q_bL (d + 23) (s + 23) (q_bL (d + 7) (s + 7) (q_bl 1 [4, 600, 4, 0, 0, 0, 0, 6, 6, 6, 1, 40, 3, 5, 5, 8, 8, 10, 1, 8, 8, 8, 8, 6, 6, 6, 1, 40, 3, 5, 5, 8, 8, 10] d s h))) = some (none, q_bL (d + 23) (s + 23) (q_bL (d + 7) (s + 7) (q_bl 1 [4, 600, 4, 0, 0, 0, 0, 6, 6, 6, 1, 40, 3, 5, 5, 8, 8, 10, 1, 8, 8, 8, 8, 6, 6, 6, 1, 40, 3, 5, 5, 8, 8, 10, 1, 8, 8, 8, 8] d s h))) := by
    rw [den_locopy (d + 34) (s + 34) (q_bL (d + 23) (s + 23) (q_bL (d + 7) (s + 7) (q_bl 1 [4, 600, 4, 0, 0, 0, 0, 6, 6, 6, 1, 40, 3, 5, 5, 8, 8, 10, 1, 8, 8, 8, 8, 6, 6, 6, 1, 40, 3, 5, 5, 8, 8, 10] d s h))) (df34.of rfl) (sf34.of rfl) (by omega)]
    rw [q_bL_bl, q_bL_bl, a34]
  have i0 : am_ix 0 2 = true := by decide
  have i1 : am_ix 1 2 = true := by decide
  have z0 : (0 : Int32).toNatClampNeg = 0 := by decide
  have z1 : (1 : Int32).toNatClampNeg = 1 := by decide
  have p0 : (0 : Int32) + 1 = 1 := by decide
  have p1 : (1 : Int32) + 1 = 2 := by decide
  have g0 : ¬ (2 : Int32) ≤ 0 := by decide
  have g1 : ¬ (2 : Int32) ≤ 1 := by decide
  have g2 : (2 : Int32) ≤ 2 := by decide
  show am_ev 63 0 [some (.ref d), some (.ref s), none] [] h = _
  simp only [e63_0, e63_1, e63_2, e63_5, e63_8, e63_9, e63_10, e63_13, e63_16, e63_17, e63_18, e63_21, e63_24, e63_25, e63_28, e63_29, e63_30, e63_33, e63_34, e63_37i, e63_37b, e63_40, e63_41, e63_44, e63_45, e63_46, e63_49, e63_50, e63_51i, e63_51b, e63_54, e63_55, e63_56, e63_57, e63_58, e63_61, e63_62, e63_65, e63_66f, e63_66d, e63_66b, e63_66l, e63_66t, e63_67, e63_68, e63_71, e63_72f, e63_72d, e63_72b, e63_72l, e63_72t, e63_73, e63_76, e63_77, e63_80, e63_81f, e63_81d, e63_81b, e63_81l, e63_81t, e63_82, e63_83, e63_86, e63_87f, e63_87d, e63_87b, e63_87l, e63_87t, e63_88, e63_91, e63_92, e63_95, e63_96f, e63_96d, e63_96b, e63_96l, e63_96t, e63_97, e63_98, e63_101, e63_102f, e63_102d, e63_102b, e63_102l, e63_102t, e63_103, e63_106, e63_107, e63_110, e63_111f, e63_111d, e63_111b, e63_111l, e63_111t, e63_112, e63_113, e63_116, e63_117f, e63_117d, e63_117b, e63_117l, e63_117t, e63_118, e63_121, e63_124, e63_127, am_bd_some, Option.toList_some, Option.toList_none, List.cons_append, List.nil_append, am_w8_0, am_w8_1, am_w8_2, am_w8_3, am_w8_4, eq_self, or_true, true_or, am_kd_sI, am_kd_sL, am_kd_sR, am_tc_sI, am_tc_sL, am_tc_sR, am_len_sI, am_len_sL, am_len_sR, am_rfs, if_true, if_false, am_rdL_sI, am_rR_sL, am_rt_cq, am_kd_cq, am_tc_cq, am_len_cq, am_rd_sL, am_rd_sR, am_rdL_sR, q_bl_kd, q_bl_tc, q_bl_len, q_bl_rt, q_bL_kd, q_bL_tc, q_bL_len, q_bL_rt, dk0, dr0, q_tc dt0, q_ln dt0, dr4, q_tc dt4, q_ln dt4, dr5, q_tc dt5, q_ln dt5, dx5_0, dx5_1, dr6, q_tc dt6, q_ln dt6, dx6_0, dx6_1, dr7, q_tc dt7, q_ln dt7, dx7_0, dx7_1, dr8, q_tc dt8, q_ln dt8, dx8_0, dx8_1, df7.1, df10.1, df12.1, df18.1, df23.1, df26.1, df28.1, df34.1, sk0, sr0, q_tc st0, q_ln st0, sr4, q_tc st4, q_ln st4, sr5, q_tc st5, q_ln st5, sx5_0, sx5_1, sr6, q_tc st6, q_ln st6, sx6_0, sx6_1, sr7, q_tc st7, q_ln st7, sx7_0, sx7_1, sr8, q_tc st8, q_ln st8, sx8_0, sx8_1, sf7.1, sf10.1, sf12.1, sf18.1, sf23.1, sf26.1, sf28.1, sf34.1, Nat.le_refl, i0, i1, z0, z1, p0, p1, g0, g1, g2, e1, e2, e3, c0, c1, m7, m10, m12, m18, m23, m26, m28, m34]
  rfl
/-! the reference's copies -/
def q_cr (f : Int32 → Int32) (a F T i : Nat) (h : am_H) : am_H := (fun b k => if b = a ∧ T ≤ k ∧ k < T + i then f (h.1 a (F + (k - T))) else h.1 b k, h.2)
theorem q_cr_rd (f : Int32 → Int32) (a F T i : Nat) (h : am_H) (b k : Nat) : (q_cr f a F T i h).1 b k = if b = a ∧ T ≤ k ∧ k < T + i then f (h.1 a (F + (k - T))) else h.1 b k := rfl
theorem q_cr_0 (f : Int32 → Int32) (a F T : Nat) (h : am_H) : q_cr f a F T 0 h = h := q_H_ext (fun b k => by rw [q_cr_rd, if_neg (by omega)]) rfl
theorem q_cr_s (f : Int32 → Int32) (a F T i n : Nat) (h : am_H) (hi : i < n) (hd : F + n ≤ T ∨ T + n ≤ F) : am_sI (q_cr f a F T i h) a (T + i) (f ((q_cr f a F T i h).1 a (F + i))) = q_cr f a F T (i + 1) h := by
  refine q_H_ext (fun b k => ?_) rfl
  have e1 : (q_cr f a F T i h).1 a (F + i) = h.1 a (F + i) := by rw [q_cr_rd, if_neg (by omega)]
  rw [e1, am_rd_sI, q_cr_rd, q_cr_rd]
  by_cases c : b = a
  · subst c
    by_cases c1 : k = T + i
    · subst c1
      rw [if_pos ⟨rfl, rfl⟩, if_pos ⟨rfl, by omega, by omega⟩, Nat.add_sub_cancel_left]
    · rw [if_neg (fun q => c1 q.2)]
      by_cases c2 : T ≤ k ∧ k < T + i
      · rw [if_pos ⟨rfl, c2⟩, if_pos ⟨rfl, c2.1, by omega⟩]
      · rw [if_neg (fun q => c2 q.2), if_neg (fun q => c2 ⟨q.2.1, by omega⟩)]
  · rw [if_neg (fun q => c q.1), if_neg (fun q => c q.1), if_neg (fun q => c q.1)]
theorem q_cr_kd (f : Int32 → Int32) (a F T i : Nat) (h : am_H) (b : Nat) : am_kd (q_cr f a F T i h) b = am_kd h b := rfl
theorem q_cr_tc (f : Int32 → Int32) (a F T i : Nat) (h : am_H) (b : Nat) : am_tc (q_cr f a F T i h) b = am_tc h b := rfl
theorem q_cr_len (f : Int32 → Int32) (a F T i : Nat) (h : am_H) (b : Nat) : am_len (q_cr f a F T i h) b = am_len h b := rfl
theorem q_cr_rt (f : Int32 → Int32) (a F T i : Nat) (h : am_H) : (q_cr f a F T i h).2 = h.2 := rfl
theorem q_row_l (a n f t m : Nat) (h : am_H) (ht : am_kd h a = some (.inr (0, m))) (hf : n * f + n ≤ m) (htm : n * t + n ≤ m) (hm : m < 100000) (hn : n < 1000) (hd : n * f + n ≤ n * t ∨ n * t + n ≤ n * f) : ∀ r i : Nat, i + r = n → am_ev 296 3 [some (.ref a), some (.int (nI n)), some (.int (nI f)), some (.int (nI t)), some (.int (nI i))] [] (q_cr id a (n * f) (n * t) i h) = some (none, q_cr id a (n * f) (n * t) n h) := by
  intro r
  induction r with
  | zero =>
    intro i hi
    obtain rfl : i = n := by omega
    have h1 : nI i ≤ nI i := Int32.le_refl _
    rw [e296_3]
    simp only [e296_0, e296_1, e296_5, e296_6, e296_9, e296_10, e296_11, e296_12, e296_13, e296_15, e296_16, e296_17, e296_18, e296_19, e296_20, e296_22, e296_23, e296_24, e296_25, e296_28, e296_31, h1, if_true]
  | succ r ih =>
    intro i hi
    have h1 : ¬ nI n ≤ nI i := nI_ge (by omega) (by omega)
    have x1 : am_ix (nI (n * t + i)) m = true := am_ix_nI (by omega) (by omega)
    have x2 : am_ix (nI (n * f + i)) m = true := am_ix_nI (by omega) (by omega)
    have z1 : (nI (n * t + i)).toNatClampNeg = n * t + i := nI_clamp (by omega)
    have z2 : (nI (n * f + i)).toNatClampNeg = n * f + i := nI_clamp (by omega)
    have e1 : am_sI (q_cr id a (n * f) (n * t) i h) a (n * t + i) ((q_cr id a (n * f) (n * t) i h).1 a (n * f + i)) = q_cr id a (n * f) (n * t) (i + 1) h := q_cr_s id a (n * f) (n * t) i n h (by omega) hd
    rw [e296_3]
    simp only [e296_0, e296_1, e296_5, e296_6, e296_9, e296_10, e296_11, e296_12, e296_13, e296_15, e296_16, e296_17, e296_18, e296_19, e296_20, e296_22, e296_23, e296_24, e296_25, e296_28, e296_31, am_bd_some, Option.toList_some, Option.toList_none, List.cons_append, List.nil_append, am_w8_0, am_w8_1, am_w8_2, am_w8_3, am_w8_4, eq_self, or_true, true_or, am_kd_sI, am_kd_sL, am_kd_sR, am_tc_sI, am_tc_sL, am_tc_sR, am_len_sI, am_len_sL, am_len_sR, am_rfs, if_true, if_false, am_rdL_sI, am_rR_sL, am_rt_cq, am_kd_cq, am_tc_cq, am_len_cq, am_rd_sL, am_rd_sR, am_rdL_sR, h1, pk_mul, nI_add, q_cr_tc, q_cr_len, q_tc ht, q_ln ht, x1, x2, z1, z2, e1, nI_1]
    exact ih (i + 1) (by omega)
theorem den_row (a n f t m : Nat) (h : am_H) (ht : am_kd h a = some (.inr (0, m))) (hf : n * f + n ≤ m) (htm : n * t + n ≤ m) (hm : m < 100000) (hn : n < 1000) (hd : n * f + n ≤ n * t ∨ n * t + n ≤ n * f) : am_den 296 [.ref a, .int (nI n), .int (nI f), .int (nI t)] h = some (none, q_cr id a (n * f) (n * t) n h) := by
  show am_ev 296 0 [some (.ref a), some (.int (nI n)), some (.int (nI f)), some (.int (nI t)), none] [] h = _
  have e := q_row_l a n f t m h ht hf htm hm hn hd n 0 (by omega)
  rw [q_cr_0, nI_0] at e
  simp only [e296_0, e296_1]
  exact e
def q_bb (v : Int32) : Int32 := am_byte (am_byte v)
theorem q_tp_l (f t : Nat) (h : am_H) (ok : am_okH h) (o : Nat) (hf : 600 * f + 600 ≤ 2400) (htm : 600 * t + 600 ≤ 2400) (hd : 600 * f + 600 ≤ 600 * t ∨ 600 * t + 600 ≤ 600 * f) : ∀ r i : Nat, i + r = 600 → am_ev 295 2 [some (.ref 211), some (.int (nI f)), some (.int (nI t)), some (.int (nI i))] [] (q_cr q_bb 212 (600 * f) (600 * t) i h) = am_ev 295 39 [some (.ref 211), some (.int (nI f)), some (.int (nI t)), some (.int (nI 600))] [] (q_cr q_bb 212 (600 * f) (600 * t) 600 h) := by
  intro r
  induction r with
  | zero =>
    intro i hi
    obtain rfl : i = 600 := by omega
    have h1 : (600 : Int32) ≤ nI 600 := by decide
    rw [e295_2]
    simp only [e295_0, e295_1, e295_3, e295_6, e295_9, e295_10, e295_13, e295_16, e295_17, e295_18, e295_19, e295_20, e295_21, e295_24, e295_27, e295_28, e295_29, e295_30, e295_31, e295_31z, e295_32, e295_32z, e295_33, e295_36, e295_40, e295_43, e295_44, e295_45, e295_46, e295_49, e295_50, e295_53, e295_54, e295_55, e295_56, e295_59, e295_60, e295_63, e295_64, e295_65, e295_66, e295_69, e295_70, e295_73, e295_74, e295_75, e295_76, e295_79, e295_80, e295_83, e295_85, e295_86, e295_87, e295_90, e295_91, e295_94, e295_97, e295_98, e295_99, e295_102, e295_103, e295_106, e295_108, e295_109, e295_110, e295_113, e295_114, e295_117, e295_119, e295_120, e295_121, e295_124, h1, if_true]
  | succ r ih =>
    intro i hi
    have h1 : ¬ (600 : Int32) ≤ nI i := fun q => nI_ge (b := 600) (a := i) (by omega) (by decide) q
    have x1 : am_ix (nI (600 * t + i)) 2400 = true := am_ix_nI (by omega) (by omega)
    have x2 : am_ix (nI (600 * f + i)) 2400 = true := am_ix_nI (by omega) (by omega)
    have z1 : (nI (600 * t + i)).toNatClampNeg = 600 * t + i := nI_clamp (by omega)
    have z2 : (nI (600 * f + i)).toNatClampNeg = 600 * f + i := nI_clamp (by omega)
    have m1 : (600 : Int32) * nI t = nI (600 * t) := pk_mul 600 t
    have m2 : (600 : Int32) * nI f = nI (600 * f) := pk_mul 600 f
    have e1 : am_sI (q_cr q_bb 212 (600 * f) (600 * t) i h) 212 (600 * t + i) (am_byte (am_byte ((q_cr q_bb 212 (600 * f) (600 * t) i h).1 212 (600 * f + i)))) = q_cr q_bb 212 (600 * f) (600 * t) (i + 1) h := q_cr_s q_bb 212 (600 * f) (600 * t) i 600 h (by omega) hd
    rw [e295_2]
    simp only [e295_0, e295_1, e295_3, e295_6, e295_9, e295_10, e295_13, e295_16, e295_17, e295_18, e295_19, e295_20, e295_21, e295_24, e295_27, e295_28, e295_29, e295_30, e295_31, e295_31z, e295_32, e295_32z, e295_33, e295_36, e295_40, e295_43, e295_44, e295_45, e295_46, e295_49, e295_50, e295_53, e295_54, e295_55, e295_56, e295_59, e295_60, e295_63, e295_64, e295_65, e295_66, e295_69, e295_70, e295_73, e295_74, e295_75, e295_76, e295_79, e295_80, e295_83, e295_85, e295_86, e295_87, e295_90, e295_91, e295_94, e295_97, e295_98, e295_99, e295_102, e295_103, e295_106, e295_108, e295_109, e295_110, e295_113, e295_114, e295_117, e295_119, e295_120, e295_121, e295_124, am_bd_some, Option.toList_some, Option.toList_none, List.cons_append, List.nil_append, am_w8_0, am_w8_1, am_w8_2, am_w8_3, am_w8_4, eq_self, or_true, true_or, am_kd_sI, am_kd_sL, am_kd_sR, am_tc_sI, am_tc_sL, am_tc_sR, am_len_sI, am_len_sL, am_len_sR, am_rfs, if_true, if_false, am_rdL_sI, am_rR_sL, am_rt_cq, am_kd_cq, am_tc_cq, am_len_cq, am_rd_sL, am_rd_sR, am_rdL_sR, h1, m1, m2, nI_add, q_cr_kd, q_cr_tc, q_cr_len, q_cr_rt, okK_211 ok, okR_211_1 ok, okT_212 ok, okL_212 ok, x1, x2, z1, z2, e1, nI_1]
    exact ih (i + 1) (by omega)

def q_ca (f t : Nat) (h : am_H) : am_H := q_cr id 220 (98 * f) (98 * t) 98 (q_cr id 219 (78 * f) (78 * t) 78 (q_cr id 218 (162 * f) (162 * t) 162 (q_cr id 217 (68 * f) (68 * t) 68 (q_cr id 216 (4 * f) (4 * t) 4 (q_cr id 215 (1 * f) (1 * t) 1 (q_cr id 214 (1 * f) (1 * t) 1 (q_cr id 213 (1 * f) (1 * t) 1 (q_cr q_bb 212 (600 * f) (600 * t) 600 h))))))))
theorem den_all (f t : Nat) (h : am_H) (ok : am_okH h) (hf : f < 4) (ht : t < 4) (hd : f < t ∨ t < f) : am_den 295 [.ref 211, .int (nI f), .int (nI t)] h = some (none, q_ca f t h) := by
  show am_ev 295 0 [some (.ref 211), some (.int (nI f)), some (.int (nI t)), none] [] h = _
  have e0 := q_tp_l f t h ok 0 (by omega) (by omega) (by omega) 600 0 (by omega)
  rw [q_cr_0, nI_0] at e0
  have m213 : am_den 296 [.ref 213, .int 1, .int (nI f), .int (nI t)] (q_cr q_bb 212 (600 * f) (600 * t) 600 h) = some (none, q_cr id 213 (1 * f) (1 * t) 1 (q_cr q_bb 212 (600 * f) (600 * t) 600 h)) := den_row 213 1 f t 4 _ (okK_213 ok) (by omega) (by omega) (by decide) (by decide) (by omega)
  have m214 : am_den 296 [.ref 214, .int 1, .int (nI f), .int (nI t)] (q_cr id 213 (1 * f) (1 * t) 1 (q_cr q_bb 212 (600 * f) (600 * t) 600 h)) = some (none, q_cr id 214 (1 * f) (1 * t) 1 (q_cr id 213 (1 * f) (1 * t) 1 (q_cr q_bb 212 (600 * f) (600 * t) 600 h))) := den_row 214 1 f t 4 _ (okK_214 ok) (by omega) (by omega) (by decide) (by decide) (by omega)
  have m215 : am_den 296 [.ref 215, .int 1, .int (nI f), .int (nI t)] (q_cr id 214 (1 * f) (1 * t) 1 (q_cr id 213 (1 * f) (1 * t) 1 (q_cr q_bb 212 (600 * f) (600 * t) 600 h))) = some (none, q_cr id 215 (1 * f) (1 * t) 1 (q_cr id 214 (1 * f) (1 * t) 1 (q_cr id 213 (1 * f) (1 * t) 1 (q_cr q_bb 212 (600 * f) (600 * t) 600 h)))) := den_row 215 1 f t 4 _ (okK_215 ok) (by omega) (by omega) (by decide) (by decide) (by omega)
  have m216 : am_den 296 [.ref 216, .int 4, .int (nI f), .int (nI t)] (q_cr id 215 (1 * f) (1 * t) 1 (q_cr id 214 (1 * f) (1 * t) 1 (q_cr id 213 (1 * f) (1 * t) 1 (q_cr q_bb 212 (600 * f) (600 * t) 600 h)))) = some (none, q_cr id 216 (4 * f) (4 * t) 4 (q_cr id 215 (1 * f) (1 * t) 1 (q_cr id 214 (1 * f) (1 * t) 1 (q_cr id 213 (1 * f) (1 * t) 1 (q_cr q_bb 212 (600 * f) (600 * t) 600 h))))) := den_row 216 4 f t 16 _ (okK_216 ok) (by omega) (by omega) (by decide) (by decide) (by omega)
  have m217 : am_den 296 [.ref 217, .int 68, .int (nI f), .int (nI t)] (q_cr id 216 (4 * f) (4 * t) 4 (q_cr id 215 (1 * f) (1 * t) 1 (q_cr id 214 (1 * f) (1 * t) 1 (q_cr id 213 (1 * f) (1 * t) 1 (q_cr q_bb 212 (600 * f) (600 * t) 600 h))))) = some (none, q_cr id 217 (68 * f) (68 * t) 68 (q_cr id 216 (4 * f) (4 * t) 4 (q_cr id 215 (1 * f) (1 * t) 1 (q_cr id 214 (1 * f) (1 * t) 1 (q_cr id 213 (1 * f) (1 * t) 1 (q_cr q_bb 212 (600 * f) (600 * t) 600 h)))))) := den_row 217 68 f t 272 _ (okK_217 ok) (by omega) (by omega) (by decide) (by decide) (by omega)
  have m218 : am_den 296 [.ref 218, .int 162, .int (nI f), .int (nI t)] (q_cr id 217 (68 * f) (68 * t) 68 (q_cr id 216 (4 * f) (4 * t) 4 (q_cr id 215 (1 * f) (1 * t) 1 (q_cr id 214 (1 * f) (1 * t) 1 (q_cr id 213 (1 * f) (1 * t) 1 (q_cr q_bb 212 (600 * f) (600 * t) 600 h)))))) = some (none, q_cr id 218 (162 * f) (162 * t) 162 (q_cr id 217 (68 * f) (68 * t) 68 (q_cr id 216 (4 * f) (4 * t) 4 (q_cr id 215 (1 * f) (1 * t) 1 (q_cr id 214 (1 * f) (1 * t) 1 (q_cr id 213 (1 * f) (1 * t) 1 (q_cr q_bb 212 (600 * f) (600 * t) 600 h))))))) := den_row 218 162 f t 648 _ (okK_218 ok) (by omega) (by omega) (by decide) (by decide) (by omega)
  have m219 : am_den 296 [.ref 219, .int 78, .int (nI f), .int (nI t)] (q_cr id 218 (162 * f) (162 * t) 162 (q_cr id 217 (68 * f) (68 * t) 68 (q_cr id 216 (4 * f) (4 * t) 4 (q_cr id 215 (1 * f) (1 * t) 1 (q_cr id 214 (1 * f) (1 * t) 1 (q_cr id 213 (1 * f) (1 * t) 1 (q_cr q_bb 212 (600 * f) (600 * t) 600 h))))))) = some (none, q_cr id 219 (78 * f) (78 * t) 78 (q_cr id 218 (162 * f) (162 * t) 162 (q_cr id 217 (68 * f) (68 * t) 68 (q_cr id 216 (4 * f) (4 * t) 4 (q_cr id 215 (1 * f) (1 * t) 1 (q_cr id 214 (1 * f) (1 * t) 1 (q_cr id 213 (1 * f) (1 * t) 1 (q_cr q_bb 212 (600 * f) (600 * t) 600 h)))))))) := den_row 219 78 f t 312 _ (okK_219 ok) (by omega) (by omega) (by decide) (by decide) (by omega)
  have m220 : am_den 296 [.ref 220, .int 98, .int (nI f), .int (nI t)] (q_cr id 219 (78 * f) (78 * t) 78 (q_cr id 218 (162 * f) (162 * t) 162 (q_cr id 217 (68 * f) (68 * t) 68 (q_cr id 216 (4 * f) (4 * t) 4 (q_cr id 215 (1 * f) (1 * t) 1 (q_cr id 214 (1 * f) (1 * t) 1 (q_cr id 213 (1 * f) (1 * t) 1 (q_cr q_bb 212 (600 * f) (600 * t) 600 h)))))))) = some (none, q_cr id 220 (98 * f) (98 * t) 98 (q_cr id 219 (78 * f) (78 * t) 78 (q_cr id 218 (162 * f) (162 * t) 162 (q_cr id 217 (68 * f) (68 * t) 68 (q_cr id 216 (4 * f) (4 * t) 4 (q_cr id 215 (1 * f) (1 * t) 1 (q_cr id 214 (1 * f) (1 * t) 1 (q_cr id 213 (1 * f) (1 * t) 1 (q_cr q_bb 212 (600 * f) (600 * t) 600 h))))))))) := den_row 220 98 f t 392 _ (okK_220 ok) (by omega) (by omega) (by decide) (by decide) (by omega)
  rw [e295_0, e295_1, e0]
  simp only [e295_0, e295_1, e295_3, e295_6, e295_9, e295_10, e295_13, e295_16, e295_17, e295_18, e295_19, e295_20, e295_21, e295_24, e295_27, e295_28, e295_29, e295_30, e295_31, e295_31z, e295_32, e295_32z, e295_33, e295_36, e295_39, e295_40, e295_43, e295_44, e295_45, e295_46, e295_49, e295_50, e295_53, e295_54, e295_55, e295_56, e295_59, e295_60, e295_63, e295_64, e295_65, e295_66, e295_69, e295_70, e295_73, e295_74, e295_75, e295_76, e295_79, e295_80, e295_83, e295_85, e295_86, e295_87, e295_90, e295_91, e295_94, e295_97, e295_98, e295_99, e295_102, e295_103, e295_106, e295_108, e295_109, e295_110, e295_113, e295_114, e295_117, e295_119, e295_120, e295_121, e295_124, am_bd_some, Option.toList_some, Option.toList_none, List.cons_append, List.nil_append, am_w8_0, am_w8_1, am_w8_2, am_w8_3, am_w8_4, eq_self, or_true, true_or, am_kd_sI, am_kd_sL, am_kd_sR, am_tc_sI, am_tc_sL, am_tc_sR, am_len_sI, am_len_sL, am_len_sR, am_rfs, if_true, if_false, am_rdL_sI, am_rR_sL, am_rt_cq, am_kd_cq, am_tc_cq, am_len_cq, am_rd_sL, am_rd_sR, am_rdL_sR, q_cr_kd, q_cr_tc, q_cr_len, q_cr_rt, okK_211 ok, m213, okR_211_2 ok, m214, okR_211_3 ok, m215, okR_211_4 ok, m216, okR_211_5 ok, m217, okR_211_6 ok, m218, okR_211_7 ok, m219, okR_211_8 ok, m220, okR_211_9 ok, q_ca]
theorem q_ca_rt (f t : Nat) (h : am_H) : (q_ca f t h).2 = h.2 := rfl
theorem q_ca_o (f t : Nat) (h : am_H) (b k : Nat) (hb : ∀ a, a < 9 → b = 212 + a → ¬ (q_wd a * t ≤ k ∧ k < q_wd a * t + q_wd a)) : (q_ca f t h).1 b k = h.1 b k := by
  unfold q_ca
  rw [q_cr_rd, if_neg (fun q => hb 8 (by decide) q.1 q.2), q_cr_rd, if_neg (fun q => hb 7 (by decide) q.1 q.2), q_cr_rd, if_neg (fun q => hb 6 (by decide) q.1 q.2), q_cr_rd, if_neg (fun q => hb 5 (by decide) q.1 q.2), q_cr_rd, if_neg (fun q => hb 4 (by decide) q.1 q.2), q_cr_rd, if_neg (fun q => hb 3 (by decide) q.1 q.2), q_cr_rd, if_neg (fun q => hb 2 (by decide) q.1 q.2), q_cr_rd, if_neg (fun q => hb 1 (by decide) q.1 q.2), q_cr_rd, if_neg (fun q => hb 0 (by decide) q.1 q.2)]
theorem q_ca_0 (f t : Nat) (h : am_H) (k : Nat) (hk : k < 600) : (q_ca f t h).1 212 (600 * t + k) = q_bb (h.1 212 (600 * f + k)) := by
  unfold q_ca
  rw [q_cr_rd, if_neg (fun q => absurd q.1 (by decide)), q_cr_rd, if_neg (fun q => absurd q.1 (by decide)), q_cr_rd, if_neg (fun q => absurd q.1 (by decide)), q_cr_rd, if_neg (fun q => absurd q.1 (by decide)), q_cr_rd, if_neg (fun q => absurd q.1 (by decide)), q_cr_rd, if_neg (fun q => absurd q.1 (by decide)), q_cr_rd, if_neg (fun q => absurd q.1 (by decide)), q_cr_rd, if_neg (fun q => absurd q.1 (by decide)), q_cr_rd, if_pos ⟨rfl, by omega, by omega⟩, Nat.add_sub_cancel_left]
theorem q_ca_1 (f t : Nat) (h : am_H) (k : Nat) (hk : k < 1) : (q_ca f t h).1 213 (1 * t + k) = h.1 213 (1 * f + k) := by
  unfold q_ca
  rw [q_cr_rd, if_neg (fun q => absurd q.1 (by decide)), q_cr_rd, if_neg (fun q => absurd q.1 (by decide)), q_cr_rd, if_neg (fun q => absurd q.1 (by decide)), q_cr_rd, if_neg (fun q => absurd q.1 (by decide)), q_cr_rd, if_neg (fun q => absurd q.1 (by decide)), q_cr_rd, if_neg (fun q => absurd q.1 (by decide)), q_cr_rd, if_neg (fun q => absurd q.1 (by decide)), q_cr_rd, if_pos ⟨rfl, by omega, by omega⟩, Nat.add_sub_cancel_left]
  show (q_cr q_bb 212 (600 * f) (600 * t) 600 (h)).1 213 (1 * f + k) = _
  rw [q_cr_rd, if_neg (fun q => absurd q.1 (by decide))]
theorem q_ca_2 (f t : Nat) (h : am_H) (k : Nat) (hk : k < 1) : (q_ca f t h).1 214 (1 * t + k) = h.1 214 (1 * f + k) := by
  unfold q_ca
  rw [q_cr_rd, if_neg (fun q => absurd q.1 (by decide)), q_cr_rd, if_neg (fun q => absurd q.1 (by decide)), q_cr_rd, if_neg (fun q => absurd q.1 (by decide)), q_cr_rd, if_neg (fun q => absurd q.1 (by decide)), q_cr_rd, if_neg (fun q => absurd q.1 (by decide)), q_cr_rd, if_neg (fun q => absurd q.1 (by decide)), q_cr_rd, if_pos ⟨rfl, by omega, by omega⟩, Nat.add_sub_cancel_left]
  show (q_cr id 213 (1 * f) (1 * t) 1 (q_cr q_bb 212 (600 * f) (600 * t) 600 (h))).1 214 (1 * f + k) = _
  rw [q_cr_rd, if_neg (fun q => absurd q.1 (by decide)), q_cr_rd, if_neg (fun q => absurd q.1 (by decide))]
theorem q_ca_3 (f t : Nat) (h : am_H) (k : Nat) (hk : k < 1) : (q_ca f t h).1 215 (1 * t + k) = h.1 215 (1 * f + k) := by
  unfold q_ca
  rw [q_cr_rd, if_neg (fun q => absurd q.1 (by decide)), q_cr_rd, if_neg (fun q => absurd q.1 (by decide)), q_cr_rd, if_neg (fun q => absurd q.1 (by decide)), q_cr_rd, if_neg (fun q => absurd q.1 (by decide)), q_cr_rd, if_neg (fun q => absurd q.1 (by decide)), q_cr_rd, if_pos ⟨rfl, by omega, by omega⟩, Nat.add_sub_cancel_left]
  show (q_cr id 214 (1 * f) (1 * t) 1 (q_cr id 213 (1 * f) (1 * t) 1 (q_cr q_bb 212 (600 * f) (600 * t) 600 (h)))).1 215 (1 * f + k) = _
  rw [q_cr_rd, if_neg (fun q => absurd q.1 (by decide)), q_cr_rd, if_neg (fun q => absurd q.1 (by decide)), q_cr_rd, if_neg (fun q => absurd q.1 (by decide))]
theorem q_ca_4 (f t : Nat) (h : am_H) (k : Nat) (hk : k < 4) : (q_ca f t h).1 216 (4 * t + k) = h.1 216 (4 * f + k) := by
  unfold q_ca
  rw [q_cr_rd, if_neg (fun q => absurd q.1 (by decide)), q_cr_rd, if_neg (fun q => absurd q.1 (by decide)), q_cr_rd, if_neg (fun q => absurd q.1 (by decide)), q_cr_rd, if_neg (fun q => absurd q.1 (by decide)), q_cr_rd, if_pos ⟨rfl, by omega, by omega⟩, Nat.add_sub_cancel_left]
  show (q_cr id 215 (1 * f) (1 * t) 1 (q_cr id 214 (1 * f) (1 * t) 1 (q_cr id 213 (1 * f) (1 * t) 1 (q_cr q_bb 212 (600 * f) (600 * t) 600 (h))))).1 216 (4 * f + k) = _
  rw [q_cr_rd, if_neg (fun q => absurd q.1 (by decide)), q_cr_rd, if_neg (fun q => absurd q.1 (by decide)), q_cr_rd, if_neg (fun q => absurd q.1 (by decide)), q_cr_rd, if_neg (fun q => absurd q.1 (by decide))]
theorem q_ca_5 (f t : Nat) (h : am_H) (k : Nat) (hk : k < 68) : (q_ca f t h).1 217 (68 * t + k) = h.1 217 (68 * f + k) := by
  unfold q_ca
  rw [q_cr_rd, if_neg (fun q => absurd q.1 (by decide)), q_cr_rd, if_neg (fun q => absurd q.1 (by decide)), q_cr_rd, if_neg (fun q => absurd q.1 (by decide)), q_cr_rd, if_pos ⟨rfl, by omega, by omega⟩, Nat.add_sub_cancel_left]
  show (q_cr id 216 (4 * f) (4 * t) 4 (q_cr id 215 (1 * f) (1 * t) 1 (q_cr id 214 (1 * f) (1 * t) 1 (q_cr id 213 (1 * f) (1 * t) 1 (q_cr q_bb 212 (600 * f) (600 * t) 600 (h)))))).1 217 (68 * f + k) = _
  rw [q_cr_rd, if_neg (fun q => absurd q.1 (by decide)), q_cr_rd, if_neg (fun q => absurd q.1 (by decide)), q_cr_rd, if_neg (fun q => absurd q.1 (by decide)), q_cr_rd, if_neg (fun q => absurd q.1 (by decide)), q_cr_rd, if_neg (fun q => absurd q.1 (by decide))]
theorem q_ca_6 (f t : Nat) (h : am_H) (k : Nat) (hk : k < 162) : (q_ca f t h).1 218 (162 * t + k) = h.1 218 (162 * f + k) := by
  unfold q_ca
  rw [q_cr_rd, if_neg (fun q => absurd q.1 (by decide)), q_cr_rd, if_neg (fun q => absurd q.1 (by decide)), q_cr_rd, if_pos ⟨rfl, by omega, by omega⟩, Nat.add_sub_cancel_left]
  show (q_cr id 217 (68 * f) (68 * t) 68 (q_cr id 216 (4 * f) (4 * t) 4 (q_cr id 215 (1 * f) (1 * t) 1 (q_cr id 214 (1 * f) (1 * t) 1 (q_cr id 213 (1 * f) (1 * t) 1 (q_cr q_bb 212 (600 * f) (600 * t) 600 (h))))))).1 218 (162 * f + k) = _
  rw [q_cr_rd, if_neg (fun q => absurd q.1 (by decide)), q_cr_rd, if_neg (fun q => absurd q.1 (by decide)), q_cr_rd, if_neg (fun q => absurd q.1 (by decide)), q_cr_rd, if_neg (fun q => absurd q.1 (by decide)), q_cr_rd, if_neg (fun q => absurd q.1 (by decide)), q_cr_rd, if_neg (fun q => absurd q.1 (by decide))]
theorem q_ca_7 (f t : Nat) (h : am_H) (k : Nat) (hk : k < 78) : (q_ca f t h).1 219 (78 * t + k) = h.1 219 (78 * f + k) := by
  unfold q_ca
  rw [q_cr_rd, if_neg (fun q => absurd q.1 (by decide)), q_cr_rd, if_pos ⟨rfl, by omega, by omega⟩, Nat.add_sub_cancel_left]
  show (q_cr id 218 (162 * f) (162 * t) 162 (q_cr id 217 (68 * f) (68 * t) 68 (q_cr id 216 (4 * f) (4 * t) 4 (q_cr id 215 (1 * f) (1 * t) 1 (q_cr id 214 (1 * f) (1 * t) 1 (q_cr id 213 (1 * f) (1 * t) 1 (q_cr q_bb 212 (600 * f) (600 * t) 600 (h)))))))).1 219 (78 * f + k) = _
  rw [q_cr_rd, if_neg (fun q => absurd q.1 (by decide)), q_cr_rd, if_neg (fun q => absurd q.1 (by decide)), q_cr_rd, if_neg (fun q => absurd q.1 (by decide)), q_cr_rd, if_neg (fun q => absurd q.1 (by decide)), q_cr_rd, if_neg (fun q => absurd q.1 (by decide)), q_cr_rd, if_neg (fun q => absurd q.1 (by decide)), q_cr_rd, if_neg (fun q => absurd q.1 (by decide))]
theorem q_ca_8 (f t : Nat) (h : am_H) (k : Nat) (hk : k < 98) : (q_ca f t h).1 220 (98 * t + k) = h.1 220 (98 * f + k) := by
  unfold q_ca
  rw [q_cr_rd, if_pos ⟨rfl, by omega, by omega⟩, Nat.add_sub_cancel_left]
  show (q_cr id 219 (78 * f) (78 * t) 78 (q_cr id 218 (162 * f) (162 * t) 162 (q_cr id 217 (68 * f) (68 * t) 68 (q_cr id 216 (4 * f) (4 * t) 4 (q_cr id 215 (1 * f) (1 * t) 1 (q_cr id 214 (1 * f) (1 * t) 1 (q_cr id 213 (1 * f) (1 * t) 1 (q_cr q_bb 212 (600 * f) (600 * t) 600 (h))))))))).1 220 (98 * f + k) = _
  rw [q_cr_rd, if_neg (fun q => absurd q.1 (by decide)), q_cr_rd, if_neg (fun q => absurd q.1 (by decide)), q_cr_rd, if_neg (fun q => absurd q.1 (by decide)), q_cr_rd, if_neg (fun q => absurd q.1 (by decide)), q_cr_rd, if_neg (fun q => absurd q.1 (by decide)), q_cr_rd, if_neg (fun q => absurd q.1 (by decide)), q_cr_rd, if_neg (fun q => absurd q.1 (by decide)), q_cr_rd, if_neg (fun q => absurd q.1 (by decide))]
