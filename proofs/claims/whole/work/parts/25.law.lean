/-! part 25: the law, case by case (by wip/whole/lawpart.py) -/
theorem ly_cmp (a : Int64) : lg_cmp a a = 0 := by
  unfold lg_cmp
  rw [if_neg (fun q => Int64.lt_irrefl q), if_pos rfl]
def ly_ls (i : Nat) : List (Option Value) := [some (.ref am_CB), some (.ref 0), some (.ref 211), some (.int (nI i))]
theorem ly_ix {i L j : Nat} (h : i + j < L) (hL : L ≤ 3072) : am_ix (nI (i + j)) L = true := am_ix_nI h (by omega)
theorem ly_cl {i L j : Nat} (h : i + j < L) (hL : L ≤ 3072) : (nI (i + j)).toNatClampNeg = i + j := nI_clamp (by omega)
theorem ly_ad (i : Nat) : nI i + 1 = nI (i + 1) ∧ nI i + 2 = nI (i + 2) ∧ nI i + 3 = nI (i + 3) ∧ nI i + 4 = nI (i + 4) ∧ nI i + 5 = nI (i + 5) ∧ nI i + 6 = nI (i + 6) := ⟨nI_add i 1, nI_add i 2, nI_add i 3, nI_add i 4, nI_add i 5, nI_add i 6⟩
section LWC
variable {h h1 h2 : am_H} {i L : Nat} {xs : Nat → Int32}
theorem ly_c0 (ok : am_okH h) (ok1 : am_okH h1) (hx : h.2.2.2.2 = (L + 1, xs)) (hx1 : h1.2.2.2.2 = (L + 1, xs)) (hi : i + 6 ≤ L) (hL : L ≤ 3072) {v : Int32} (d1 : am_den 12 (.ref 0 :: [.int (xs (i + 1)), .int (xs (i + 2)), .int (xs (i + 3)), .int (xs (i + 4)), .int (xs (i + 5))]) h = some (some (.int v), h1)) (d2 : am_den 165 (.ref 211 :: [.int (xs (i + 1)), .int (xs (i + 2)), .int (xs (i + 3)), .int (xs (i + 4)), .int (xs (i + 5))]) h1 = some (some (.int v), h2)) : am_ev 298 204 (ly_ls i) [] h = am_ev 298 18 (ly_ls (i + 6)) [] h2 := by
  obtain ⟨a1, a2, a3, a4, a5, a6⟩ := ly_ad i
  have x1 : am_ix (nI (i + 1)) L = true := ly_ix (by omega) hL
  have c1 : (nI (i + 1)).toNatClampNeg = i + 1 := ly_cl (L := L) (by omega) hL
  have x2 : am_ix (nI (i + 2)) L = true := ly_ix (by omega) hL
  have c2 : (nI (i + 2)).toNatClampNeg = i + 2 := ly_cl (L := L) (by omega) hL
  have x3 : am_ix (nI (i + 3)) L = true := ly_ix (by omega) hL
  have c3 : (nI (i + 3)).toNatClampNeg = i + 3 := ly_cl (L := L) (by omega) hL
  have x4 : am_ix (nI (i + 4)) L = true := ly_ix (by omega) hL
  have c4 : (nI (i + 4)).toNatClampNeg = i + 4 := ly_cl (L := L) (by omega) hL
  have x5 : am_ix (nI (i + 5)) L = true := ly_ix (by omega) hL
  have c5 : (nI (i + 5)).toNatClampNeg = i + 5 := ly_cl (L := L) (by omega) hL
  unfold ly_ls
  simp only [e298_204, e298_205, e298_206, e298_207, e298_208, e298_209, e298_210, e298_211, e298_212, e298_213, e298_214, e298_215, e298_216, e298_217, e298_218, e298_219, e298_220, e298_221, e298_222, e298_223, e298_224, e298_225, e298_226, e298_227, e298_228, e298_229, e298_230, e298_233, e298_234, e298_235, e298_236, e298_237, e298_238, e298_239, e298_240, e298_241, e298_242, e298_243, e298_244, e298_245, e298_246, e298_247, e298_248, e298_249, e298_250, e298_251, e298_252, e298_253, e298_254, e298_255, e298_256, e298_257, e298_258, e298_259, e298_262, e298_265, e298_266, e298_1785, e298_1788, okT_CB ok, okT_CB ok1, hx, hx1, Nat.add_sub_cancel, Nat.le_add_left, a1, a2, a3, a4, a5, a6, x1, c1, x2, c2, x3, c3, x4, c4, x5, c5, okK_0 ok, okK_211 ok1, d1, d2, ly_cmp, am_bd_some, Option.toList_some, Option.toList_none, List.cons_append, List.nil_append, am_w8_0, am_w8_1, am_w8_2, am_w8_3, am_w8_4, eq_self, or_true, true_or, am_kd_sI, am_kd_sL, am_kd_sR, am_tc_sI, am_tc_sL, am_tc_sR, am_len_sI, am_len_sL, am_len_sR, am_rfs, if_true, if_false]
theorem ly_c1 (ok : am_okH h) (ok1 : am_okH h1) (hx : h.2.2.2.2 = (L + 1, xs)) (hx1 : h1.2.2.2.2 = (L + 1, xs)) (hi : i + 6 ≤ L) (hL : L ≤ 3072) {v : Int32} (d1 : am_den 14 (.ref 0 :: [.int (xs (i + 1))]) h = some (some (.int v), h1)) (d2 : am_den 167 (.ref 211 :: [.int (xs (i + 1))]) h1 = some (some (.int v), h2)) : am_ev 298 267 (ly_ls i) [] h = am_ev 298 18 (ly_ls (i + 6)) [] h2 := by
  obtain ⟨a1, a2, a3, a4, a5, a6⟩ := ly_ad i
  have x1 : am_ix (nI (i + 1)) L = true := ly_ix (by omega) hL
  have c1 : (nI (i + 1)).toNatClampNeg = i + 1 := ly_cl (L := L) (by omega) hL
  unfold ly_ls
  simp only [e298_267, e298_268, e298_269, e298_270, e298_271, e298_272, e298_273, e298_276, e298_277, e298_278, e298_279, e298_280, e298_281, e298_282, e298_285, e298_288, e298_289, e298_1785, e298_1788, okT_CB ok, okT_CB ok1, hx, hx1, Nat.add_sub_cancel, Nat.le_add_left, a1, a2, a3, a4, a5, a6, x1, c1, okK_0 ok, okK_211 ok1, d1, d2, ly_cmp, am_bd_some, Option.toList_some, Option.toList_none, List.cons_append, List.nil_append, am_w8_0, am_w8_1, am_w8_2, am_w8_3, am_w8_4, eq_self, or_true, true_or, am_kd_sI, am_kd_sL, am_kd_sR, am_tc_sI, am_tc_sL, am_tc_sR, am_len_sI, am_len_sL, am_len_sR, am_rfs, if_true, if_false]
theorem ly_c2 (ok : am_okH h) (ok1 : am_okH h1) (hx : h.2.2.2.2 = (L + 1, xs)) (hx1 : h1.2.2.2.2 = (L + 1, xs)) (hi : i + 6 ≤ L) (hL : L ≤ 3072) {v : Int32} (d1 : am_den 15 (.ref 0 :: [.int (xs (i + 1)), .int (xs (i + 2))]) h = some (some (.int v), h1)) (d2 : am_den 169 (.ref 211 :: [.int (xs (i + 1)), .int (xs (i + 2))]) h1 = some (some (.int v), h2)) : am_ev 298 290 (ly_ls i) [] h = am_ev 298 18 (ly_ls (i + 6)) [] h2 := by
  obtain ⟨a1, a2, a3, a4, a5, a6⟩ := ly_ad i
  have x1 : am_ix (nI (i + 1)) L = true := ly_ix (by omega) hL
  have c1 : (nI (i + 1)).toNatClampNeg = i + 1 := ly_cl (L := L) (by omega) hL
  have x2 : am_ix (nI (i + 2)) L = true := ly_ix (by omega) hL
  have c2 : (nI (i + 2)).toNatClampNeg = i + 2 := ly_cl (L := L) (by omega) hL
  unfold ly_ls
  simp only [e298_290, e298_291, e298_292, e298_293, e298_294, e298_295, e298_296, e298_297, e298_298, e298_299, e298_300, e298_301, e298_304, e298_305, e298_306, e298_307, e298_308, e298_309, e298_310, e298_311, e298_312, e298_313, e298_314, e298_315, e298_318, e298_321, e298_322, e298_1785, e298_1788, okT_CB ok, okT_CB ok1, hx, hx1, Nat.add_sub_cancel, Nat.le_add_left, a1, a2, a3, a4, a5, a6, x1, c1, x2, c2, okK_0 ok, okK_211 ok1, d1, d2, ly_cmp, am_bd_some, Option.toList_some, Option.toList_none, List.cons_append, List.nil_append, am_w8_0, am_w8_1, am_w8_2, am_w8_3, am_w8_4, eq_self, or_true, true_or, am_kd_sI, am_kd_sL, am_kd_sR, am_tc_sI, am_tc_sL, am_tc_sR, am_len_sI, am_len_sL, am_len_sR, am_rfs, if_true, if_false]
theorem ly_c3 (ok : am_okH h) (ok1 : am_okH h1) (hx : h.2.2.2.2 = (L + 1, xs)) (hx1 : h1.2.2.2.2 = (L + 1, xs)) (hi : i + 6 ≤ L) (hL : L ≤ 3072) {v : Int32} (d1 : am_den 60 (.ref 0 :: [.int (xs (i + 1))]) h = some (some (.int v), h1)) (d2 : am_den 199 (.ref 211 :: [.int (xs (i + 1))]) h1 = some (some (.int v), h2)) : am_ev 298 323 (ly_ls i) [] h = am_ev 298 18 (ly_ls (i + 6)) [] h2 := by
  obtain ⟨a1, a2, a3, a4, a5, a6⟩ := ly_ad i
  have x1 : am_ix (nI (i + 1)) L = true := ly_ix (by omega) hL
  have c1 : (nI (i + 1)).toNatClampNeg = i + 1 := ly_cl (L := L) (by omega) hL
  unfold ly_ls
  simp only [e298_323, e298_324, e298_325, e298_326, e298_327, e298_328, e298_329, e298_332, e298_333, e298_334, e298_335, e298_336, e298_337, e298_338, e298_341, e298_344, e298_345, e298_1785, e298_1788, okT_CB ok, okT_CB ok1, hx, hx1, Nat.add_sub_cancel, Nat.le_add_left, a1, a2, a3, a4, a5, a6, x1, c1, okK_0 ok, okK_211 ok1, d1, d2, ly_cmp, am_bd_some, Option.toList_some, Option.toList_none, List.cons_append, List.nil_append, am_w8_0, am_w8_1, am_w8_2, am_w8_3, am_w8_4, eq_self, or_true, true_or, am_kd_sI, am_kd_sL, am_kd_sR, am_tc_sI, am_tc_sL, am_tc_sR, am_len_sI, am_len_sL, am_len_sR, am_rfs, if_true, if_false]
theorem ly_c4 (ok : am_okH h) (ok1 : am_okH h1) (hx : h.2.2.2.2 = (L + 1, xs)) (hx1 : h1.2.2.2.2 = (L + 1, xs)) (hi : i + 6 ≤ L) (hL : L ≤ 3072) {v : Int32} (d1 : am_den 65 (.ref 0 :: [.int (xs (i + 1)), .int (xs (i + 2))]) h = some (some (.int v), h1)) (d2 : am_den 200 (.ref 211 :: [.int (xs (i + 1)), .int (xs (i + 2))]) h1 = some (some (.int v), h2)) : am_ev 298 346 (ly_ls i) [] h = am_ev 298 18 (ly_ls (i + 6)) [] h2 := by
  obtain ⟨a1, a2, a3, a4, a5, a6⟩ := ly_ad i
  have x1 : am_ix (nI (i + 1)) L = true := ly_ix (by omega) hL
  have c1 : (nI (i + 1)).toNatClampNeg = i + 1 := ly_cl (L := L) (by omega) hL
  have x2 : am_ix (nI (i + 2)) L = true := ly_ix (by omega) hL
  have c2 : (nI (i + 2)).toNatClampNeg = i + 2 := ly_cl (L := L) (by omega) hL
  unfold ly_ls
  simp only [e298_346, e298_347, e298_348, e298_349, e298_350, e298_351, e298_352, e298_353, e298_354, e298_355, e298_356, e298_357, e298_360, e298_361, e298_362, e298_363, e298_364, e298_365, e298_366, e298_367, e298_368, e298_369, e298_370, e298_371, e298_374, e298_377, e298_378, e298_1785, e298_1788, okT_CB ok, okT_CB ok1, hx, hx1, Nat.add_sub_cancel, Nat.le_add_left, a1, a2, a3, a4, a5, a6, x1, c1, x2, c2, okK_0 ok, okK_211 ok1, d1, d2, ly_cmp, am_bd_some, Option.toList_some, Option.toList_none, List.cons_append, List.nil_append, am_w8_0, am_w8_1, am_w8_2, am_w8_3, am_w8_4, eq_self, or_true, true_or, am_kd_sI, am_kd_sL, am_kd_sR, am_tc_sI, am_tc_sL, am_tc_sR, am_len_sI, am_len_sL, am_len_sR, am_rfs, if_true, if_false]
theorem ly_c5 (ok : am_okH h) (ok1 : am_okH h1) (hx : h.2.2.2.2 = (L + 1, xs)) (hx1 : h1.2.2.2.2 = (L + 1, xs)) (hi : i + 6 ≤ L) (hL : L ≤ 3072) {v : Int32} (d1 : am_den 111 (.ref 0 :: [.int (xs (i + 1)), .int (xs (i + 2)), .int (xs (i + 3))]) h = some (some (.int v), h1)) (d2 : am_den 204 (.ref 211 :: [.int (xs (i + 1)), .int (xs (i + 2)), .int (xs (i + 3))]) h1 = some (some (.int v), h2)) : am_ev 298 379 (ly_ls i) [] h = am_ev 298 18 (ly_ls (i + 6)) [] h2 := by
  obtain ⟨a1, a2, a3, a4, a5, a6⟩ := ly_ad i
  have x1 : am_ix (nI (i + 1)) L = true := ly_ix (by omega) hL
  have c1 : (nI (i + 1)).toNatClampNeg = i + 1 := ly_cl (L := L) (by omega) hL
  have x2 : am_ix (nI (i + 2)) L = true := ly_ix (by omega) hL
  have c2 : (nI (i + 2)).toNatClampNeg = i + 2 := ly_cl (L := L) (by omega) hL
  have x3 : am_ix (nI (i + 3)) L = true := ly_ix (by omega) hL
  have c3 : (nI (i + 3)).toNatClampNeg = i + 3 := ly_cl (L := L) (by omega) hL
  unfold ly_ls
  simp only [e298_379, e298_380, e298_381, e298_382, e298_383, e298_384, e298_385, e298_386, e298_387, e298_388, e298_389, e298_390, e298_391, e298_392, e298_393, e298_394, e298_395, e298_398, e298_399, e298_400, e298_401, e298_402, e298_403, e298_404, e298_405, e298_406, e298_407, e298_408, e298_409, e298_410, e298_411, e298_412, e298_413, e298_414, e298_417, e298_420, e298_421, e298_1785, e298_1788, okT_CB ok, okT_CB ok1, hx, hx1, Nat.add_sub_cancel, Nat.le_add_left, a1, a2, a3, a4, a5, a6, x1, c1, x2, c2, x3, c3, okK_0 ok, okK_211 ok1, d1, d2, ly_cmp, am_bd_some, Option.toList_some, Option.toList_none, List.cons_append, List.nil_append, am_w8_0, am_w8_1, am_w8_2, am_w8_3, am_w8_4, eq_self, or_true, true_or, am_kd_sI, am_kd_sL, am_kd_sR, am_tc_sI, am_tc_sL, am_tc_sR, am_len_sI, am_len_sL, am_len_sR, am_rfs, if_true, if_false]
theorem ly_c6 (ok : am_okH h) (ok1 : am_okH h1) (hx : h.2.2.2.2 = (L + 1, xs)) (hx1 : h1.2.2.2.2 = (L + 1, xs)) (hi : i + 6 ≤ L) (hL : L ≤ 3072) {v : Int32} (d1 : am_den 113 (.ref 0 :: [.int (xs (i + 1)), .int (xs (i + 2))]) h = some (some (.int v), h1)) (d2 : am_den 208 (.ref 211 :: [.int (xs (i + 1)), .int (xs (i + 2))]) h1 = some (some (.int v), h2)) : am_ev 298 422 (ly_ls i) [] h = am_ev 298 18 (ly_ls (i + 6)) [] h2 := by
  obtain ⟨a1, a2, a3, a4, a5, a6⟩ := ly_ad i
  have x1 : am_ix (nI (i + 1)) L = true := ly_ix (by omega) hL
  have c1 : (nI (i + 1)).toNatClampNeg = i + 1 := ly_cl (L := L) (by omega) hL
  have x2 : am_ix (nI (i + 2)) L = true := ly_ix (by omega) hL
  have c2 : (nI (i + 2)).toNatClampNeg = i + 2 := ly_cl (L := L) (by omega) hL
  unfold ly_ls
  simp only [e298_422, e298_423, e298_424, e298_425, e298_426, e298_427, e298_428, e298_429, e298_430, e298_431, e298_432, e298_433, e298_436, e298_437, e298_438, e298_439, e298_440, e298_441, e298_442, e298_443, e298_444, e298_445, e298_446, e298_447, e298_450, e298_453, e298_454, e298_1785, e298_1788, okT_CB ok, okT_CB ok1, hx, hx1, Nat.add_sub_cancel, Nat.le_add_left, a1, a2, a3, a4, a5, a6, x1, c1, x2, c2, okK_0 ok, okK_211 ok1, d1, d2, ly_cmp, am_bd_some, Option.toList_some, Option.toList_none, List.cons_append, List.nil_append, am_w8_0, am_w8_1, am_w8_2, am_w8_3, am_w8_4, eq_self, or_true, true_or, am_kd_sI, am_kd_sL, am_kd_sR, am_tc_sI, am_tc_sL, am_tc_sR, am_len_sI, am_len_sL, am_len_sR, am_rfs, if_true, if_false]
theorem ly_c7 (ok : am_okH h) (ok1 : am_okH h1) (hx : h.2.2.2.2 = (L + 1, xs)) (hx1 : h1.2.2.2.2 = (L + 1, xs)) (hi : i + 6 ≤ L) (hL : L ≤ 3072) {v : Int32} (d1 : am_den 116 (.ref 0 :: [.int (xs (i + 1)), .int (xs (i + 2)), .int (xs (i + 3)), .int (xs (i + 4))]) h = some (some (.int v), h1)) (d2 : am_den 224 (.ref 211 :: [.int (xs (i + 1)), .int (xs (i + 2)), .int (xs (i + 3)), .int (xs (i + 4))]) h1 = some (some (.int v), h2)) : am_ev 298 455 (ly_ls i) [] h = am_ev 298 18 (ly_ls (i + 6)) [] h2 := by
  obtain ⟨a1, a2, a3, a4, a5, a6⟩ := ly_ad i
  have x1 : am_ix (nI (i + 1)) L = true := ly_ix (by omega) hL
  have c1 : (nI (i + 1)).toNatClampNeg = i + 1 := ly_cl (L := L) (by omega) hL
  have x2 : am_ix (nI (i + 2)) L = true := ly_ix (by omega) hL
  have c2 : (nI (i + 2)).toNatClampNeg = i + 2 := ly_cl (L := L) (by omega) hL
  have x3 : am_ix (nI (i + 3)) L = true := ly_ix (by omega) hL
  have c3 : (nI (i + 3)).toNatClampNeg = i + 3 := ly_cl (L := L) (by omega) hL
  have x4 : am_ix (nI (i + 4)) L = true := ly_ix (by omega) hL
  have c4 : (nI (i + 4)).toNatClampNeg = i + 4 := ly_cl (L := L) (by omega) hL
  unfold ly_ls
  simp only [e298_455, e298_456, e298_457, e298_458, e298_459, e298_460, e298_461, e298_462, e298_463, e298_464, e298_465, e298_466, e298_467, e298_468, e298_469, e298_470, e298_471, e298_472, e298_473, e298_474, e298_475, e298_476, e298_479, e298_480, e298_481, e298_482, e298_483, e298_484, e298_485, e298_486, e298_487, e298_488, e298_489, e298_490, e298_491, e298_492, e298_493, e298_494, e298_495, e298_496, e298_497, e298_498, e298_499, e298_500, e298_503, e298_506, e298_507, e298_1785, e298_1788, okT_CB ok, okT_CB ok1, hx, hx1, Nat.add_sub_cancel, Nat.le_add_left, a1, a2, a3, a4, a5, a6, x1, c1, x2, c2, x3, c3, x4, c4, okK_0 ok, okK_211 ok1, d1, d2, ly_cmp, am_bd_some, Option.toList_some, Option.toList_none, List.cons_append, List.nil_append, am_w8_0, am_w8_1, am_w8_2, am_w8_3, am_w8_4, eq_self, or_true, true_or, am_kd_sI, am_kd_sL, am_kd_sR, am_tc_sI, am_tc_sL, am_tc_sR, am_len_sI, am_len_sL, am_len_sR, am_rfs, if_true, if_false]
theorem ly_c8 (ok : am_okH h) (ok1 : am_okH h1) (hx : h.2.2.2.2 = (L + 1, xs)) (hx1 : h1.2.2.2.2 = (L + 1, xs)) (hi : i + 6 ≤ L) (hL : L ≤ 3072) {v : Int32} (d1 : am_den 70 (.ref 0 :: [.int (xs (i + 1)), .int (xs (i + 2))]) h = some (some (.int v), h1)) (d2 : am_den 227 (.ref 211 :: [.int (xs (i + 1)), .int (xs (i + 2))]) h1 = some (some (.int v), h2)) : am_ev 298 508 (ly_ls i) [] h = am_ev 298 18 (ly_ls (i + 6)) [] h2 := by
  obtain ⟨a1, a2, a3, a4, a5, a6⟩ := ly_ad i
  have x1 : am_ix (nI (i + 1)) L = true := ly_ix (by omega) hL
  have c1 : (nI (i + 1)).toNatClampNeg = i + 1 := ly_cl (L := L) (by omega) hL
  have x2 : am_ix (nI (i + 2)) L = true := ly_ix (by omega) hL
  have c2 : (nI (i + 2)).toNatClampNeg = i + 2 := ly_cl (L := L) (by omega) hL
  unfold ly_ls
  simp only [e298_508, e298_509, e298_510, e298_511, e298_512, e298_513, e298_514, e298_515, e298_516, e298_517, e298_518, e298_519, e298_522, e298_523, e298_524, e298_525, e298_526, e298_527, e298_528, e298_529, e298_530, e298_531, e298_532, e298_533, e298_536, e298_539, e298_540, e298_1785, e298_1788, okT_CB ok, okT_CB ok1, hx, hx1, Nat.add_sub_cancel, Nat.le_add_left, a1, a2, a3, a4, a5, a6, x1, c1, x2, c2, okK_0 ok, okK_211 ok1, d1, d2, ly_cmp, am_bd_some, Option.toList_some, Option.toList_none, List.cons_append, List.nil_append, am_w8_0, am_w8_1, am_w8_2, am_w8_3, am_w8_4, eq_self, or_true, true_or, am_kd_sI, am_kd_sL, am_kd_sR, am_tc_sI, am_tc_sL, am_tc_sR, am_len_sI, am_len_sL, am_len_sR, am_rfs, if_true, if_false]
theorem ly_c9 (ok : am_okH h) (ok1 : am_okH h1) (hx : h.2.2.2.2 = (L + 1, xs)) (hx1 : h1.2.2.2.2 = (L + 1, xs)) (hi : i + 6 ≤ L) (hL : L ≤ 3072) {v : Int32} (d1 : am_den 82 (.ref 0 :: [.int (xs (i + 1)), .int (xs (i + 2)), .int (xs (i + 3))]) h = some (some (.int v), h1)) (d2 : am_den 228 (.ref 211 :: [.int (xs (i + 1)), .int (xs (i + 2)), .int (xs (i + 3))]) h1 = some (some (.int v), h2)) : am_ev 298 541 (ly_ls i) [] h = am_ev 298 18 (ly_ls (i + 6)) [] h2 := by
  obtain ⟨a1, a2, a3, a4, a5, a6⟩ := ly_ad i
  have x1 : am_ix (nI (i + 1)) L = true := ly_ix (by omega) hL
  have c1 : (nI (i + 1)).toNatClampNeg = i + 1 := ly_cl (L := L) (by omega) hL
  have x2 : am_ix (nI (i + 2)) L = true := ly_ix (by omega) hL
  have c2 : (nI (i + 2)).toNatClampNeg = i + 2 := ly_cl (L := L) (by omega) hL
  have x3 : am_ix (nI (i + 3)) L = true := ly_ix (by omega) hL
  have c3 : (nI (i + 3)).toNatClampNeg = i + 3 := ly_cl (L := L) (by omega) hL
  unfold ly_ls
  simp only [e298_541, e298_542, e298_543, e298_544, e298_545, e298_546, e298_547, e298_548, e298_549, e298_550, e298_551, e298_552, e298_553, e298_554, e298_555, e298_556, e298_557, e298_560, e298_561, e298_562, e298_563, e298_564, e298_565, e298_566, e298_567, e298_568, e298_569, e298_570, e298_571, e298_572, e298_573, e298_574, e298_575, e298_576, e298_579, e298_582, e298_583, e298_1785, e298_1788, okT_CB ok, okT_CB ok1, hx, hx1, Nat.add_sub_cancel, Nat.le_add_left, a1, a2, a3, a4, a5, a6, x1, c1, x2, c2, x3, c3, okK_0 ok, okK_211 ok1, d1, d2, ly_cmp, am_bd_some, Option.toList_some, Option.toList_none, List.cons_append, List.nil_append, am_w8_0, am_w8_1, am_w8_2, am_w8_3, am_w8_4, eq_self, or_true, true_or, am_kd_sI, am_kd_sL, am_kd_sR, am_tc_sI, am_tc_sL, am_tc_sR, am_len_sI, am_len_sL, am_len_sR, am_rfs, if_true, if_false]
theorem ly_c10 (ok : am_okH h) (ok1 : am_okH h1) (hx : h.2.2.2.2 = (L + 1, xs)) (hx1 : h1.2.2.2.2 = (L + 1, xs)) (hi : i + 6 ≤ L) (hL : L ≤ 3072) {v : Int64} (d1 : am_den 91 (.ref 0 :: [.int (xs (i + 1)), .int (xs (i + 2)), .int (xs (i + 3)), .int (if xs (i + 4) = 0 then 0 else 1)]) h = some (some (.long v), h1)) (d2 : am_den 234 (.ref 211 :: [.int (xs (i + 1)), .int (xs (i + 2)), .int (xs (i + 3)), .int (if xs (i + 4) = 0 then 0 else 1)]) h1 = some (some (.long v), h2)) : am_ev 298 584 (ly_ls i) [] h = am_ev 298 18 (ly_ls (i + 6)) [] h2 := by
  obtain ⟨a1, a2, a3, a4, a5, a6⟩ := ly_ad i
  have x1 : am_ix (nI (i + 1)) L = true := ly_ix (by omega) hL
  have c1 : (nI (i + 1)).toNatClampNeg = i + 1 := ly_cl (L := L) (by omega) hL
  have x2 : am_ix (nI (i + 2)) L = true := ly_ix (by omega) hL
  have c2 : (nI (i + 2)).toNatClampNeg = i + 2 := ly_cl (L := L) (by omega) hL
  have x3 : am_ix (nI (i + 3)) L = true := ly_ix (by omega) hL
  have c3 : (nI (i + 3)).toNatClampNeg = i + 3 := ly_cl (L := L) (by omega) hL
  have x4 : am_ix (nI (i + 4)) L = true := ly_ix (by omega) hL
  have c4 : (nI (i + 4)).toNatClampNeg = i + 4 := ly_cl (L := L) (by omega) hL
  unfold ly_ls
  by_cases hb : xs (i + 4) = 0
  · rw [if_pos hb] at d1 d2
    simp only [e298_584, e298_585, e298_586, e298_587, e298_588, e298_589, e298_590, e298_591, e298_592, e298_593, e298_594, e298_595, e298_596, e298_597, e298_598, e298_599, e298_600, e298_601, e298_602, e298_603, e298_604, e298_605, e298_608, e298_609, e298_612, e298_613, e298_616, e298_617, e298_618, e298_619, e298_620, e298_621, e298_622, e298_623, e298_624, e298_625, e298_626, e298_627, e298_628, e298_629, e298_630, e298_631, e298_632, e298_633, e298_634, e298_635, e298_636, e298_637, e298_640, e298_641, e298_644, e298_645, e298_648, e298_649, e298_652, e298_653, e298_1785, e298_1788, okT_CB ok, okT_CB ok1, hx, hx1, Nat.add_sub_cancel, Nat.le_add_left, a1, a2, a3, a4, a5, a6, x1, c1, x2, c2, x3, c3, x4, c4, okK_0 ok, okK_211 ok1, d1, d2, ly_cmp, am_bd_some, Option.toList_some, Option.toList_none, List.cons_append, List.nil_append, am_w8_0, am_w8_1, am_w8_2, am_w8_3, am_w8_4, eq_self, or_true, true_or, am_kd_sI, am_kd_sL, am_kd_sR, am_tc_sI, am_tc_sL, am_tc_sR, am_len_sI, am_len_sL, am_len_sR, am_rfs, if_true, if_false, hb]
  · rw [if_neg hb] at d1 d2
    simp only [e298_584, e298_585, e298_586, e298_587, e298_588, e298_589, e298_590, e298_591, e298_592, e298_593, e298_594, e298_595, e298_596, e298_597, e298_598, e298_599, e298_600, e298_601, e298_602, e298_603, e298_604, e298_605, e298_608, e298_609, e298_612, e298_613, e298_616, e298_617, e298_618, e298_619, e298_620, e298_621, e298_622, e298_623, e298_624, e298_625, e298_626, e298_627, e298_628, e298_629, e298_630, e298_631, e298_632, e298_633, e298_634, e298_635, e298_636, e298_637, e298_640, e298_641, e298_644, e298_645, e298_648, e298_649, e298_652, e298_653, e298_1785, e298_1788, okT_CB ok, okT_CB ok1, hx, hx1, Nat.add_sub_cancel, Nat.le_add_left, a1, a2, a3, a4, a5, a6, x1, c1, x2, c2, x3, c3, x4, c4, okK_0 ok, okK_211 ok1, d1, d2, ly_cmp, am_bd_some, Option.toList_some, Option.toList_none, List.cons_append, List.nil_append, am_w8_0, am_w8_1, am_w8_2, am_w8_3, am_w8_4, eq_self, or_true, true_or, am_kd_sI, am_kd_sL, am_kd_sR, am_tc_sI, am_tc_sL, am_tc_sR, am_len_sI, am_len_sL, am_len_sR, am_rfs, if_true, if_false, hb]
theorem ly_c11 (ok : am_okH h) (ok1 : am_okH h1) (hx : h.2.2.2.2 = (L + 1, xs)) (hx1 : h1.2.2.2.2 = (L + 1, xs)) (hi : i + 6 ≤ L) (hL : L ≤ 3072) {v : Int32} (d1 : am_den 93 (.ref 0 :: [.int (xs (i + 1)), .int (if xs (i + 2) = 0 then 0 else 1)]) h = some (some (.int v), h1)) (d2 : am_den 237 (.ref 211 :: [.int (xs (i + 1)), .int (if xs (i + 2) = 0 then 0 else 1)]) h1 = some (some (.int v), h2)) : am_ev 298 654 (ly_ls i) [] h = am_ev 298 18 (ly_ls (i + 6)) [] h2 := by
  obtain ⟨a1, a2, a3, a4, a5, a6⟩ := ly_ad i
  have x1 : am_ix (nI (i + 1)) L = true := ly_ix (by omega) hL
  have c1 : (nI (i + 1)).toNatClampNeg = i + 1 := ly_cl (L := L) (by omega) hL
  have x2 : am_ix (nI (i + 2)) L = true := ly_ix (by omega) hL
  have c2 : (nI (i + 2)).toNatClampNeg = i + 2 := ly_cl (L := L) (by omega) hL
  unfold ly_ls
  by_cases hb : xs (i + 2) = 0
  · rw [if_pos hb] at d1 d2
    simp only [e298_654, e298_655, e298_656, e298_657, e298_658, e298_659, e298_660, e298_661, e298_662, e298_663, e298_664, e298_665, e298_668, e298_669, e298_672, e298_673, e298_676, e298_677, e298_678, e298_679, e298_680, e298_681, e298_682, e298_683, e298_684, e298_685, e298_686, e298_687, e298_690, e298_691, e298_694, e298_695, e298_698, e298_701, e298_702, e298_1785, e298_1788, okT_CB ok, okT_CB ok1, hx, hx1, Nat.add_sub_cancel, Nat.le_add_left, a1, a2, a3, a4, a5, a6, x1, c1, x2, c2, okK_0 ok, okK_211 ok1, d1, d2, ly_cmp, am_bd_some, Option.toList_some, Option.toList_none, List.cons_append, List.nil_append, am_w8_0, am_w8_1, am_w8_2, am_w8_3, am_w8_4, eq_self, or_true, true_or, am_kd_sI, am_kd_sL, am_kd_sR, am_tc_sI, am_tc_sL, am_tc_sR, am_len_sI, am_len_sL, am_len_sR, am_rfs, if_true, if_false, hb]
  · rw [if_neg hb] at d1 d2
    simp only [e298_654, e298_655, e298_656, e298_657, e298_658, e298_659, e298_660, e298_661, e298_662, e298_663, e298_664, e298_665, e298_668, e298_669, e298_672, e298_673, e298_676, e298_677, e298_678, e298_679, e298_680, e298_681, e298_682, e298_683, e298_684, e298_685, e298_686, e298_687, e298_690, e298_691, e298_694, e298_695, e298_698, e298_701, e298_702, e298_1785, e298_1788, okT_CB ok, okT_CB ok1, hx, hx1, Nat.add_sub_cancel, Nat.le_add_left, a1, a2, a3, a4, a5, a6, x1, c1, x2, c2, okK_0 ok, okK_211 ok1, d1, d2, ly_cmp, am_bd_some, Option.toList_some, Option.toList_none, List.cons_append, List.nil_append, am_w8_0, am_w8_1, am_w8_2, am_w8_3, am_w8_4, eq_self, or_true, true_or, am_kd_sI, am_kd_sL, am_kd_sR, am_tc_sI, am_tc_sL, am_tc_sR, am_len_sI, am_len_sL, am_len_sR, am_rfs, if_true, if_false, hb]
theorem ly_c12 (ok : am_okH h) (ok1 : am_okH h1) (hx : h.2.2.2.2 = (L + 1, xs)) (hx1 : h1.2.2.2.2 = (L + 1, xs)) (hi : i + 6 ≤ L) (hL : L ≤ 3072) {v : Int32} (d1 : am_den 97 (.ref 0 :: [.int (xs (i + 1)), .int (xs (i + 2)), .int (if xs (i + 3) = 0 then 0 else 1)]) h = some (some (.int v), h1)) (d2 : am_den 239 (.ref 211 :: [.int (xs (i + 1)), .int (xs (i + 2)), .int (if xs (i + 3) = 0 then 0 else 1)]) h1 = some (some (.int v), h2)) : am_ev 298 703 (ly_ls i) [] h = am_ev 298 18 (ly_ls (i + 6)) [] h2 := by
  obtain ⟨a1, a2, a3, a4, a5, a6⟩ := ly_ad i
  have x1 : am_ix (nI (i + 1)) L = true := ly_ix (by omega) hL
  have c1 : (nI (i + 1)).toNatClampNeg = i + 1 := ly_cl (L := L) (by omega) hL
  have x2 : am_ix (nI (i + 2)) L = true := ly_ix (by omega) hL
  have c2 : (nI (i + 2)).toNatClampNeg = i + 2 := ly_cl (L := L) (by omega) hL
  have x3 : am_ix (nI (i + 3)) L = true := ly_ix (by omega) hL
  have c3 : (nI (i + 3)).toNatClampNeg = i + 3 := ly_cl (L := L) (by omega) hL
  unfold ly_ls
  by_cases hb : xs (i + 3) = 0
  · rw [if_pos hb] at d1 d2
    simp only [e298_703, e298_704, e298_705, e298_706, e298_707, e298_708, e298_709, e298_710, e298_711, e298_712, e298_713, e298_714, e298_715, e298_716, e298_717, e298_718, e298_719, e298_722, e298_723, e298_726, e298_727, e298_730, e298_731, e298_732, e298_733, e298_734, e298_735, e298_736, e298_737, e298_738, e298_739, e298_740, e298_741, e298_742, e298_743, e298_744, e298_745, e298_746, e298_749, e298_750, e298_753, e298_754, e298_757, e298_760, e298_761, e298_1785, e298_1788, okT_CB ok, okT_CB ok1, hx, hx1, Nat.add_sub_cancel, Nat.le_add_left, a1, a2, a3, a4, a5, a6, x1, c1, x2, c2, x3, c3, okK_0 ok, okK_211 ok1, d1, d2, ly_cmp, am_bd_some, Option.toList_some, Option.toList_none, List.cons_append, List.nil_append, am_w8_0, am_w8_1, am_w8_2, am_w8_3, am_w8_4, eq_self, or_true, true_or, am_kd_sI, am_kd_sL, am_kd_sR, am_tc_sI, am_tc_sL, am_tc_sR, am_len_sI, am_len_sL, am_len_sR, am_rfs, if_true, if_false, hb]
  · rw [if_neg hb] at d1 d2
    simp only [e298_703, e298_704, e298_705, e298_706, e298_707, e298_708, e298_709, e298_710, e298_711, e298_712, e298_713, e298_714, e298_715, e298_716, e298_717, e298_718, e298_719, e298_722, e298_723, e298_726, e298_727, e298_730, e298_731, e298_732, e298_733, e298_734, e298_735, e298_736, e298_737, e298_738, e298_739, e298_740, e298_741, e298_742, e298_743, e298_744, e298_745, e298_746, e298_749, e298_750, e298_753, e298_754, e298_757, e298_760, e298_761, e298_1785, e298_1788, okT_CB ok, okT_CB ok1, hx, hx1, Nat.add_sub_cancel, Nat.le_add_left, a1, a2, a3, a4, a5, a6, x1, c1, x2, c2, x3, c3, okK_0 ok, okK_211 ok1, d1, d2, ly_cmp, am_bd_some, Option.toList_some, Option.toList_none, List.cons_append, List.nil_append, am_w8_0, am_w8_1, am_w8_2, am_w8_3, am_w8_4, eq_self, or_true, true_or, am_kd_sI, am_kd_sL, am_kd_sR, am_tc_sI, am_tc_sL, am_tc_sR, am_len_sI, am_len_sL, am_len_sR, am_rfs, if_true, if_false, hb]
theorem ly_c13 (ok : am_okH h) (ok1 : am_okH h1) (hx : h.2.2.2.2 = (L + 1, xs)) (hx1 : h1.2.2.2.2 = (L + 1, xs)) (hi : i + 6 ≤ L) (hL : L ≤ 3072) {v : Int32} (d1 : am_den 126 (.ref 0 :: [.int (xs (i + 1)), .int (xs (i + 2))]) h = some (some (.int v), h1)) (d2 : am_den 243 (.ref 211 :: [.int (xs (i + 1)), .int (xs (i + 2))]) h1 = some (some (.int v), h2)) : am_ev 298 762 (ly_ls i) [] h = am_ev 298 18 (ly_ls (i + 6)) [] h2 := by
  obtain ⟨a1, a2, a3, a4, a5, a6⟩ := ly_ad i
  have x1 : am_ix (nI (i + 1)) L = true := ly_ix (by omega) hL
  have c1 : (nI (i + 1)).toNatClampNeg = i + 1 := ly_cl (L := L) (by omega) hL
  have x2 : am_ix (nI (i + 2)) L = true := ly_ix (by omega) hL
  have c2 : (nI (i + 2)).toNatClampNeg = i + 2 := ly_cl (L := L) (by omega) hL
  unfold ly_ls
  simp only [e298_762, e298_763, e298_764, e298_765, e298_766, e298_767, e298_768, e298_769, e298_770, e298_771, e298_772, e298_773, e298_776, e298_777, e298_778, e298_779, e298_780, e298_781, e298_782, e298_783, e298_784, e298_785, e298_786, e298_787, e298_790, e298_793, e298_794, e298_1785, e298_1788, okT_CB ok, okT_CB ok1, hx, hx1, Nat.add_sub_cancel, Nat.le_add_left, a1, a2, a3, a4, a5, a6, x1, c1, x2, c2, okK_0 ok, okK_211 ok1, d1, d2, ly_cmp, am_bd_some, Option.toList_some, Option.toList_none, List.cons_append, List.nil_append, am_w8_0, am_w8_1, am_w8_2, am_w8_3, am_w8_4, eq_self, or_true, true_or, am_kd_sI, am_kd_sL, am_kd_sR, am_tc_sI, am_tc_sL, am_tc_sR, am_len_sI, am_len_sL, am_len_sR, am_rfs, if_true, if_false]
theorem ly_c14 (ok : am_okH h) (ok1 : am_okH h1) (hx : h.2.2.2.2 = (L + 1, xs)) (hx1 : h1.2.2.2.2 = (L + 1, xs)) (hi : i + 6 ≤ L) (hL : L ≤ 3072) {v : Int32} (d1 : am_den 128 (.ref 0 :: [.int (xs (i + 1)), .int (xs (i + 2))]) h = some (some (.int v), h1)) (d2 : am_den 246 (.ref 211 :: [.int (xs (i + 1)), .int (xs (i + 2))]) h1 = some (some (.int v), h2)) : am_ev 298 795 (ly_ls i) [] h = am_ev 298 18 (ly_ls (i + 6)) [] h2 := by
  obtain ⟨a1, a2, a3, a4, a5, a6⟩ := ly_ad i
  have x1 : am_ix (nI (i + 1)) L = true := ly_ix (by omega) hL
  have c1 : (nI (i + 1)).toNatClampNeg = i + 1 := ly_cl (L := L) (by omega) hL
  have x2 : am_ix (nI (i + 2)) L = true := ly_ix (by omega) hL
  have c2 : (nI (i + 2)).toNatClampNeg = i + 2 := ly_cl (L := L) (by omega) hL
  unfold ly_ls
  simp only [e298_795, e298_796, e298_797, e298_798, e298_799, e298_800, e298_801, e298_802, e298_803, e298_804, e298_805, e298_806, e298_809, e298_810, e298_811, e298_812, e298_813, e298_814, e298_815, e298_816, e298_817, e298_818, e298_819, e298_820, e298_823, e298_826, e298_827, e298_1785, e298_1788, okT_CB ok, okT_CB ok1, hx, hx1, Nat.add_sub_cancel, Nat.le_add_left, a1, a2, a3, a4, a5, a6, x1, c1, x2, c2, okK_0 ok, okK_211 ok1, d1, d2, ly_cmp, am_bd_some, Option.toList_some, Option.toList_none, List.cons_append, List.nil_append, am_w8_0, am_w8_1, am_w8_2, am_w8_3, am_w8_4, eq_self, or_true, true_or, am_kd_sI, am_kd_sL, am_kd_sR, am_tc_sI, am_tc_sL, am_tc_sR, am_len_sI, am_len_sL, am_len_sR, am_rfs, if_true, if_false]
theorem ly_c15 (ok : am_okH h) (ok1 : am_okH h1) (hx : h.2.2.2.2 = (L + 1, xs)) (hx1 : h1.2.2.2.2 = (L + 1, xs)) (hi : i + 6 ≤ L) (hL : L ≤ 3072) {v : Int32} (d1 : am_den 138 (.ref 0 :: [.int (xs (i + 1)), .int (xs (i + 2)), .int (xs (i + 3))]) h = some (some (.int v), h1)) (d2 : am_den 252 (.ref 211 :: [.int (xs (i + 1)), .int (xs (i + 2)), .int (xs (i + 3))]) h1 = some (some (.int v), h2)) : am_ev 298 828 (ly_ls i) [] h = am_ev 298 18 (ly_ls (i + 6)) [] h2 := by
  obtain ⟨a1, a2, a3, a4, a5, a6⟩ := ly_ad i
  have x1 : am_ix (nI (i + 1)) L = true := ly_ix (by omega) hL
  have c1 : (nI (i + 1)).toNatClampNeg = i + 1 := ly_cl (L := L) (by omega) hL
  have x2 : am_ix (nI (i + 2)) L = true := ly_ix (by omega) hL
  have c2 : (nI (i + 2)).toNatClampNeg = i + 2 := ly_cl (L := L) (by omega) hL
  have x3 : am_ix (nI (i + 3)) L = true := ly_ix (by omega) hL
  have c3 : (nI (i + 3)).toNatClampNeg = i + 3 := ly_cl (L := L) (by omega) hL
  unfold ly_ls
  simp only [e298_828, e298_829, e298_830, e298_831, e298_832, e298_833, e298_834, e298_835, e298_836, e298_837, e298_838, e298_839, e298_840, e298_841, e298_842, e298_843, e298_844, e298_847, e298_848, e298_849, e298_850, e298_851, e298_852, e298_853, e298_854, e298_855, e298_856, e298_857, e298_858, e298_859, e298_860, e298_861, e298_862, e298_863, e298_866, e298_869, e298_870, e298_1785, e298_1788, okT_CB ok, okT_CB ok1, hx, hx1, Nat.add_sub_cancel, Nat.le_add_left, a1, a2, a3, a4, a5, a6, x1, c1, x2, c2, x3, c3, okK_0 ok, okK_211 ok1, d1, d2, ly_cmp, am_bd_some, Option.toList_some, Option.toList_none, List.cons_append, List.nil_append, am_w8_0, am_w8_1, am_w8_2, am_w8_3, am_w8_4, eq_self, or_true, true_or, am_kd_sI, am_kd_sL, am_kd_sR, am_tc_sI, am_tc_sL, am_tc_sR, am_len_sI, am_len_sL, am_len_sR, am_rfs, if_true, if_false]
theorem ly_c16 (ok : am_okH h) (ok1 : am_okH h1) (hx : h.2.2.2.2 = (L + 1, xs)) (hx1 : h1.2.2.2.2 = (L + 1, xs)) (hi : i + 6 ≤ L) (hL : L ≤ 3072) {v : Int32} (d1 : am_den 144 (.ref 0 :: [.int (xs (i + 1)), .int (xs (i + 2)), .int (xs (i + 3))]) h = some (some (.int v), h1)) (d2 : am_den 256 (.ref 211 :: [.int (xs (i + 1)), .int (xs (i + 2)), .int (xs (i + 3))]) h1 = some (some (.int v), h2)) : am_ev 298 871 (ly_ls i) [] h = am_ev 298 18 (ly_ls (i + 6)) [] h2 := by
  obtain ⟨a1, a2, a3, a4, a5, a6⟩ := ly_ad i
  have x1 : am_ix (nI (i + 1)) L = true := ly_ix (by omega) hL
  have c1 : (nI (i + 1)).toNatClampNeg = i + 1 := ly_cl (L := L) (by omega) hL
  have x2 : am_ix (nI (i + 2)) L = true := ly_ix (by omega) hL
  have c2 : (nI (i + 2)).toNatClampNeg = i + 2 := ly_cl (L := L) (by omega) hL
  have x3 : am_ix (nI (i + 3)) L = true := ly_ix (by omega) hL
  have c3 : (nI (i + 3)).toNatClampNeg = i + 3 := ly_cl (L := L) (by omega) hL
  unfold ly_ls
  simp only [e298_871, e298_872, e298_873, e298_874, e298_875, e298_876, e298_877, e298_878, e298_879, e298_880, e298_881, e298_882, e298_883, e298_884, e298_885, e298_886, e298_887, e298_890, e298_891, e298_892, e298_893, e298_894, e298_895, e298_896, e298_897, e298_898, e298_899, e298_900, e298_901, e298_902, e298_903, e298_904, e298_905, e298_906, e298_909, e298_912, e298_913, e298_1785, e298_1788, okT_CB ok, okT_CB ok1, hx, hx1, Nat.add_sub_cancel, Nat.le_add_left, a1, a2, a3, a4, a5, a6, x1, c1, x2, c2, x3, c3, okK_0 ok, okK_211 ok1, d1, d2, ly_cmp, am_bd_some, Option.toList_some, Option.toList_none, List.cons_append, List.nil_append, am_w8_0, am_w8_1, am_w8_2, am_w8_3, am_w8_4, eq_self, or_true, true_or, am_kd_sI, am_kd_sL, am_kd_sR, am_tc_sI, am_tc_sL, am_tc_sR, am_len_sI, am_len_sL, am_len_sR, am_rfs, if_true, if_false]
theorem ly_c17 (ok : am_okH h) (ok1 : am_okH h1) (hx : h.2.2.2.2 = (L + 1, xs)) (hx1 : h1.2.2.2.2 = (L + 1, xs)) (hi : i + 6 ≤ L) (hL : L ≤ 3072) {v : Int32} (d1 : am_den 146 (.ref 0 :: [.int (xs (i + 1)), .int (xs (i + 2))]) h = some (some (.int v), h1)) (d2 : am_den 260 (.ref 211 :: [.int (xs (i + 1)), .int (xs (i + 2))]) h1 = some (some (.int v), h2)) : am_ev 298 914 (ly_ls i) [] h = am_ev 298 18 (ly_ls (i + 6)) [] h2 := by
  obtain ⟨a1, a2, a3, a4, a5, a6⟩ := ly_ad i
  have x1 : am_ix (nI (i + 1)) L = true := ly_ix (by omega) hL
  have c1 : (nI (i + 1)).toNatClampNeg = i + 1 := ly_cl (L := L) (by omega) hL
  have x2 : am_ix (nI (i + 2)) L = true := ly_ix (by omega) hL
  have c2 : (nI (i + 2)).toNatClampNeg = i + 2 := ly_cl (L := L) (by omega) hL
  unfold ly_ls
  simp only [e298_914, e298_915, e298_916, e298_917, e298_918, e298_919, e298_920, e298_921, e298_922, e298_923, e298_924, e298_925, e298_928, e298_929, e298_930, e298_931, e298_932, e298_933, e298_934, e298_935, e298_936, e298_937, e298_938, e298_939, e298_942, e298_945, e298_946, e298_1785, e298_1788, okT_CB ok, okT_CB ok1, hx, hx1, Nat.add_sub_cancel, Nat.le_add_left, a1, a2, a3, a4, a5, a6, x1, c1, x2, c2, okK_0 ok, okK_211 ok1, d1, d2, ly_cmp, am_bd_some, Option.toList_some, Option.toList_none, List.cons_append, List.nil_append, am_w8_0, am_w8_1, am_w8_2, am_w8_3, am_w8_4, eq_self, or_true, true_or, am_kd_sI, am_kd_sL, am_kd_sR, am_tc_sI, am_tc_sL, am_tc_sR, am_len_sI, am_len_sL, am_len_sR, am_rfs, if_true, if_false]
theorem ly_c18 (ok : am_okH h) (ok1 : am_okH h1) (hx : h.2.2.2.2 = (L + 1, xs)) (hx1 : h1.2.2.2.2 = (L + 1, xs)) (hi : i + 6 ≤ L) (hL : L ≤ 3072) {v : Int32} (d1 : am_den 154 (.ref 0 :: [.int (xs (i + 1)), .int (xs (i + 2))]) h = some (some (.int v), h1)) (d2 : am_den 265 (.ref 211 :: [.int (xs (i + 1)), .int (xs (i + 2))]) h1 = some (some (.int v), h2)) : am_ev 298 947 (ly_ls i) [] h = am_ev 298 18 (ly_ls (i + 6)) [] h2 := by
  obtain ⟨a1, a2, a3, a4, a5, a6⟩ := ly_ad i
  have x1 : am_ix (nI (i + 1)) L = true := ly_ix (by omega) hL
  have c1 : (nI (i + 1)).toNatClampNeg = i + 1 := ly_cl (L := L) (by omega) hL
  have x2 : am_ix (nI (i + 2)) L = true := ly_ix (by omega) hL
  have c2 : (nI (i + 2)).toNatClampNeg = i + 2 := ly_cl (L := L) (by omega) hL
  unfold ly_ls
  simp only [e298_947, e298_948, e298_949, e298_950, e298_951, e298_952, e298_953, e298_954, e298_955, e298_956, e298_957, e298_958, e298_961, e298_962, e298_963, e298_964, e298_965, e298_966, e298_967, e298_968, e298_969, e298_970, e298_971, e298_972, e298_975, e298_978, e298_979, e298_1785, e298_1788, okT_CB ok, okT_CB ok1, hx, hx1, Nat.add_sub_cancel, Nat.le_add_left, a1, a2, a3, a4, a5, a6, x1, c1, x2, c2, okK_0 ok, okK_211 ok1, d1, d2, ly_cmp, am_bd_some, Option.toList_some, Option.toList_none, List.cons_append, List.nil_append, am_w8_0, am_w8_1, am_w8_2, am_w8_3, am_w8_4, eq_self, or_true, true_or, am_kd_sI, am_kd_sL, am_kd_sR, am_tc_sI, am_tc_sL, am_tc_sR, am_len_sI, am_len_sL, am_len_sR, am_rfs, if_true, if_false]
theorem ly_c19 (ok : am_okH h) (ok1 : am_okH h1) (hx : h.2.2.2.2 = (L + 1, xs)) (hx1 : h1.2.2.2.2 = (L + 1, xs)) (hi : i + 6 ≤ L) (hL : L ≤ 3072) {v : Int32} (d1 : am_den 157 (.ref 0 :: [.int (xs (i + 1)), .int (xs (i + 2)), .int (xs (i + 3))]) h = some (some (.int v), h1)) (d2 : am_den 267 (.ref 211 :: [.int (xs (i + 1)), .int (xs (i + 2)), .int (xs (i + 3))]) h1 = some (some (.int v), h2)) : am_ev 298 980 (ly_ls i) [] h = am_ev 298 18 (ly_ls (i + 6)) [] h2 := by
  obtain ⟨a1, a2, a3, a4, a5, a6⟩ := ly_ad i
  have x1 : am_ix (nI (i + 1)) L = true := ly_ix (by omega) hL
  have c1 : (nI (i + 1)).toNatClampNeg = i + 1 := ly_cl (L := L) (by omega) hL
  have x2 : am_ix (nI (i + 2)) L = true := ly_ix (by omega) hL
  have c2 : (nI (i + 2)).toNatClampNeg = i + 2 := ly_cl (L := L) (by omega) hL
  have x3 : am_ix (nI (i + 3)) L = true := ly_ix (by omega) hL
  have c3 : (nI (i + 3)).toNatClampNeg = i + 3 := ly_cl (L := L) (by omega) hL
  unfold ly_ls
  simp only [e298_980, e298_981, e298_982, e298_983, e298_984, e298_985, e298_986, e298_987, e298_988, e298_989, e298_990, e298_991, e298_992, e298_993, e298_994, e298_995, e298_996, e298_999, e298_1000, e298_1001, e298_1002, e298_1003, e298_1004, e298_1005, e298_1006, e298_1007, e298_1008, e298_1009, e298_1010, e298_1011, e298_1012, e298_1013, e298_1014, e298_1015, e298_1018, e298_1021, e298_1022, e298_1785, e298_1788, okT_CB ok, okT_CB ok1, hx, hx1, Nat.add_sub_cancel, Nat.le_add_left, a1, a2, a3, a4, a5, a6, x1, c1, x2, c2, x3, c3, okK_0 ok, okK_211 ok1, d1, d2, ly_cmp, am_bd_some, Option.toList_some, Option.toList_none, List.cons_append, List.nil_append, am_w8_0, am_w8_1, am_w8_2, am_w8_3, am_w8_4, eq_self, or_true, true_or, am_kd_sI, am_kd_sL, am_kd_sR, am_tc_sI, am_tc_sL, am_tc_sR, am_len_sI, am_len_sL, am_len_sR, am_rfs, if_true, if_false]
theorem ly_c20 (ok : am_okH h) (ok1 : am_okH h1) (hx : h.2.2.2.2 = (L + 1, xs)) (hx1 : h1.2.2.2.2 = (L + 1, xs)) (hi : i + 6 ≤ L) (hL : L ≤ 3072) {v : Int64} (d1 : am_den 162 (.ref 0 :: [.int (xs (i + 1)), .int (xs (i + 2)), .int (xs (i + 3)), .int (xs (i + 4))]) h = some (some (.long v), h1)) (d2 : am_den 271 (.ref 211 :: [.int (xs (i + 1)), .int (xs (i + 2)), .int (xs (i + 3)), .int (xs (i + 4))]) h1 = some (some (.long v), h2)) : am_ev 298 1023 (ly_ls i) [] h = am_ev 298 18 (ly_ls (i + 6)) [] h2 := by
  obtain ⟨a1, a2, a3, a4, a5, a6⟩ := ly_ad i
  have x1 : am_ix (nI (i + 1)) L = true := ly_ix (by omega) hL
  have c1 : (nI (i + 1)).toNatClampNeg = i + 1 := ly_cl (L := L) (by omega) hL
  have x2 : am_ix (nI (i + 2)) L = true := ly_ix (by omega) hL
  have c2 : (nI (i + 2)).toNatClampNeg = i + 2 := ly_cl (L := L) (by omega) hL
  have x3 : am_ix (nI (i + 3)) L = true := ly_ix (by omega) hL
  have c3 : (nI (i + 3)).toNatClampNeg = i + 3 := ly_cl (L := L) (by omega) hL
  have x4 : am_ix (nI (i + 4)) L = true := ly_ix (by omega) hL
  have c4 : (nI (i + 4)).toNatClampNeg = i + 4 := ly_cl (L := L) (by omega) hL
  unfold ly_ls
  simp only [e298_1023, e298_1024, e298_1025, e298_1026, e298_1027, e298_1028, e298_1029, e298_1030, e298_1031, e298_1032, e298_1033, e298_1034, e298_1035, e298_1036, e298_1037, e298_1038, e298_1039, e298_1040, e298_1041, e298_1042, e298_1043, e298_1044, e298_1047, e298_1048, e298_1049, e298_1050, e298_1051, e298_1052, e298_1053, e298_1054, e298_1055, e298_1056, e298_1057, e298_1058, e298_1059, e298_1060, e298_1061, e298_1062, e298_1063, e298_1064, e298_1065, e298_1066, e298_1067, e298_1068, e298_1071, e298_1072, e298_1075, e298_1076, e298_1785, e298_1788, okT_CB ok, okT_CB ok1, hx, hx1, Nat.add_sub_cancel, Nat.le_add_left, a1, a2, a3, a4, a5, a6, x1, c1, x2, c2, x3, c3, x4, c4, okK_0 ok, okK_211 ok1, d1, d2, ly_cmp, am_bd_some, Option.toList_some, Option.toList_none, List.cons_append, List.nil_append, am_w8_0, am_w8_1, am_w8_2, am_w8_3, am_w8_4, eq_self, or_true, true_or, am_kd_sI, am_kd_sL, am_kd_sR, am_tc_sI, am_tc_sL, am_tc_sR, am_len_sI, am_len_sL, am_len_sR, am_rfs, if_true, if_false]
theorem ly_c21 (ok : am_okH h) (ok1 : am_okH h1) (hx : h.2.2.2.2 = (L + 1, xs)) (hx1 : h1.2.2.2.2 = (L + 1, xs)) (hi : i + 6 ≤ L) (hL : L ≤ 3072) {v : Int32} (d1 : am_den 124 (.ref 0 :: [.int (xs (i + 1)), .int (xs (i + 2)), .int (xs (i + 3)), .int (xs (i + 4))]) h = some (some (.int v), h1)) (d2 : am_den 273 (.ref 211 :: [.int (xs (i + 1)), .int (xs (i + 2)), .int (xs (i + 3)), .int (xs (i + 4))]) h1 = some (some (.int v), h2)) : am_ev 298 1077 (ly_ls i) [] h = am_ev 298 18 (ly_ls (i + 6)) [] h2 := by
  obtain ⟨a1, a2, a3, a4, a5, a6⟩ := ly_ad i
  have x1 : am_ix (nI (i + 1)) L = true := ly_ix (by omega) hL
  have c1 : (nI (i + 1)).toNatClampNeg = i + 1 := ly_cl (L := L) (by omega) hL
  have x2 : am_ix (nI (i + 2)) L = true := ly_ix (by omega) hL
  have c2 : (nI (i + 2)).toNatClampNeg = i + 2 := ly_cl (L := L) (by omega) hL
  have x3 : am_ix (nI (i + 3)) L = true := ly_ix (by omega) hL
  have c3 : (nI (i + 3)).toNatClampNeg = i + 3 := ly_cl (L := L) (by omega) hL
  have x4 : am_ix (nI (i + 4)) L = true := ly_ix (by omega) hL
  have c4 : (nI (i + 4)).toNatClampNeg = i + 4 := ly_cl (L := L) (by omega) hL
  unfold ly_ls
  simp only [e298_1077, e298_1078, e298_1079, e298_1080, e298_1081, e298_1082, e298_1083, e298_1084, e298_1085, e298_1086, e298_1087, e298_1088, e298_1089, e298_1090, e298_1091, e298_1092, e298_1093, e298_1094, e298_1095, e298_1096, e298_1097, e298_1098, e298_1101, e298_1102, e298_1103, e298_1104, e298_1105, e298_1106, e298_1107, e298_1108, e298_1109, e298_1110, e298_1111, e298_1112, e298_1113, e298_1114, e298_1115, e298_1116, e298_1117, e298_1118, e298_1119, e298_1120, e298_1121, e298_1122, e298_1125, e298_1128, e298_1129, e298_1785, e298_1788, okT_CB ok, okT_CB ok1, hx, hx1, Nat.add_sub_cancel, Nat.le_add_left, a1, a2, a3, a4, a5, a6, x1, c1, x2, c2, x3, c3, x4, c4, okK_0 ok, okK_211 ok1, d1, d2, ly_cmp, am_bd_some, Option.toList_some, Option.toList_none, List.cons_append, List.nil_append, am_w8_0, am_w8_1, am_w8_2, am_w8_3, am_w8_4, eq_self, or_true, true_or, am_kd_sI, am_kd_sL, am_kd_sR, am_tc_sI, am_tc_sL, am_tc_sR, am_len_sI, am_len_sL, am_len_sR, am_rfs, if_true, if_false]
theorem ly_c22 (ok : am_okH h) (ok1 : am_okH h1) (hx : h.2.2.2.2 = (L + 1, xs)) (hx1 : h1.2.2.2.2 = (L + 1, xs)) (hi : i + 6 ≤ L) (hL : L ≤ 3072) {v : Int32} (d1 : am_den 99 (.ref 0 :: [.int (xs (i + 1)), .int (if xs (i + 2) = 0 then 0 else 1)]) h = some (some (.int v), h1)) (d2 : am_den 275 (.ref 211 :: [.int (xs (i + 1)), .int (if xs (i + 2) = 0 then 0 else 1)]) h1 = some (some (.int v), h2)) : am_ev 298 1130 (ly_ls i) [] h = am_ev 298 18 (ly_ls (i + 6)) [] h2 := by
  obtain ⟨a1, a2, a3, a4, a5, a6⟩ := ly_ad i
  have x1 : am_ix (nI (i + 1)) L = true := ly_ix (by omega) hL
  have c1 : (nI (i + 1)).toNatClampNeg = i + 1 := ly_cl (L := L) (by omega) hL
  have x2 : am_ix (nI (i + 2)) L = true := ly_ix (by omega) hL
  have c2 : (nI (i + 2)).toNatClampNeg = i + 2 := ly_cl (L := L) (by omega) hL
  unfold ly_ls
  by_cases hb : xs (i + 2) = 0
  · rw [if_pos hb] at d1 d2
    simp only [e298_1130, e298_1131, e298_1132, e298_1133, e298_1134, e298_1135, e298_1136, e298_1137, e298_1138, e298_1139, e298_1140, e298_1141, e298_1144, e298_1145, e298_1148, e298_1149, e298_1152, e298_1153, e298_1154, e298_1155, e298_1156, e298_1157, e298_1158, e298_1159, e298_1160, e298_1161, e298_1162, e298_1163, e298_1166, e298_1167, e298_1170, e298_1171, e298_1174, e298_1177, e298_1178, e298_1785, e298_1788, okT_CB ok, okT_CB ok1, hx, hx1, Nat.add_sub_cancel, Nat.le_add_left, a1, a2, a3, a4, a5, a6, x1, c1, x2, c2, okK_0 ok, okK_211 ok1, d1, d2, ly_cmp, am_bd_some, Option.toList_some, Option.toList_none, List.cons_append, List.nil_append, am_w8_0, am_w8_1, am_w8_2, am_w8_3, am_w8_4, eq_self, or_true, true_or, am_kd_sI, am_kd_sL, am_kd_sR, am_tc_sI, am_tc_sL, am_tc_sR, am_len_sI, am_len_sL, am_len_sR, am_rfs, if_true, if_false, hb]
  · rw [if_neg hb] at d1 d2
    simp only [e298_1130, e298_1131, e298_1132, e298_1133, e298_1134, e298_1135, e298_1136, e298_1137, e298_1138, e298_1139, e298_1140, e298_1141, e298_1144, e298_1145, e298_1148, e298_1149, e298_1152, e298_1153, e298_1154, e298_1155, e298_1156, e298_1157, e298_1158, e298_1159, e298_1160, e298_1161, e298_1162, e298_1163, e298_1166, e298_1167, e298_1170, e298_1171, e298_1174, e298_1177, e298_1178, e298_1785, e298_1788, okT_CB ok, okT_CB ok1, hx, hx1, Nat.add_sub_cancel, Nat.le_add_left, a1, a2, a3, a4, a5, a6, x1, c1, x2, c2, okK_0 ok, okK_211 ok1, d1, d2, ly_cmp, am_bd_some, Option.toList_some, Option.toList_none, List.cons_append, List.nil_append, am_w8_0, am_w8_1, am_w8_2, am_w8_3, am_w8_4, eq_self, or_true, true_or, am_kd_sI, am_kd_sL, am_kd_sR, am_tc_sI, am_tc_sL, am_tc_sR, am_len_sI, am_len_sL, am_len_sR, am_rfs, if_true, if_false, hb]
theorem ly_c23 (ok : am_okH h) (ok1 : am_okH h1) (hx : h.2.2.2.2 = (L + 1, xs)) (hx1 : h1.2.2.2.2 = (L + 1, xs)) (hi : i + 6 ≤ L) (hL : L ≤ 3072) {v : Int32} (d1 : am_den 101 (.ref 0 :: [.int (xs (i + 1)), .int (xs (i + 2)), .int (xs (i + 3)), .int (if xs (i + 4) = 0 then 0 else 1)]) h = some (some (.int v), h1)) (d2 : am_den 276 (.ref 211 :: [.int (xs (i + 1)), .int (xs (i + 2)), .int (xs (i + 3)), .int (if xs (i + 4) = 0 then 0 else 1)]) h1 = some (some (.int v), h2)) : am_ev 298 1179 (ly_ls i) [] h = am_ev 298 18 (ly_ls (i + 6)) [] h2 := by
  obtain ⟨a1, a2, a3, a4, a5, a6⟩ := ly_ad i
  have x1 : am_ix (nI (i + 1)) L = true := ly_ix (by omega) hL
  have c1 : (nI (i + 1)).toNatClampNeg = i + 1 := ly_cl (L := L) (by omega) hL
  have x2 : am_ix (nI (i + 2)) L = true := ly_ix (by omega) hL
  have c2 : (nI (i + 2)).toNatClampNeg = i + 2 := ly_cl (L := L) (by omega) hL
  have x3 : am_ix (nI (i + 3)) L = true := ly_ix (by omega) hL
  have c3 : (nI (i + 3)).toNatClampNeg = i + 3 := ly_cl (L := L) (by omega) hL
  have x4 : am_ix (nI (i + 4)) L = true := ly_ix (by omega) hL
  have c4 : (nI (i + 4)).toNatClampNeg = i + 4 := ly_cl (L := L) (by omega) hL
  unfold ly_ls
  by_cases hb : xs (i + 4) = 0
  · rw [if_pos hb] at d1 d2
    simp only [e298_1179, e298_1180, e298_1181, e298_1182, e298_1183, e298_1184, e298_1185, e298_1186, e298_1187, e298_1188, e298_1189, e298_1190, e298_1191, e298_1192, e298_1193, e298_1194, e298_1195, e298_1196, e298_1197, e298_1198, e298_1199, e298_1200, e298_1203, e298_1204, e298_1207, e298_1208, e298_1211, e298_1212, e298_1213, e298_1214, e298_1215, e298_1216, e298_1217, e298_1218, e298_1219, e298_1220, e298_1221, e298_1222, e298_1223, e298_1224, e298_1225, e298_1226, e298_1227, e298_1228, e298_1229, e298_1230, e298_1231, e298_1232, e298_1235, e298_1236, e298_1239, e298_1240, e298_1243, e298_1246, e298_1247, e298_1785, e298_1788, okT_CB ok, okT_CB ok1, hx, hx1, Nat.add_sub_cancel, Nat.le_add_left, a1, a2, a3, a4, a5, a6, x1, c1, x2, c2, x3, c3, x4, c4, okK_0 ok, okK_211 ok1, d1, d2, ly_cmp, am_bd_some, Option.toList_some, Option.toList_none, List.cons_append, List.nil_append, am_w8_0, am_w8_1, am_w8_2, am_w8_3, am_w8_4, eq_self, or_true, true_or, am_kd_sI, am_kd_sL, am_kd_sR, am_tc_sI, am_tc_sL, am_tc_sR, am_len_sI, am_len_sL, am_len_sR, am_rfs, if_true, if_false, hb]
  · rw [if_neg hb] at d1 d2
    simp only [e298_1179, e298_1180, e298_1181, e298_1182, e298_1183, e298_1184, e298_1185, e298_1186, e298_1187, e298_1188, e298_1189, e298_1190, e298_1191, e298_1192, e298_1193, e298_1194, e298_1195, e298_1196, e298_1197, e298_1198, e298_1199, e298_1200, e298_1203, e298_1204, e298_1207, e298_1208, e298_1211, e298_1212, e298_1213, e298_1214, e298_1215, e298_1216, e298_1217, e298_1218, e298_1219, e298_1220, e298_1221, e298_1222, e298_1223, e298_1224, e298_1225, e298_1226, e298_1227, e298_1228, e298_1229, e298_1230, e298_1231, e298_1232, e298_1235, e298_1236, e298_1239, e298_1240, e298_1243, e298_1246, e298_1247, e298_1785, e298_1788, okT_CB ok, okT_CB ok1, hx, hx1, Nat.add_sub_cancel, Nat.le_add_left, a1, a2, a3, a4, a5, a6, x1, c1, x2, c2, x3, c3, x4, c4, okK_0 ok, okK_211 ok1, d1, d2, ly_cmp, am_bd_some, Option.toList_some, Option.toList_none, List.cons_append, List.nil_append, am_w8_0, am_w8_1, am_w8_2, am_w8_3, am_w8_4, eq_self, or_true, true_or, am_kd_sI, am_kd_sL, am_kd_sR, am_tc_sI, am_tc_sL, am_tc_sR, am_len_sI, am_len_sL, am_len_sR, am_rfs, if_true, if_false, hb]
theorem ly_c24 (ok : am_okH h) (ok1 : am_okH h1) (hx : h.2.2.2.2 = (L + 1, xs)) (hx1 : h1.2.2.2.2 = (L + 1, xs)) (hi : i + 6 ≤ L) (hL : L ≤ 3072) {v : Int32} (d1 : am_den 102 (.ref 0 :: [.int (xs (i + 1))]) h = some (some (.int v), h1)) (d2 : am_den 277 (.ref 211 :: [.int (xs (i + 1))]) h1 = some (some (.int v), h2)) : am_ev 298 1248 (ly_ls i) [] h = am_ev 298 18 (ly_ls (i + 6)) [] h2 := by
  obtain ⟨a1, a2, a3, a4, a5, a6⟩ := ly_ad i
  have x1 : am_ix (nI (i + 1)) L = true := ly_ix (by omega) hL
  have c1 : (nI (i + 1)).toNatClampNeg = i + 1 := ly_cl (L := L) (by omega) hL
  unfold ly_ls
  simp only [e298_1248, e298_1249, e298_1250, e298_1251, e298_1252, e298_1253, e298_1254, e298_1257, e298_1258, e298_1259, e298_1260, e298_1261, e298_1262, e298_1263, e298_1266, e298_1269, e298_1270, e298_1785, e298_1788, okT_CB ok, okT_CB ok1, hx, hx1, Nat.add_sub_cancel, Nat.le_add_left, a1, a2, a3, a4, a5, a6, x1, c1, okK_0 ok, okK_211 ok1, d1, d2, ly_cmp, am_bd_some, Option.toList_some, Option.toList_none, List.cons_append, List.nil_append, am_w8_0, am_w8_1, am_w8_2, am_w8_3, am_w8_4, eq_self, or_true, true_or, am_kd_sI, am_kd_sL, am_kd_sR, am_tc_sI, am_tc_sL, am_tc_sR, am_len_sI, am_len_sL, am_len_sR, am_rfs, if_true, if_false]
theorem ly_c25 (ok : am_okH h) (ok1 : am_okH h1) (hx : h.2.2.2.2 = (L + 1, xs)) (hx1 : h1.2.2.2.2 = (L + 1, xs)) (hi : i + 6 ≤ L) (hL : L ≤ 3072) {v : Int32} (d1 : am_den 103 (.ref 0 :: [.int (xs (i + 1)), .int (xs (i + 2))]) h = some (some (.int v), h1)) (d2 : am_den 278 (.ref 211 :: [.int (xs (i + 1)), .int (xs (i + 2))]) h1 = some (some (.int v), h2)) : am_ev 298 1271 (ly_ls i) [] h = am_ev 298 18 (ly_ls (i + 6)) [] h2 := by
  obtain ⟨a1, a2, a3, a4, a5, a6⟩ := ly_ad i
  have x1 : am_ix (nI (i + 1)) L = true := ly_ix (by omega) hL
  have c1 : (nI (i + 1)).toNatClampNeg = i + 1 := ly_cl (L := L) (by omega) hL
  have x2 : am_ix (nI (i + 2)) L = true := ly_ix (by omega) hL
  have c2 : (nI (i + 2)).toNatClampNeg = i + 2 := ly_cl (L := L) (by omega) hL
  unfold ly_ls
  simp only [e298_1271, e298_1272, e298_1273, e298_1274, e298_1275, e298_1276, e298_1277, e298_1278, e298_1279, e298_1280, e298_1281, e298_1282, e298_1285, e298_1286, e298_1287, e298_1288, e298_1289, e298_1290, e298_1291, e298_1292, e298_1293, e298_1294, e298_1295, e298_1296, e298_1299, e298_1302, e298_1303, e298_1785, e298_1788, okT_CB ok, okT_CB ok1, hx, hx1, Nat.add_sub_cancel, Nat.le_add_left, a1, a2, a3, a4, a5, a6, x1, c1, x2, c2, okK_0 ok, okK_211 ok1, d1, d2, ly_cmp, am_bd_some, Option.toList_some, Option.toList_none, List.cons_append, List.nil_append, am_w8_0, am_w8_1, am_w8_2, am_w8_3, am_w8_4, eq_self, or_true, true_or, am_kd_sI, am_kd_sL, am_kd_sR, am_tc_sI, am_tc_sL, am_tc_sR, am_len_sI, am_len_sL, am_len_sR, am_rfs, if_true, if_false]
theorem ly_c26 (ok : am_okH h) (ok1 : am_okH h1) (hx : h.2.2.2.2 = (L + 1, xs)) (hx1 : h1.2.2.2.2 = (L + 1, xs)) (hi : i + 6 ≤ L) (hL : L ≤ 3072) {v : Int32} (d1 : am_den 105 (.ref 0 :: [.int (xs (i + 1)), .int (xs (i + 2)), .int (xs (i + 3))]) h = some (some (.int v), h1)) (d2 : am_den 279 (.ref 211 :: [.int (xs (i + 1)), .int (xs (i + 2)), .int (xs (i + 3))]) h1 = some (some (.int v), h2)) : am_ev 298 1304 (ly_ls i) [] h = am_ev 298 18 (ly_ls (i + 6)) [] h2 := by
  obtain ⟨a1, a2, a3, a4, a5, a6⟩ := ly_ad i
  have x1 : am_ix (nI (i + 1)) L = true := ly_ix (by omega) hL
  have c1 : (nI (i + 1)).toNatClampNeg = i + 1 := ly_cl (L := L) (by omega) hL
  have x2 : am_ix (nI (i + 2)) L = true := ly_ix (by omega) hL
  have c2 : (nI (i + 2)).toNatClampNeg = i + 2 := ly_cl (L := L) (by omega) hL
  have x3 : am_ix (nI (i + 3)) L = true := ly_ix (by omega) hL
  have c3 : (nI (i + 3)).toNatClampNeg = i + 3 := ly_cl (L := L) (by omega) hL
  unfold ly_ls
  simp only [e298_1304, e298_1305, e298_1306, e298_1307, e298_1308, e298_1309, e298_1310, e298_1311, e298_1312, e298_1313, e298_1314, e298_1315, e298_1316, e298_1317, e298_1318, e298_1319, e298_1320, e298_1323, e298_1324, e298_1325, e298_1326, e298_1327, e298_1328, e298_1329, e298_1330, e298_1331, e298_1332, e298_1333, e298_1334, e298_1335, e298_1336, e298_1337, e298_1338, e298_1339, e298_1342, e298_1345, e298_1346, e298_1785, e298_1788, okT_CB ok, okT_CB ok1, hx, hx1, Nat.add_sub_cancel, Nat.le_add_left, a1, a2, a3, a4, a5, a6, x1, c1, x2, c2, x3, c3, okK_0 ok, okK_211 ok1, d1, d2, ly_cmp, am_bd_some, Option.toList_some, Option.toList_none, List.cons_append, List.nil_append, am_w8_0, am_w8_1, am_w8_2, am_w8_3, am_w8_4, eq_self, or_true, true_or, am_kd_sI, am_kd_sL, am_kd_sR, am_tc_sI, am_tc_sL, am_tc_sR, am_len_sI, am_len_sL, am_len_sR, am_rfs, if_true, if_false]
theorem ly_c27 (ok : am_okH h) (ok1 : am_okH h1) (hx : h.2.2.2.2 = (L + 1, xs)) (hx1 : h1.2.2.2.2 = (L + 1, xs)) (hi : i + 6 ≤ L) (hL : L ≤ 3072) {v : Int32} (d1 : am_den 120 (.ref 0 :: [.int (xs (i + 1)), .int (xs (i + 2)), .int (xs (i + 3))]) h = some (some (.int v), h1)) (d2 : am_den 284 (.ref 211 :: [.int (xs (i + 1)), .int (xs (i + 2)), .int (xs (i + 3))]) h1 = some (some (.int v), h2)) : am_ev 298 1347 (ly_ls i) [] h = am_ev 298 18 (ly_ls (i + 6)) [] h2 := by
  obtain ⟨a1, a2, a3, a4, a5, a6⟩ := ly_ad i
  have x1 : am_ix (nI (i + 1)) L = true := ly_ix (by omega) hL
  have c1 : (nI (i + 1)).toNatClampNeg = i + 1 := ly_cl (L := L) (by omega) hL
  have x2 : am_ix (nI (i + 2)) L = true := ly_ix (by omega) hL
  have c2 : (nI (i + 2)).toNatClampNeg = i + 2 := ly_cl (L := L) (by omega) hL
  have x3 : am_ix (nI (i + 3)) L = true := ly_ix (by omega) hL
  have c3 : (nI (i + 3)).toNatClampNeg = i + 3 := ly_cl (L := L) (by omega) hL
  unfold ly_ls
  simp only [e298_1347, e298_1348, e298_1349, e298_1350, e298_1351, e298_1352, e298_1353, e298_1354, e298_1355, e298_1356, e298_1357, e298_1358, e298_1359, e298_1360, e298_1361, e298_1362, e298_1363, e298_1366, e298_1367, e298_1368, e298_1369, e298_1370, e298_1371, e298_1372, e298_1373, e298_1374, e298_1375, e298_1376, e298_1377, e298_1378, e298_1379, e298_1380, e298_1381, e298_1382, e298_1385, e298_1388, e298_1389, e298_1785, e298_1788, okT_CB ok, okT_CB ok1, hx, hx1, Nat.add_sub_cancel, Nat.le_add_left, a1, a2, a3, a4, a5, a6, x1, c1, x2, c2, x3, c3, okK_0 ok, okK_211 ok1, d1, d2, ly_cmp, am_bd_some, Option.toList_some, Option.toList_none, List.cons_append, List.nil_append, am_w8_0, am_w8_1, am_w8_2, am_w8_3, am_w8_4, eq_self, or_true, true_or, am_kd_sI, am_kd_sL, am_kd_sR, am_tc_sI, am_tc_sL, am_tc_sR, am_len_sI, am_len_sL, am_len_sR, am_rfs, if_true, if_false]
theorem ly_c28 (ok : am_okH h) (ok1 : am_okH h1) (hx : h.2.2.2.2 = (L + 1, xs)) (hx1 : h1.2.2.2.2 = (L + 1, xs)) (hi : i + 6 ≤ L) (hL : L ≤ 3072) {v : Int32} (d1 : am_den 121 (.ref 0 :: [.int (xs (i + 1)), .int (xs (i + 2)), .int (xs (i + 3))]) h = some (some (.int v), h1)) (d2 : am_den 285 (.ref 211 :: [.int (xs (i + 1)), .int (xs (i + 2)), .int (xs (i + 3))]) h1 = some (some (.int v), h2)) : am_ev 298 1390 (ly_ls i) [] h = am_ev 298 18 (ly_ls (i + 6)) [] h2 := by
  obtain ⟨a1, a2, a3, a4, a5, a6⟩ := ly_ad i
  have x1 : am_ix (nI (i + 1)) L = true := ly_ix (by omega) hL
  have c1 : (nI (i + 1)).toNatClampNeg = i + 1 := ly_cl (L := L) (by omega) hL
  have x2 : am_ix (nI (i + 2)) L = true := ly_ix (by omega) hL
  have c2 : (nI (i + 2)).toNatClampNeg = i + 2 := ly_cl (L := L) (by omega) hL
  have x3 : am_ix (nI (i + 3)) L = true := ly_ix (by omega) hL
  have c3 : (nI (i + 3)).toNatClampNeg = i + 3 := ly_cl (L := L) (by omega) hL
  unfold ly_ls
  simp only [e298_1390, e298_1391, e298_1392, e298_1393, e298_1394, e298_1395, e298_1396, e298_1397, e298_1398, e298_1399, e298_1400, e298_1401, e298_1402, e298_1403, e298_1404, e298_1405, e298_1406, e298_1409, e298_1410, e298_1411, e298_1412, e298_1413, e298_1414, e298_1415, e298_1416, e298_1417, e298_1418, e298_1419, e298_1420, e298_1421, e298_1422, e298_1423, e298_1424, e298_1425, e298_1428, e298_1431, e298_1432, e298_1785, e298_1788, okT_CB ok, okT_CB ok1, hx, hx1, Nat.add_sub_cancel, Nat.le_add_left, a1, a2, a3, a4, a5, a6, x1, c1, x2, c2, x3, c3, okK_0 ok, okK_211 ok1, d1, d2, ly_cmp, am_bd_some, Option.toList_some, Option.toList_none, List.cons_append, List.nil_append, am_w8_0, am_w8_1, am_w8_2, am_w8_3, am_w8_4, eq_self, or_true, true_or, am_kd_sI, am_kd_sL, am_kd_sR, am_tc_sI, am_tc_sL, am_tc_sR, am_len_sI, am_len_sL, am_len_sR, am_rfs, if_true, if_false]
theorem ly_c29 (ok : am_okH h) (ok1 : am_okH h1) (hx : h.2.2.2.2 = (L + 1, xs)) (hx1 : h1.2.2.2.2 = (L + 1, xs)) (hi : i + 6 ≤ L) (hL : L ≤ 3072) {v : Int32} (d1 : am_den 123 (.ref 0 :: [.int (xs (i + 1)), .int (xs (i + 2))]) h = some (some (.int v), h1)) (d2 : am_den 286 (.ref 211 :: [.int (xs (i + 1)), .int (xs (i + 2))]) h1 = some (some (.int v), h2)) : am_ev 298 1433 (ly_ls i) [] h = am_ev 298 18 (ly_ls (i + 6)) [] h2 := by
  obtain ⟨a1, a2, a3, a4, a5, a6⟩ := ly_ad i
  have x1 : am_ix (nI (i + 1)) L = true := ly_ix (by omega) hL
  have c1 : (nI (i + 1)).toNatClampNeg = i + 1 := ly_cl (L := L) (by omega) hL
  have x2 : am_ix (nI (i + 2)) L = true := ly_ix (by omega) hL
  have c2 : (nI (i + 2)).toNatClampNeg = i + 2 := ly_cl (L := L) (by omega) hL
  unfold ly_ls
  simp only [e298_1433, e298_1434, e298_1435, e298_1436, e298_1437, e298_1438, e298_1439, e298_1440, e298_1441, e298_1442, e298_1443, e298_1444, e298_1447, e298_1448, e298_1449, e298_1450, e298_1451, e298_1452, e298_1453, e298_1454, e298_1455, e298_1456, e298_1457, e298_1458, e298_1461, e298_1464, e298_1465, e298_1785, e298_1788, okT_CB ok, okT_CB ok1, hx, hx1, Nat.add_sub_cancel, Nat.le_add_left, a1, a2, a3, a4, a5, a6, x1, c1, x2, c2, okK_0 ok, okK_211 ok1, d1, d2, ly_cmp, am_bd_some, Option.toList_some, Option.toList_none, List.cons_append, List.nil_append, am_w8_0, am_w8_1, am_w8_2, am_w8_3, am_w8_4, eq_self, or_true, true_or, am_kd_sI, am_kd_sL, am_kd_sR, am_tc_sI, am_tc_sL, am_tc_sR, am_len_sI, am_len_sL, am_len_sR, am_rfs, if_true, if_false]
theorem ly_c30 (ok : am_okH h) (ok1 : am_okH h1) (hx : h.2.2.2.2 = (L + 1, xs)) (hx1 : h1.2.2.2.2 = (L + 1, xs)) (hi : i + 6 ≤ L) (hL : L ≤ 3072) {v : Int32} (d1 : am_den 110 (.ref 0 :: [.int (xs (i + 1)), .int (if xs (i + 2) = 0 then 0 else 1)]) h = some (some (.int v), h1)) (d2 : am_den 287 (.ref 211 :: [.int (xs (i + 1)), .int (if xs (i + 2) = 0 then 0 else 1)]) h1 = some (some (.int v), h2)) : am_ev 298 1466 (ly_ls i) [] h = am_ev 298 18 (ly_ls (i + 6)) [] h2 := by
  obtain ⟨a1, a2, a3, a4, a5, a6⟩ := ly_ad i
  have x1 : am_ix (nI (i + 1)) L = true := ly_ix (by omega) hL
  have c1 : (nI (i + 1)).toNatClampNeg = i + 1 := ly_cl (L := L) (by omega) hL
  have x2 : am_ix (nI (i + 2)) L = true := ly_ix (by omega) hL
  have c2 : (nI (i + 2)).toNatClampNeg = i + 2 := ly_cl (L := L) (by omega) hL
  unfold ly_ls
  by_cases hb : xs (i + 2) = 0
  · rw [if_pos hb] at d1 d2
    simp only [e298_1466, e298_1467, e298_1468, e298_1469, e298_1470, e298_1471, e298_1472, e298_1473, e298_1474, e298_1475, e298_1476, e298_1477, e298_1480, e298_1481, e298_1484, e298_1485, e298_1488, e298_1489, e298_1490, e298_1491, e298_1492, e298_1493, e298_1494, e298_1495, e298_1496, e298_1497, e298_1498, e298_1499, e298_1502, e298_1503, e298_1506, e298_1507, e298_1510, e298_1513, e298_1514, e298_1785, e298_1788, okT_CB ok, okT_CB ok1, hx, hx1, Nat.add_sub_cancel, Nat.le_add_left, a1, a2, a3, a4, a5, a6, x1, c1, x2, c2, okK_0 ok, okK_211 ok1, d1, d2, ly_cmp, am_bd_some, Option.toList_some, Option.toList_none, List.cons_append, List.nil_append, am_w8_0, am_w8_1, am_w8_2, am_w8_3, am_w8_4, eq_self, or_true, true_or, am_kd_sI, am_kd_sL, am_kd_sR, am_tc_sI, am_tc_sL, am_tc_sR, am_len_sI, am_len_sL, am_len_sR, am_rfs, if_true, if_false, hb]
  · rw [if_neg hb] at d1 d2
    simp only [e298_1466, e298_1467, e298_1468, e298_1469, e298_1470, e298_1471, e298_1472, e298_1473, e298_1474, e298_1475, e298_1476, e298_1477, e298_1480, e298_1481, e298_1484, e298_1485, e298_1488, e298_1489, e298_1490, e298_1491, e298_1492, e298_1493, e298_1494, e298_1495, e298_1496, e298_1497, e298_1498, e298_1499, e298_1502, e298_1503, e298_1506, e298_1507, e298_1510, e298_1513, e298_1514, e298_1785, e298_1788, okT_CB ok, okT_CB ok1, hx, hx1, Nat.add_sub_cancel, Nat.le_add_left, a1, a2, a3, a4, a5, a6, x1, c1, x2, c2, okK_0 ok, okK_211 ok1, d1, d2, ly_cmp, am_bd_some, Option.toList_some, Option.toList_none, List.cons_append, List.nil_append, am_w8_0, am_w8_1, am_w8_2, am_w8_3, am_w8_4, eq_self, or_true, true_or, am_kd_sI, am_kd_sL, am_kd_sR, am_tc_sI, am_tc_sL, am_tc_sR, am_len_sI, am_len_sL, am_len_sR, am_rfs, if_true, if_false, hb]
theorem ly_c31 (ok : am_okH h) (ok1 : am_okH h1) (hx : h.2.2.2.2 = (L + 1, xs)) (hx1 : h1.2.2.2.2 = (L + 1, xs)) (hi : i + 6 ≤ L) (hL : L ≤ 3072) {v : Int32} (d1 : am_den 136 (.ref 0 :: [.int (xs (i + 1)), .int (xs (i + 2))]) h = some (some (.int v), h1)) (d2 : am_den 288 (.ref 211 :: [.int (xs (i + 1)), .int (xs (i + 2))]) h1 = some (some (.int v), h2)) : am_ev 298 1515 (ly_ls i) [] h = am_ev 298 18 (ly_ls (i + 6)) [] h2 := by
  obtain ⟨a1, a2, a3, a4, a5, a6⟩ := ly_ad i
  have x1 : am_ix (nI (i + 1)) L = true := ly_ix (by omega) hL
  have c1 : (nI (i + 1)).toNatClampNeg = i + 1 := ly_cl (L := L) (by omega) hL
  have x2 : am_ix (nI (i + 2)) L = true := ly_ix (by omega) hL
  have c2 : (nI (i + 2)).toNatClampNeg = i + 2 := ly_cl (L := L) (by omega) hL
  unfold ly_ls
  simp only [e298_1515, e298_1516, e298_1517, e298_1518, e298_1519, e298_1520, e298_1521, e298_1522, e298_1523, e298_1524, e298_1525, e298_1526, e298_1529, e298_1530, e298_1531, e298_1532, e298_1533, e298_1534, e298_1535, e298_1536, e298_1537, e298_1538, e298_1539, e298_1540, e298_1543, e298_1546, e298_1547, e298_1785, e298_1788, okT_CB ok, okT_CB ok1, hx, hx1, Nat.add_sub_cancel, Nat.le_add_left, a1, a2, a3, a4, a5, a6, x1, c1, x2, c2, okK_0 ok, okK_211 ok1, d1, d2, ly_cmp, am_bd_some, Option.toList_some, Option.toList_none, List.cons_append, List.nil_append, am_w8_0, am_w8_1, am_w8_2, am_w8_3, am_w8_4, eq_self, or_true, true_or, am_kd_sI, am_kd_sL, am_kd_sR, am_tc_sI, am_tc_sL, am_tc_sR, am_len_sI, am_len_sL, am_len_sR, am_rfs, if_true, if_false]
theorem ly_c32 (ok : am_okH h) (ok1 : am_okH h1) (hx : h.2.2.2.2 = (L + 1, xs)) (hx1 : h1.2.2.2.2 = (L + 1, xs)) (hi : i + 6 ≤ L) (hL : L ≤ 3072) {v : Int32} (d1 : am_den 137 (.ref 0 :: [.int (xs (i + 1))]) h = some (some (.int v), h1)) (d2 : am_den 289 (.ref 211 :: [.int (xs (i + 1))]) h1 = some (some (.int v), h2)) : am_ev 298 1548 (ly_ls i) [] h = am_ev 298 18 (ly_ls (i + 6)) [] h2 := by
  obtain ⟨a1, a2, a3, a4, a5, a6⟩ := ly_ad i
  have x1 : am_ix (nI (i + 1)) L = true := ly_ix (by omega) hL
  have c1 : (nI (i + 1)).toNatClampNeg = i + 1 := ly_cl (L := L) (by omega) hL
  unfold ly_ls
  simp only [e298_1548, e298_1549, e298_1550, e298_1551, e298_1552, e298_1553, e298_1554, e298_1557, e298_1558, e298_1559, e298_1560, e298_1561, e298_1562, e298_1563, e298_1566, e298_1569, e298_1570, e298_1785, e298_1788, okT_CB ok, okT_CB ok1, hx, hx1, Nat.add_sub_cancel, Nat.le_add_left, a1, a2, a3, a4, a5, a6, x1, c1, okK_0 ok, okK_211 ok1, d1, d2, ly_cmp, am_bd_some, Option.toList_some, Option.toList_none, List.cons_append, List.nil_append, am_w8_0, am_w8_1, am_w8_2, am_w8_3, am_w8_4, eq_self, or_true, true_or, am_kd_sI, am_kd_sL, am_kd_sR, am_tc_sI, am_tc_sL, am_tc_sR, am_len_sI, am_len_sL, am_len_sR, am_rfs, if_true, if_false]
theorem ly_c33 (ok : am_okH h) (ok1 : am_okH h1) (hx : h.2.2.2.2 = (L + 1, xs)) (hx1 : h1.2.2.2.2 = (L + 1, xs)) (hi : i + 6 ≤ L) (hL : L ≤ 3072) {v : Int32} (d1 : am_den 143 (.ref 0 :: [.int (xs (i + 1)), .int (xs (i + 2)), .int (if xs (i + 3) = 0 then 0 else 1)]) h = some (some (.int v), h1)) (d2 : am_den 290 (.ref 211 :: [.int (xs (i + 1)), .int (xs (i + 2)), .int (if xs (i + 3) = 0 then 0 else 1)]) h1 = some (some (.int v), h2)) : am_ev 298 1571 (ly_ls i) [] h = am_ev 298 18 (ly_ls (i + 6)) [] h2 := by
  obtain ⟨a1, a2, a3, a4, a5, a6⟩ := ly_ad i
  have x1 : am_ix (nI (i + 1)) L = true := ly_ix (by omega) hL
  have c1 : (nI (i + 1)).toNatClampNeg = i + 1 := ly_cl (L := L) (by omega) hL
  have x2 : am_ix (nI (i + 2)) L = true := ly_ix (by omega) hL
  have c2 : (nI (i + 2)).toNatClampNeg = i + 2 := ly_cl (L := L) (by omega) hL
  have x3 : am_ix (nI (i + 3)) L = true := ly_ix (by omega) hL
  have c3 : (nI (i + 3)).toNatClampNeg = i + 3 := ly_cl (L := L) (by omega) hL
  unfold ly_ls
  by_cases hb : xs (i + 3) = 0
  · rw [if_pos hb] at d1 d2
    simp only [e298_1571, e298_1572, e298_1573, e298_1574, e298_1575, e298_1576, e298_1577, e298_1578, e298_1579, e298_1580, e298_1581, e298_1582, e298_1583, e298_1584, e298_1585, e298_1586, e298_1587, e298_1590, e298_1591, e298_1594, e298_1595, e298_1598, e298_1599, e298_1600, e298_1601, e298_1602, e298_1603, e298_1604, e298_1605, e298_1606, e298_1607, e298_1608, e298_1609, e298_1610, e298_1611, e298_1612, e298_1613, e298_1614, e298_1617, e298_1618, e298_1621, e298_1622, e298_1625, e298_1628, e298_1629, e298_1785, e298_1788, okT_CB ok, okT_CB ok1, hx, hx1, Nat.add_sub_cancel, Nat.le_add_left, a1, a2, a3, a4, a5, a6, x1, c1, x2, c2, x3, c3, okK_0 ok, okK_211 ok1, d1, d2, ly_cmp, am_bd_some, Option.toList_some, Option.toList_none, List.cons_append, List.nil_append, am_w8_0, am_w8_1, am_w8_2, am_w8_3, am_w8_4, eq_self, or_true, true_or, am_kd_sI, am_kd_sL, am_kd_sR, am_tc_sI, am_tc_sL, am_tc_sR, am_len_sI, am_len_sL, am_len_sR, am_rfs, if_true, if_false, hb]
  · rw [if_neg hb] at d1 d2
    simp only [e298_1571, e298_1572, e298_1573, e298_1574, e298_1575, e298_1576, e298_1577, e298_1578, e298_1579, e298_1580, e298_1581, e298_1582, e298_1583, e298_1584, e298_1585, e298_1586, e298_1587, e298_1590, e298_1591, e298_1594, e298_1595, e298_1598, e298_1599, e298_1600, e298_1601, e298_1602, e298_1603, e298_1604, e298_1605, e298_1606, e298_1607, e298_1608, e298_1609, e298_1610, e298_1611, e298_1612, e298_1613, e298_1614, e298_1617, e298_1618, e298_1621, e298_1622, e298_1625, e298_1628, e298_1629, e298_1785, e298_1788, okT_CB ok, okT_CB ok1, hx, hx1, Nat.add_sub_cancel, Nat.le_add_left, a1, a2, a3, a4, a5, a6, x1, c1, x2, c2, x3, c3, okK_0 ok, okK_211 ok1, d1, d2, ly_cmp, am_bd_some, Option.toList_some, Option.toList_none, List.cons_append, List.nil_append, am_w8_0, am_w8_1, am_w8_2, am_w8_3, am_w8_4, eq_self, or_true, true_or, am_kd_sI, am_kd_sL, am_kd_sR, am_tc_sI, am_tc_sL, am_tc_sR, am_len_sI, am_len_sL, am_len_sR, am_rfs, if_true, if_false, hb]
theorem ly_c34 (ok : am_okH h) (ok1 : am_okH h1) (hx : h.2.2.2.2 = (L + 1, xs)) (hx1 : h1.2.2.2.2 = (L + 1, xs)) (hi : i + 6 ≤ L) (hL : L ≤ 3072) {v : Int32} (d1 : am_den 156 (.ref 0 :: [.int (xs (i + 1)), .int (xs (i + 2)), .int (xs (i + 3)), .int (xs (i + 4))]) h = some (some (.int v), h1)) (d2 : am_den 291 (.ref 211 :: [.int (xs (i + 1)), .int (xs (i + 2)), .int (xs (i + 3)), .int (xs (i + 4))]) h1 = some (some (.int v), h2)) : am_ev 298 1630 (ly_ls i) [] h = am_ev 298 18 (ly_ls (i + 6)) [] h2 := by
  obtain ⟨a1, a2, a3, a4, a5, a6⟩ := ly_ad i
  have x1 : am_ix (nI (i + 1)) L = true := ly_ix (by omega) hL
  have c1 : (nI (i + 1)).toNatClampNeg = i + 1 := ly_cl (L := L) (by omega) hL
  have x2 : am_ix (nI (i + 2)) L = true := ly_ix (by omega) hL
  have c2 : (nI (i + 2)).toNatClampNeg = i + 2 := ly_cl (L := L) (by omega) hL
  have x3 : am_ix (nI (i + 3)) L = true := ly_ix (by omega) hL
  have c3 : (nI (i + 3)).toNatClampNeg = i + 3 := ly_cl (L := L) (by omega) hL
  have x4 : am_ix (nI (i + 4)) L = true := ly_ix (by omega) hL
  have c4 : (nI (i + 4)).toNatClampNeg = i + 4 := ly_cl (L := L) (by omega) hL
  unfold ly_ls
  simp only [e298_1630, e298_1631, e298_1632, e298_1633, e298_1634, e298_1635, e298_1636, e298_1637, e298_1638, e298_1639, e298_1640, e298_1641, e298_1642, e298_1643, e298_1644, e298_1645, e298_1646, e298_1647, e298_1648, e298_1649, e298_1650, e298_1651, e298_1654, e298_1655, e298_1656, e298_1657, e298_1658, e298_1659, e298_1660, e298_1661, e298_1662, e298_1663, e298_1664, e298_1665, e298_1666, e298_1667, e298_1668, e298_1669, e298_1670, e298_1671, e298_1672, e298_1673, e298_1674, e298_1675, e298_1678, e298_1681, e298_1682, e298_1785, e298_1788, okT_CB ok, okT_CB ok1, hx, hx1, Nat.add_sub_cancel, Nat.le_add_left, a1, a2, a3, a4, a5, a6, x1, c1, x2, c2, x3, c3, x4, c4, okK_0 ok, okK_211 ok1, d1, d2, ly_cmp, am_bd_some, Option.toList_some, Option.toList_none, List.cons_append, List.nil_append, am_w8_0, am_w8_1, am_w8_2, am_w8_3, am_w8_4, eq_self, or_true, true_or, am_kd_sI, am_kd_sL, am_kd_sR, am_tc_sI, am_tc_sL, am_tc_sR, am_len_sI, am_len_sL, am_len_sR, am_rfs, if_true, if_false]
theorem ly_c35 (ok : am_okH h) (ok1 : am_okH h1) (hx : h.2.2.2.2 = (L + 1, xs)) (hx1 : h1.2.2.2.2 = (L + 1, xs)) (hi : i + 6 ≤ L) (hL : L ≤ 3072) {v : Int32} (d1 : am_den 161 (.ref 0 :: [.int (xs (i + 1)), .int (xs (i + 2))]) h = some (some (.int v), h1)) (d2 : am_den 292 (.ref 211 :: [.int (xs (i + 1)), .int (xs (i + 2))]) h1 = some (some (.int v), h2)) : am_ev 298 1683 (ly_ls i) [] h = am_ev 298 18 (ly_ls (i + 6)) [] h2 := by
  obtain ⟨a1, a2, a3, a4, a5, a6⟩ := ly_ad i
  have x1 : am_ix (nI (i + 1)) L = true := ly_ix (by omega) hL
  have c1 : (nI (i + 1)).toNatClampNeg = i + 1 := ly_cl (L := L) (by omega) hL
  have x2 : am_ix (nI (i + 2)) L = true := ly_ix (by omega) hL
  have c2 : (nI (i + 2)).toNatClampNeg = i + 2 := ly_cl (L := L) (by omega) hL
  unfold ly_ls
  simp only [e298_1683, e298_1684, e298_1685, e298_1686, e298_1687, e298_1688, e298_1689, e298_1690, e298_1691, e298_1692, e298_1693, e298_1694, e298_1697, e298_1698, e298_1699, e298_1700, e298_1701, e298_1702, e298_1703, e298_1704, e298_1705, e298_1706, e298_1707, e298_1708, e298_1711, e298_1714, e298_1715, e298_1785, e298_1788, okT_CB ok, okT_CB ok1, hx, hx1, Nat.add_sub_cancel, Nat.le_add_left, a1, a2, a3, a4, a5, a6, x1, c1, x2, c2, okK_0 ok, okK_211 ok1, d1, d2, ly_cmp, am_bd_some, Option.toList_some, Option.toList_none, List.cons_append, List.nil_append, am_w8_0, am_w8_1, am_w8_2, am_w8_3, am_w8_4, eq_self, or_true, true_or, am_kd_sI, am_kd_sL, am_kd_sR, am_tc_sI, am_tc_sL, am_tc_sR, am_len_sI, am_len_sL, am_len_sR, am_rfs, if_true, if_false]
theorem ly_c36 (ok : am_okH h) (ok1 : am_okH h1) (hx : h.2.2.2.2 = (L + 1, xs)) (hx1 : h1.2.2.2.2 = (L + 1, xs)) (hi : i + 6 ≤ L) (hL : L ≤ 3072) {v : Int32} (d1 : am_den 61 (.ref 0 :: [.int (xs (i + 1))]) h = some (some (.int v), h1)) (d2 : am_den 293 (.ref 211 :: [.int (xs (i + 1))]) h1 = some (some (.int v), h2)) : am_ev 298 1716 (ly_ls i) [] h = am_ev 298 18 (ly_ls (i + 6)) [] h2 := by
  obtain ⟨a1, a2, a3, a4, a5, a6⟩ := ly_ad i
  have x1 : am_ix (nI (i + 1)) L = true := ly_ix (by omega) hL
  have c1 : (nI (i + 1)).toNatClampNeg = i + 1 := ly_cl (L := L) (by omega) hL
  unfold ly_ls
  simp only [e298_1716, e298_1717, e298_1718, e298_1719, e298_1720, e298_1721, e298_1722, e298_1725, e298_1726, e298_1727, e298_1728, e298_1729, e298_1730, e298_1731, e298_1734, e298_1737, e298_1738, e298_1785, e298_1788, okT_CB ok, okT_CB ok1, hx, hx1, Nat.add_sub_cancel, Nat.le_add_left, a1, a2, a3, a4, a5, a6, x1, c1, okK_0 ok, okK_211 ok1, d1, d2, ly_cmp, am_bd_some, Option.toList_some, Option.toList_none, List.cons_append, List.nil_append, am_w8_0, am_w8_1, am_w8_2, am_w8_3, am_w8_4, eq_self, or_true, true_or, am_kd_sI, am_kd_sL, am_kd_sR, am_tc_sI, am_tc_sL, am_tc_sR, am_len_sI, am_len_sL, am_len_sR, am_rfs, if_true, if_false]
theorem ly_c37 (ok : am_okH h) (ok1 : am_okH h1) (hx : h.2.2.2.2 = (L + 1, xs)) (hx1 : h1.2.2.2.2 = (L + 1, xs)) (hi : i + 6 ≤ L) (hL : L ≤ 3072) {v : Int32} (d1 : am_den 62 (.ref 0 :: [.int (xs (i + 1))]) h = some (some (.int v), h1)) (d2 : am_den 294 (.ref 211 :: [.int (xs (i + 1))]) h1 = some (some (.int v), h2)) : am_ev 298 1739 (ly_ls i) [] h = am_ev 298 18 (ly_ls (i + 6)) [] h2 := by
  obtain ⟨a1, a2, a3, a4, a5, a6⟩ := ly_ad i
  have x1 : am_ix (nI (i + 1)) L = true := ly_ix (by omega) hL
  have c1 : (nI (i + 1)).toNatClampNeg = i + 1 := ly_cl (L := L) (by omega) hL
  unfold ly_ls
  simp only [e298_1739, e298_1740, e298_1741, e298_1742, e298_1743, e298_1744, e298_1745, e298_1748, e298_1749, e298_1750, e298_1751, e298_1752, e298_1753, e298_1754, e298_1757, e298_1760, e298_1761, e298_1785, e298_1788, okT_CB ok, okT_CB ok1, hx, hx1, Nat.add_sub_cancel, Nat.le_add_left, a1, a2, a3, a4, a5, a6, x1, c1, okK_0 ok, okK_211 ok1, d1, d2, ly_cmp, am_bd_some, Option.toList_some, Option.toList_none, List.cons_append, List.nil_append, am_w8_0, am_w8_1, am_w8_2, am_w8_3, am_w8_4, eq_self, or_true, true_or, am_kd_sI, am_kd_sL, am_kd_sR, am_tc_sI, am_tc_sL, am_tc_sR, am_len_sI, am_len_sL, am_len_sR, am_rfs, if_true, if_false]
theorem ly_c38 (ok : am_okH h) (ok1 : am_okH h1) (hx : h.2.2.2.2 = (L + 1, xs)) (hx1 : h1.2.2.2.2 = (L + 1, xs)) (hi : i + 6 ≤ L) (hL : L ≤ 3072) {v : Int32} (d1 : am_den 64 (.ref 0 :: [.int (xs (i + 1))]) h = some (some (.int v), h1)) (d2 : am_den 297 (.ref 211 :: [.int (xs (i + 1))]) h1 = some (some (.int v), h2)) : am_ev 298 1762 (ly_ls i) [] h = am_ev 298 18 (ly_ls (i + 6)) [] h2 := by
  obtain ⟨a1, a2, a3, a4, a5, a6⟩ := ly_ad i
  have x1 : am_ix (nI (i + 1)) L = true := ly_ix (by omega) hL
  have c1 : (nI (i + 1)).toNatClampNeg = i + 1 := ly_cl (L := L) (by omega) hL
  unfold ly_ls
  simp only [e298_1762, e298_1763, e298_1764, e298_1765, e298_1766, e298_1767, e298_1768, e298_1771, e298_1772, e298_1773, e298_1774, e298_1775, e298_1776, e298_1777, e298_1780, e298_1783, e298_1784, e298_1785, e298_1788, okT_CB ok, okT_CB ok1, hx, hx1, Nat.add_sub_cancel, Nat.le_add_left, a1, a2, a3, a4, a5, a6, x1, c1, okK_0 ok, okK_211 ok1, d1, d2, ly_cmp, am_bd_some, Option.toList_some, Option.toList_none, List.cons_append, List.nil_append, am_w8_0, am_w8_1, am_w8_2, am_w8_3, am_w8_4, eq_self, or_true, true_or, am_kd_sI, am_kd_sL, am_kd_sR, am_tc_sI, am_tc_sL, am_tc_sR, am_len_sI, am_len_sL, am_len_sR, am_rfs, if_true, if_false]
end LWC
theorem ly_s0 {ls : List (Option Value)} {st : List Value} {h : am_H} : am_ev 298 33 ls (.int 0 :: st) h = am_ev 298 204 ls st h := am_ev_step (q := (204, ls, st, h)) _ (.tableswitch (1752) (0) (38) #[171, 234, 257, 290, 313, 346, 389, 422, 475, 508, 551, 621, 670, 729, 762, 795, 838, 881, 914, 947, 990, 1044, 1097, 1146, 1215, 1238, 1271, 1314, 1357, 1400, 1433, 1482, 1515, 1538, 1597, 1650, 1683, 1706, 1729]) 171 am_my_298 (by decide +kernel) rfl
theorem ly_s1 {ls : List (Option Value)} {st : List Value} {h : am_H} : am_ev 298 33 ls (.int 1 :: st) h = am_ev 298 267 ls st h := am_ev_step (q := (267, ls, st, h)) _ (.tableswitch (1752) (0) (38) #[171, 234, 257, 290, 313, 346, 389, 422, 475, 508, 551, 621, 670, 729, 762, 795, 838, 881, 914, 947, 990, 1044, 1097, 1146, 1215, 1238, 1271, 1314, 1357, 1400, 1433, 1482, 1515, 1538, 1597, 1650, 1683, 1706, 1729]) 171 am_my_298 (by decide +kernel) rfl
theorem ly_s2 {ls : List (Option Value)} {st : List Value} {h : am_H} : am_ev 298 33 ls (.int 2 :: st) h = am_ev 298 290 ls st h := am_ev_step (q := (290, ls, st, h)) _ (.tableswitch (1752) (0) (38) #[171, 234, 257, 290, 313, 346, 389, 422, 475, 508, 551, 621, 670, 729, 762, 795, 838, 881, 914, 947, 990, 1044, 1097, 1146, 1215, 1238, 1271, 1314, 1357, 1400, 1433, 1482, 1515, 1538, 1597, 1650, 1683, 1706, 1729]) 171 am_my_298 (by decide +kernel) rfl
theorem ly_s3 {ls : List (Option Value)} {st : List Value} {h : am_H} : am_ev 298 33 ls (.int 3 :: st) h = am_ev 298 323 ls st h := am_ev_step (q := (323, ls, st, h)) _ (.tableswitch (1752) (0) (38) #[171, 234, 257, 290, 313, 346, 389, 422, 475, 508, 551, 621, 670, 729, 762, 795, 838, 881, 914, 947, 990, 1044, 1097, 1146, 1215, 1238, 1271, 1314, 1357, 1400, 1433, 1482, 1515, 1538, 1597, 1650, 1683, 1706, 1729]) 171 am_my_298 (by decide +kernel) rfl
theorem ly_s4 {ls : List (Option Value)} {st : List Value} {h : am_H} : am_ev 298 33 ls (.int 4 :: st) h = am_ev 298 346 ls st h := am_ev_step (q := (346, ls, st, h)) _ (.tableswitch (1752) (0) (38) #[171, 234, 257, 290, 313, 346, 389, 422, 475, 508, 551, 621, 670, 729, 762, 795, 838, 881, 914, 947, 990, 1044, 1097, 1146, 1215, 1238, 1271, 1314, 1357, 1400, 1433, 1482, 1515, 1538, 1597, 1650, 1683, 1706, 1729]) 171 am_my_298 (by decide +kernel) rfl
theorem ly_s5 {ls : List (Option Value)} {st : List Value} {h : am_H} : am_ev 298 33 ls (.int 5 :: st) h = am_ev 298 379 ls st h := am_ev_step (q := (379, ls, st, h)) _ (.tableswitch (1752) (0) (38) #[171, 234, 257, 290, 313, 346, 389, 422, 475, 508, 551, 621, 670, 729, 762, 795, 838, 881, 914, 947, 990, 1044, 1097, 1146, 1215, 1238, 1271, 1314, 1357, 1400, 1433, 1482, 1515, 1538, 1597, 1650, 1683, 1706, 1729]) 171 am_my_298 (by decide +kernel) rfl
theorem ly_s6 {ls : List (Option Value)} {st : List Value} {h : am_H} : am_ev 298 33 ls (.int 6 :: st) h = am_ev 298 422 ls st h := am_ev_step (q := (422, ls, st, h)) _ (.tableswitch (1752) (0) (38) #[171, 234, 257, 290, 313, 346, 389, 422, 475, 508, 551, 621, 670, 729, 762, 795, 838, 881, 914, 947, 990, 1044, 1097, 1146, 1215, 1238, 1271, 1314, 1357, 1400, 1433, 1482, 1515, 1538, 1597, 1650, 1683, 1706, 1729]) 171 am_my_298 (by decide +kernel) rfl
theorem ly_s7 {ls : List (Option Value)} {st : List Value} {h : am_H} : am_ev 298 33 ls (.int 7 :: st) h = am_ev 298 455 ls st h := am_ev_step (q := (455, ls, st, h)) _ (.tableswitch (1752) (0) (38) #[171, 234, 257, 290, 313, 346, 389, 422, 475, 508, 551, 621, 670, 729, 762, 795, 838, 881, 914, 947, 990, 1044, 1097, 1146, 1215, 1238, 1271, 1314, 1357, 1400, 1433, 1482, 1515, 1538, 1597, 1650, 1683, 1706, 1729]) 171 am_my_298 (by decide +kernel) rfl
theorem ly_s8 {ls : List (Option Value)} {st : List Value} {h : am_H} : am_ev 298 33 ls (.int 8 :: st) h = am_ev 298 508 ls st h := am_ev_step (q := (508, ls, st, h)) _ (.tableswitch (1752) (0) (38) #[171, 234, 257, 290, 313, 346, 389, 422, 475, 508, 551, 621, 670, 729, 762, 795, 838, 881, 914, 947, 990, 1044, 1097, 1146, 1215, 1238, 1271, 1314, 1357, 1400, 1433, 1482, 1515, 1538, 1597, 1650, 1683, 1706, 1729]) 171 am_my_298 (by decide +kernel) rfl
theorem ly_s9 {ls : List (Option Value)} {st : List Value} {h : am_H} : am_ev 298 33 ls (.int 9 :: st) h = am_ev 298 541 ls st h := am_ev_step (q := (541, ls, st, h)) _ (.tableswitch (1752) (0) (38) #[171, 234, 257, 290, 313, 346, 389, 422, 475, 508, 551, 621, 670, 729, 762, 795, 838, 881, 914, 947, 990, 1044, 1097, 1146, 1215, 1238, 1271, 1314, 1357, 1400, 1433, 1482, 1515, 1538, 1597, 1650, 1683, 1706, 1729]) 171 am_my_298 (by decide +kernel) rfl
theorem ly_s10 {ls : List (Option Value)} {st : List Value} {h : am_H} : am_ev 298 33 ls (.int 10 :: st) h = am_ev 298 584 ls st h := am_ev_step (q := (584, ls, st, h)) _ (.tableswitch (1752) (0) (38) #[171, 234, 257, 290, 313, 346, 389, 422, 475, 508, 551, 621, 670, 729, 762, 795, 838, 881, 914, 947, 990, 1044, 1097, 1146, 1215, 1238, 1271, 1314, 1357, 1400, 1433, 1482, 1515, 1538, 1597, 1650, 1683, 1706, 1729]) 171 am_my_298 (by decide +kernel) rfl
theorem ly_s11 {ls : List (Option Value)} {st : List Value} {h : am_H} : am_ev 298 33 ls (.int 11 :: st) h = am_ev 298 654 ls st h := am_ev_step (q := (654, ls, st, h)) _ (.tableswitch (1752) (0) (38) #[171, 234, 257, 290, 313, 346, 389, 422, 475, 508, 551, 621, 670, 729, 762, 795, 838, 881, 914, 947, 990, 1044, 1097, 1146, 1215, 1238, 1271, 1314, 1357, 1400, 1433, 1482, 1515, 1538, 1597, 1650, 1683, 1706, 1729]) 171 am_my_298 (by decide +kernel) rfl
theorem ly_s12 {ls : List (Option Value)} {st : List Value} {h : am_H} : am_ev 298 33 ls (.int 12 :: st) h = am_ev 298 703 ls st h := am_ev_step (q := (703, ls, st, h)) _ (.tableswitch (1752) (0) (38) #[171, 234, 257, 290, 313, 346, 389, 422, 475, 508, 551, 621, 670, 729, 762, 795, 838, 881, 914, 947, 990, 1044, 1097, 1146, 1215, 1238, 1271, 1314, 1357, 1400, 1433, 1482, 1515, 1538, 1597, 1650, 1683, 1706, 1729]) 171 am_my_298 (by decide +kernel) rfl
theorem ly_s13 {ls : List (Option Value)} {st : List Value} {h : am_H} : am_ev 298 33 ls (.int 13 :: st) h = am_ev 298 762 ls st h := am_ev_step (q := (762, ls, st, h)) _ (.tableswitch (1752) (0) (38) #[171, 234, 257, 290, 313, 346, 389, 422, 475, 508, 551, 621, 670, 729, 762, 795, 838, 881, 914, 947, 990, 1044, 1097, 1146, 1215, 1238, 1271, 1314, 1357, 1400, 1433, 1482, 1515, 1538, 1597, 1650, 1683, 1706, 1729]) 171 am_my_298 (by decide +kernel) rfl
theorem ly_s14 {ls : List (Option Value)} {st : List Value} {h : am_H} : am_ev 298 33 ls (.int 14 :: st) h = am_ev 298 795 ls st h := am_ev_step (q := (795, ls, st, h)) _ (.tableswitch (1752) (0) (38) #[171, 234, 257, 290, 313, 346, 389, 422, 475, 508, 551, 621, 670, 729, 762, 795, 838, 881, 914, 947, 990, 1044, 1097, 1146, 1215, 1238, 1271, 1314, 1357, 1400, 1433, 1482, 1515, 1538, 1597, 1650, 1683, 1706, 1729]) 171 am_my_298 (by decide +kernel) rfl
theorem ly_s15 {ls : List (Option Value)} {st : List Value} {h : am_H} : am_ev 298 33 ls (.int 15 :: st) h = am_ev 298 828 ls st h := am_ev_step (q := (828, ls, st, h)) _ (.tableswitch (1752) (0) (38) #[171, 234, 257, 290, 313, 346, 389, 422, 475, 508, 551, 621, 670, 729, 762, 795, 838, 881, 914, 947, 990, 1044, 1097, 1146, 1215, 1238, 1271, 1314, 1357, 1400, 1433, 1482, 1515, 1538, 1597, 1650, 1683, 1706, 1729]) 171 am_my_298 (by decide +kernel) rfl
theorem ly_s16 {ls : List (Option Value)} {st : List Value} {h : am_H} : am_ev 298 33 ls (.int 16 :: st) h = am_ev 298 871 ls st h := am_ev_step (q := (871, ls, st, h)) _ (.tableswitch (1752) (0) (38) #[171, 234, 257, 290, 313, 346, 389, 422, 475, 508, 551, 621, 670, 729, 762, 795, 838, 881, 914, 947, 990, 1044, 1097, 1146, 1215, 1238, 1271, 1314, 1357, 1400, 1433, 1482, 1515, 1538, 1597, 1650, 1683, 1706, 1729]) 171 am_my_298 (by decide +kernel) rfl
theorem ly_s17 {ls : List (Option Value)} {st : List Value} {h : am_H} : am_ev 298 33 ls (.int 17 :: st) h = am_ev 298 914 ls st h := am_ev_step (q := (914, ls, st, h)) _ (.tableswitch (1752) (0) (38) #[171, 234, 257, 290, 313, 346, 389, 422, 475, 508, 551, 621, 670, 729, 762, 795, 838, 881, 914, 947, 990, 1044, 1097, 1146, 1215, 1238, 1271, 1314, 1357, 1400, 1433, 1482, 1515, 1538, 1597, 1650, 1683, 1706, 1729]) 171 am_my_298 (by decide +kernel) rfl
theorem ly_s18 {ls : List (Option Value)} {st : List Value} {h : am_H} : am_ev 298 33 ls (.int 18 :: st) h = am_ev 298 947 ls st h := am_ev_step (q := (947, ls, st, h)) _ (.tableswitch (1752) (0) (38) #[171, 234, 257, 290, 313, 346, 389, 422, 475, 508, 551, 621, 670, 729, 762, 795, 838, 881, 914, 947, 990, 1044, 1097, 1146, 1215, 1238, 1271, 1314, 1357, 1400, 1433, 1482, 1515, 1538, 1597, 1650, 1683, 1706, 1729]) 171 am_my_298 (by decide +kernel) rfl
theorem ly_s19 {ls : List (Option Value)} {st : List Value} {h : am_H} : am_ev 298 33 ls (.int 19 :: st) h = am_ev 298 980 ls st h := am_ev_step (q := (980, ls, st, h)) _ (.tableswitch (1752) (0) (38) #[171, 234, 257, 290, 313, 346, 389, 422, 475, 508, 551, 621, 670, 729, 762, 795, 838, 881, 914, 947, 990, 1044, 1097, 1146, 1215, 1238, 1271, 1314, 1357, 1400, 1433, 1482, 1515, 1538, 1597, 1650, 1683, 1706, 1729]) 171 am_my_298 (by decide +kernel) rfl
theorem ly_s20 {ls : List (Option Value)} {st : List Value} {h : am_H} : am_ev 298 33 ls (.int 20 :: st) h = am_ev 298 1023 ls st h := am_ev_step (q := (1023, ls, st, h)) _ (.tableswitch (1752) (0) (38) #[171, 234, 257, 290, 313, 346, 389, 422, 475, 508, 551, 621, 670, 729, 762, 795, 838, 881, 914, 947, 990, 1044, 1097, 1146, 1215, 1238, 1271, 1314, 1357, 1400, 1433, 1482, 1515, 1538, 1597, 1650, 1683, 1706, 1729]) 171 am_my_298 (by decide +kernel) rfl
theorem ly_s21 {ls : List (Option Value)} {st : List Value} {h : am_H} : am_ev 298 33 ls (.int 21 :: st) h = am_ev 298 1077 ls st h := am_ev_step (q := (1077, ls, st, h)) _ (.tableswitch (1752) (0) (38) #[171, 234, 257, 290, 313, 346, 389, 422, 475, 508, 551, 621, 670, 729, 762, 795, 838, 881, 914, 947, 990, 1044, 1097, 1146, 1215, 1238, 1271, 1314, 1357, 1400, 1433, 1482, 1515, 1538, 1597, 1650, 1683, 1706, 1729]) 171 am_my_298 (by decide +kernel) rfl
theorem ly_s22 {ls : List (Option Value)} {st : List Value} {h : am_H} : am_ev 298 33 ls (.int 22 :: st) h = am_ev 298 1130 ls st h := am_ev_step (q := (1130, ls, st, h)) _ (.tableswitch (1752) (0) (38) #[171, 234, 257, 290, 313, 346, 389, 422, 475, 508, 551, 621, 670, 729, 762, 795, 838, 881, 914, 947, 990, 1044, 1097, 1146, 1215, 1238, 1271, 1314, 1357, 1400, 1433, 1482, 1515, 1538, 1597, 1650, 1683, 1706, 1729]) 171 am_my_298 (by decide +kernel) rfl
theorem ly_s23 {ls : List (Option Value)} {st : List Value} {h : am_H} : am_ev 298 33 ls (.int 23 :: st) h = am_ev 298 1179 ls st h := am_ev_step (q := (1179, ls, st, h)) _ (.tableswitch (1752) (0) (38) #[171, 234, 257, 290, 313, 346, 389, 422, 475, 508, 551, 621, 670, 729, 762, 795, 838, 881, 914, 947, 990, 1044, 1097, 1146, 1215, 1238, 1271, 1314, 1357, 1400, 1433, 1482, 1515, 1538, 1597, 1650, 1683, 1706, 1729]) 171 am_my_298 (by decide +kernel) rfl
theorem ly_s24 {ls : List (Option Value)} {st : List Value} {h : am_H} : am_ev 298 33 ls (.int 24 :: st) h = am_ev 298 1248 ls st h := am_ev_step (q := (1248, ls, st, h)) _ (.tableswitch (1752) (0) (38) #[171, 234, 257, 290, 313, 346, 389, 422, 475, 508, 551, 621, 670, 729, 762, 795, 838, 881, 914, 947, 990, 1044, 1097, 1146, 1215, 1238, 1271, 1314, 1357, 1400, 1433, 1482, 1515, 1538, 1597, 1650, 1683, 1706, 1729]) 171 am_my_298 (by decide +kernel) rfl
theorem ly_s25 {ls : List (Option Value)} {st : List Value} {h : am_H} : am_ev 298 33 ls (.int 25 :: st) h = am_ev 298 1271 ls st h := am_ev_step (q := (1271, ls, st, h)) _ (.tableswitch (1752) (0) (38) #[171, 234, 257, 290, 313, 346, 389, 422, 475, 508, 551, 621, 670, 729, 762, 795, 838, 881, 914, 947, 990, 1044, 1097, 1146, 1215, 1238, 1271, 1314, 1357, 1400, 1433, 1482, 1515, 1538, 1597, 1650, 1683, 1706, 1729]) 171 am_my_298 (by decide +kernel) rfl
theorem ly_s26 {ls : List (Option Value)} {st : List Value} {h : am_H} : am_ev 298 33 ls (.int 26 :: st) h = am_ev 298 1304 ls st h := am_ev_step (q := (1304, ls, st, h)) _ (.tableswitch (1752) (0) (38) #[171, 234, 257, 290, 313, 346, 389, 422, 475, 508, 551, 621, 670, 729, 762, 795, 838, 881, 914, 947, 990, 1044, 1097, 1146, 1215, 1238, 1271, 1314, 1357, 1400, 1433, 1482, 1515, 1538, 1597, 1650, 1683, 1706, 1729]) 171 am_my_298 (by decide +kernel) rfl
theorem ly_s27 {ls : List (Option Value)} {st : List Value} {h : am_H} : am_ev 298 33 ls (.int 27 :: st) h = am_ev 298 1347 ls st h := am_ev_step (q := (1347, ls, st, h)) _ (.tableswitch (1752) (0) (38) #[171, 234, 257, 290, 313, 346, 389, 422, 475, 508, 551, 621, 670, 729, 762, 795, 838, 881, 914, 947, 990, 1044, 1097, 1146, 1215, 1238, 1271, 1314, 1357, 1400, 1433, 1482, 1515, 1538, 1597, 1650, 1683, 1706, 1729]) 171 am_my_298 (by decide +kernel) rfl
theorem ly_s28 {ls : List (Option Value)} {st : List Value} {h : am_H} : am_ev 298 33 ls (.int 28 :: st) h = am_ev 298 1390 ls st h := am_ev_step (q := (1390, ls, st, h)) _ (.tableswitch (1752) (0) (38) #[171, 234, 257, 290, 313, 346, 389, 422, 475, 508, 551, 621, 670, 729, 762, 795, 838, 881, 914, 947, 990, 1044, 1097, 1146, 1215, 1238, 1271, 1314, 1357, 1400, 1433, 1482, 1515, 1538, 1597, 1650, 1683, 1706, 1729]) 171 am_my_298 (by decide +kernel) rfl
theorem ly_s29 {ls : List (Option Value)} {st : List Value} {h : am_H} : am_ev 298 33 ls (.int 29 :: st) h = am_ev 298 1433 ls st h := am_ev_step (q := (1433, ls, st, h)) _ (.tableswitch (1752) (0) (38) #[171, 234, 257, 290, 313, 346, 389, 422, 475, 508, 551, 621, 670, 729, 762, 795, 838, 881, 914, 947, 990, 1044, 1097, 1146, 1215, 1238, 1271, 1314, 1357, 1400, 1433, 1482, 1515, 1538, 1597, 1650, 1683, 1706, 1729]) 171 am_my_298 (by decide +kernel) rfl
theorem ly_s30 {ls : List (Option Value)} {st : List Value} {h : am_H} : am_ev 298 33 ls (.int 30 :: st) h = am_ev 298 1466 ls st h := am_ev_step (q := (1466, ls, st, h)) _ (.tableswitch (1752) (0) (38) #[171, 234, 257, 290, 313, 346, 389, 422, 475, 508, 551, 621, 670, 729, 762, 795, 838, 881, 914, 947, 990, 1044, 1097, 1146, 1215, 1238, 1271, 1314, 1357, 1400, 1433, 1482, 1515, 1538, 1597, 1650, 1683, 1706, 1729]) 171 am_my_298 (by decide +kernel) rfl
theorem ly_s31 {ls : List (Option Value)} {st : List Value} {h : am_H} : am_ev 298 33 ls (.int 31 :: st) h = am_ev 298 1515 ls st h := am_ev_step (q := (1515, ls, st, h)) _ (.tableswitch (1752) (0) (38) #[171, 234, 257, 290, 313, 346, 389, 422, 475, 508, 551, 621, 670, 729, 762, 795, 838, 881, 914, 947, 990, 1044, 1097, 1146, 1215, 1238, 1271, 1314, 1357, 1400, 1433, 1482, 1515, 1538, 1597, 1650, 1683, 1706, 1729]) 171 am_my_298 (by decide +kernel) rfl
theorem ly_s32 {ls : List (Option Value)} {st : List Value} {h : am_H} : am_ev 298 33 ls (.int 32 :: st) h = am_ev 298 1548 ls st h := am_ev_step (q := (1548, ls, st, h)) _ (.tableswitch (1752) (0) (38) #[171, 234, 257, 290, 313, 346, 389, 422, 475, 508, 551, 621, 670, 729, 762, 795, 838, 881, 914, 947, 990, 1044, 1097, 1146, 1215, 1238, 1271, 1314, 1357, 1400, 1433, 1482, 1515, 1538, 1597, 1650, 1683, 1706, 1729]) 171 am_my_298 (by decide +kernel) rfl
theorem ly_s33 {ls : List (Option Value)} {st : List Value} {h : am_H} : am_ev 298 33 ls (.int 33 :: st) h = am_ev 298 1571 ls st h := am_ev_step (q := (1571, ls, st, h)) _ (.tableswitch (1752) (0) (38) #[171, 234, 257, 290, 313, 346, 389, 422, 475, 508, 551, 621, 670, 729, 762, 795, 838, 881, 914, 947, 990, 1044, 1097, 1146, 1215, 1238, 1271, 1314, 1357, 1400, 1433, 1482, 1515, 1538, 1597, 1650, 1683, 1706, 1729]) 171 am_my_298 (by decide +kernel) rfl
theorem ly_s34 {ls : List (Option Value)} {st : List Value} {h : am_H} : am_ev 298 33 ls (.int 34 :: st) h = am_ev 298 1630 ls st h := am_ev_step (q := (1630, ls, st, h)) _ (.tableswitch (1752) (0) (38) #[171, 234, 257, 290, 313, 346, 389, 422, 475, 508, 551, 621, 670, 729, 762, 795, 838, 881, 914, 947, 990, 1044, 1097, 1146, 1215, 1238, 1271, 1314, 1357, 1400, 1433, 1482, 1515, 1538, 1597, 1650, 1683, 1706, 1729]) 171 am_my_298 (by decide +kernel) rfl
theorem ly_s35 {ls : List (Option Value)} {st : List Value} {h : am_H} : am_ev 298 33 ls (.int 35 :: st) h = am_ev 298 1683 ls st h := am_ev_step (q := (1683, ls, st, h)) _ (.tableswitch (1752) (0) (38) #[171, 234, 257, 290, 313, 346, 389, 422, 475, 508, 551, 621, 670, 729, 762, 795, 838, 881, 914, 947, 990, 1044, 1097, 1146, 1215, 1238, 1271, 1314, 1357, 1400, 1433, 1482, 1515, 1538, 1597, 1650, 1683, 1706, 1729]) 171 am_my_298 (by decide +kernel) rfl
theorem ly_s36 {ls : List (Option Value)} {st : List Value} {h : am_H} : am_ev 298 33 ls (.int 36 :: st) h = am_ev 298 1716 ls st h := am_ev_step (q := (1716, ls, st, h)) _ (.tableswitch (1752) (0) (38) #[171, 234, 257, 290, 313, 346, 389, 422, 475, 508, 551, 621, 670, 729, 762, 795, 838, 881, 914, 947, 990, 1044, 1097, 1146, 1215, 1238, 1271, 1314, 1357, 1400, 1433, 1482, 1515, 1538, 1597, 1650, 1683, 1706, 1729]) 171 am_my_298 (by decide +kernel) rfl
theorem ly_s37 {ls : List (Option Value)} {st : List Value} {h : am_H} : am_ev 298 33 ls (.int 37 :: st) h = am_ev 298 1739 ls st h := am_ev_step (q := (1739, ls, st, h)) _ (.tableswitch (1752) (0) (38) #[171, 234, 257, 290, 313, 346, 389, 422, 475, 508, 551, 621, 670, 729, 762, 795, 838, 881, 914, 947, 990, 1044, 1097, 1146, 1215, 1238, 1271, 1314, 1357, 1400, 1433, 1482, 1515, 1538, 1597, 1650, 1683, 1706, 1729]) 171 am_my_298 (by decide +kernel) rfl
theorem ly_s38 {ls : List (Option Value)} {st : List Value} {h : am_H} : am_ev 298 33 ls (.int 38 :: st) h = am_ev 298 1762 ls st h := am_ev_step (q := (1762, ls, st, h)) _ (.tableswitch (1752) (0) (38) #[171, 234, 257, 290, 313, 346, 389, 422, 475, 508, 551, 621, 670, 729, 762, 795, 838, 881, 914, 947, 990, 1044, 1097, 1146, 1215, 1238, 1271, 1314, 1357, 1400, 1433, 1482, 1515, 1538, 1597, 1650, 1683, 1706, 1729]) 171 am_my_298 (by decide +kernel) rfl
theorem ly_s39 {ls : List (Option Value)} {st : List Value} {h : am_H} : am_ev 298 33 ls (.int 39 :: st) h = am_ev 298 1785 ls st h := am_ev_step (q := (1785, ls, st, h)) _ (.tableswitch (1752) (0) (38) #[171, 234, 257, 290, 313, 346, 389, 422, 475, 508, 551, 621, 670, 729, 762, 795, 838, 881, 914, 947, 990, 1044, 1097, 1146, 1215, 1238, 1271, 1314, 1357, 1400, 1433, 1482, 1515, 1538, 1597, 1650, 1683, 1706, 1729]) 171 am_my_298 (by decide +kernel) rfl
theorem ly_s40 {ls : List (Option Value)} {st : List Value} {h : am_H} : am_ev 298 33 ls (.int 40 :: st) h = am_ev 298 1785 ls st h := am_ev_step (q := (1785, ls, st, h)) _ (.tableswitch (1752) (0) (38) #[171, 234, 257, 290, 313, 346, 389, 422, 475, 508, 551, 621, 670, 729, 762, 795, 838, 881, 914, 947, 990, 1044, 1097, 1146, 1215, 1238, 1271, 1314, 1357, 1400, 1433, 1482, 1515, 1538, 1597, 1650, 1683, 1706, 1729]) 171 am_my_298 (by decide +kernel) rfl
theorem ly_s41 {ls : List (Option Value)} {st : List Value} {h : am_H} : am_ev 298 33 ls (.int 41 :: st) h = am_ev 298 1785 ls st h := am_ev_step (q := (1785, ls, st, h)) _ (.tableswitch (1752) (0) (38) #[171, 234, 257, 290, 313, 346, 389, 422, 475, 508, 551, 621, 670, 729, 762, 795, 838, 881, 914, 947, 990, 1044, 1097, 1146, 1215, 1238, 1271, 1314, 1357, 1400, 1433, 1482, 1515, 1538, 1597, 1650, 1683, 1706, 1729]) 171 am_my_298 (by decide +kernel) rfl
theorem ly_s42 {ls : List (Option Value)} {st : List Value} {h : am_H} : am_ev 298 33 ls (.int 42 :: st) h = am_ev 298 1785 ls st h := am_ev_step (q := (1785, ls, st, h)) _ (.tableswitch (1752) (0) (38) #[171, 234, 257, 290, 313, 346, 389, 422, 475, 508, 551, 621, 670, 729, 762, 795, 838, 881, 914, 947, 990, 1044, 1097, 1146, 1215, 1238, 1271, 1314, 1357, 1400, 1433, 1482, 1515, 1538, 1597, 1650, 1683, 1706, 1729]) 171 am_my_298 (by decide +kernel) rfl
theorem ly_s43 {ls : List (Option Value)} {st : List Value} {h : am_H} : am_ev 298 33 ls (.int 43 :: st) h = am_ev 298 1785 ls st h := am_ev_step (q := (1785, ls, st, h)) _ (.tableswitch (1752) (0) (38) #[171, 234, 257, 290, 313, 346, 389, 422, 475, 508, 551, 621, 670, 729, 762, 795, 838, 881, 914, 947, 990, 1044, 1097, 1146, 1215, 1238, 1271, 1314, 1357, 1400, 1433, 1482, 1515, 1538, 1597, 1650, 1683, 1706, 1729]) 171 am_my_298 (by decide +kernel) rfl
theorem ly_s44 {ls : List (Option Value)} {st : List Value} {h : am_H} : am_ev 298 33 ls (.int 44 :: st) h = am_ev 298 1785 ls st h := am_ev_step (q := (1785, ls, st, h)) _ (.tableswitch (1752) (0) (38) #[171, 234, 257, 290, 313, 346, 389, 422, 475, 508, 551, 621, 670, 729, 762, 795, 838, 881, 914, 947, 990, 1044, 1097, 1146, 1215, 1238, 1271, 1314, 1357, 1400, 1433, 1482, 1515, 1538, 1597, 1650, 1683, 1706, 1729]) 171 am_my_298 (by decide +kernel) rfl
theorem ly_s45 {ls : List (Option Value)} {st : List Value} {h : am_H} : am_ev 298 33 ls (.int 45 :: st) h = am_ev 298 1785 ls st h := am_ev_step (q := (1785, ls, st, h)) _ (.tableswitch (1752) (0) (38) #[171, 234, 257, 290, 313, 346, 389, 422, 475, 508, 551, 621, 670, 729, 762, 795, 838, 881, 914, 947, 990, 1044, 1097, 1146, 1215, 1238, 1271, 1314, 1357, 1400, 1433, 1482, 1515, 1538, 1597, 1650, 1683, 1706, 1729]) 171 am_my_298 (by decide +kernel) rfl
theorem ly_s46 {ls : List (Option Value)} {st : List Value} {h : am_H} : am_ev 298 33 ls (.int 46 :: st) h = am_ev 298 1785 ls st h := am_ev_step (q := (1785, ls, st, h)) _ (.tableswitch (1752) (0) (38) #[171, 234, 257, 290, 313, 346, 389, 422, 475, 508, 551, 621, 670, 729, 762, 795, 838, 881, 914, 947, 990, 1044, 1097, 1146, 1215, 1238, 1271, 1314, 1357, 1400, 1433, 1482, 1515, 1538, 1597, 1650, 1683, 1706, 1729]) 171 am_my_298 (by decide +kernel) rfl
theorem ly_s47 {ls : List (Option Value)} {st : List Value} {h : am_H} : am_ev 298 33 ls (.int 47 :: st) h = am_ev 298 1785 ls st h := am_ev_step (q := (1785, ls, st, h)) _ (.tableswitch (1752) (0) (38) #[171, 234, 257, 290, 313, 346, 389, 422, 475, 508, 551, 621, 670, 729, 762, 795, 838, 881, 914, 947, 990, 1044, 1097, 1146, 1215, 1238, 1271, 1314, 1357, 1400, 1433, 1482, 1515, 1538, 1597, 1650, 1683, 1706, 1729]) 171 am_my_298 (by decide +kernel) rfl
theorem ly_s48 {ls : List (Option Value)} {st : List Value} {h : am_H} : am_ev 298 33 ls (.int 48 :: st) h = am_ev 298 1785 ls st h := am_ev_step (q := (1785, ls, st, h)) _ (.tableswitch (1752) (0) (38) #[171, 234, 257, 290, 313, 346, 389, 422, 475, 508, 551, 621, 670, 729, 762, 795, 838, 881, 914, 947, 990, 1044, 1097, 1146, 1215, 1238, 1271, 1314, 1357, 1400, 1433, 1482, 1515, 1538, 1597, 1650, 1683, 1706, 1729]) 171 am_my_298 (by decide +kernel) rfl
theorem ly_s49 {ls : List (Option Value)} {st : List Value} {h : am_H} : am_ev 298 33 ls (.int 49 :: st) h = am_ev 298 1785 ls st h := am_ev_step (q := (1785, ls, st, h)) _ (.tableswitch (1752) (0) (38) #[171, 234, 257, 290, 313, 346, 389, 422, 475, 508, 551, 621, 670, 729, 762, 795, 838, 881, 914, 947, 990, 1044, 1097, 1146, 1215, 1238, 1271, 1314, 1357, 1400, 1433, 1482, 1515, 1538, 1597, 1650, 1683, 1706, 1729]) 171 am_my_298 (by decide +kernel) rfl
theorem ly_s50 {ls : List (Option Value)} {st : List Value} {h : am_H} : am_ev 298 33 ls (.int 50 :: st) h = am_ev 298 1785 ls st h := am_ev_step (q := (1785, ls, st, h)) _ (.tableswitch (1752) (0) (38) #[171, 234, 257, 290, 313, 346, 389, 422, 475, 508, 551, 621, 670, 729, 762, 795, 838, 881, 914, 947, 990, 1044, 1097, 1146, 1215, 1238, 1271, 1314, 1357, 1400, 1433, 1482, 1515, 1538, 1597, 1650, 1683, 1706, 1729]) 171 am_my_298 (by decide +kernel) rfl
theorem ly_s51 {ls : List (Option Value)} {st : List Value} {h : am_H} : am_ev 298 33 ls (.int 51 :: st) h = am_ev 298 1785 ls st h := am_ev_step (q := (1785, ls, st, h)) _ (.tableswitch (1752) (0) (38) #[171, 234, 257, 290, 313, 346, 389, 422, 475, 508, 551, 621, 670, 729, 762, 795, 838, 881, 914, 947, 990, 1044, 1097, 1146, 1215, 1238, 1271, 1314, 1357, 1400, 1433, 1482, 1515, 1538, 1597, 1650, 1683, 1706, 1729]) 171 am_my_298 (by decide +kernel) rfl
theorem ly_s52 {ls : List (Option Value)} {st : List Value} {h : am_H} : am_ev 298 33 ls (.int 52 :: st) h = am_ev 298 1785 ls st h := am_ev_step (q := (1785, ls, st, h)) _ (.tableswitch (1752) (0) (38) #[171, 234, 257, 290, 313, 346, 389, 422, 475, 508, 551, 621, 670, 729, 762, 795, 838, 881, 914, 947, 990, 1044, 1097, 1146, 1215, 1238, 1271, 1314, 1357, 1400, 1433, 1482, 1515, 1538, 1597, 1650, 1683, 1706, 1729]) 171 am_my_298 (by decide +kernel) rfl
theorem ly_s53 {ls : List (Option Value)} {st : List Value} {h : am_H} : am_ev 298 33 ls (.int 53 :: st) h = am_ev 298 1785 ls st h := am_ev_step (q := (1785, ls, st, h)) _ (.tableswitch (1752) (0) (38) #[171, 234, 257, 290, 313, 346, 389, 422, 475, 508, 551, 621, 670, 729, 762, 795, 838, 881, 914, 947, 990, 1044, 1097, 1146, 1215, 1238, 1271, 1314, 1357, 1400, 1433, 1482, 1515, 1538, 1597, 1650, 1683, 1706, 1729]) 171 am_my_298 (by decide +kernel) rfl
theorem ly_s54 {ls : List (Option Value)} {st : List Value} {h : am_H} : am_ev 298 33 ls (.int 54 :: st) h = am_ev 298 1785 ls st h := am_ev_step (q := (1785, ls, st, h)) _ (.tableswitch (1752) (0) (38) #[171, 234, 257, 290, 313, 346, 389, 422, 475, 508, 551, 621, 670, 729, 762, 795, 838, 881, 914, 947, 990, 1044, 1097, 1146, 1215, 1238, 1271, 1314, 1357, 1400, 1433, 1482, 1515, 1538, 1597, 1650, 1683, 1706, 1729]) 171 am_my_298 (by decide +kernel) rfl
theorem ly_s55 {ls : List (Option Value)} {st : List Value} {h : am_H} : am_ev 298 33 ls (.int 55 :: st) h = am_ev 298 1785 ls st h := am_ev_step (q := (1785, ls, st, h)) _ (.tableswitch (1752) (0) (38) #[171, 234, 257, 290, 313, 346, 389, 422, 475, 508, 551, 621, 670, 729, 762, 795, 838, 881, 914, 947, 990, 1044, 1097, 1146, 1215, 1238, 1271, 1314, 1357, 1400, 1433, 1482, 1515, 1538, 1597, 1650, 1683, 1706, 1729]) 171 am_my_298 (by decide +kernel) rfl
theorem ly_s56 {ls : List (Option Value)} {st : List Value} {h : am_H} : am_ev 298 33 ls (.int 56 :: st) h = am_ev 298 1785 ls st h := am_ev_step (q := (1785, ls, st, h)) _ (.tableswitch (1752) (0) (38) #[171, 234, 257, 290, 313, 346, 389, 422, 475, 508, 551, 621, 670, 729, 762, 795, 838, 881, 914, 947, 990, 1044, 1097, 1146, 1215, 1238, 1271, 1314, 1357, 1400, 1433, 1482, 1515, 1538, 1597, 1650, 1683, 1706, 1729]) 171 am_my_298 (by decide +kernel) rfl
theorem ly_s57 {ls : List (Option Value)} {st : List Value} {h : am_H} : am_ev 298 33 ls (.int 57 :: st) h = am_ev 298 1785 ls st h := am_ev_step (q := (1785, ls, st, h)) _ (.tableswitch (1752) (0) (38) #[171, 234, 257, 290, 313, 346, 389, 422, 475, 508, 551, 621, 670, 729, 762, 795, 838, 881, 914, 947, 990, 1044, 1097, 1146, 1215, 1238, 1271, 1314, 1357, 1400, 1433, 1482, 1515, 1538, 1597, 1650, 1683, 1706, 1729]) 171 am_my_298 (by decide +kernel) rfl
theorem ly_s58 {ls : List (Option Value)} {st : List Value} {h : am_H} : am_ev 298 33 ls (.int 58 :: st) h = am_ev 298 1785 ls st h := am_ev_step (q := (1785, ls, st, h)) _ (.tableswitch (1752) (0) (38) #[171, 234, 257, 290, 313, 346, 389, 422, 475, 508, 551, 621, 670, 729, 762, 795, 838, 881, 914, 947, 990, 1044, 1097, 1146, 1215, 1238, 1271, 1314, 1357, 1400, 1433, 1482, 1515, 1538, 1597, 1650, 1683, 1706, 1729]) 171 am_my_298 (by decide +kernel) rfl
theorem ly_s59 {ls : List (Option Value)} {st : List Value} {h : am_H} : am_ev 298 33 ls (.int 59 :: st) h = am_ev 298 1785 ls st h := am_ev_step (q := (1785, ls, st, h)) _ (.tableswitch (1752) (0) (38) #[171, 234, 257, 290, 313, 346, 389, 422, 475, 508, 551, 621, 670, 729, 762, 795, 838, 881, 914, 947, 990, 1044, 1097, 1146, 1215, 1238, 1271, 1314, 1357, 1400, 1433, 1482, 1515, 1538, 1597, 1650, 1683, 1706, 1729]) 171 am_my_298 (by decide +kernel) rfl
theorem ly_s60 {ls : List (Option Value)} {st : List Value} {h : am_H} : am_ev 298 33 ls (.int 60 :: st) h = am_ev 298 1785 ls st h := am_ev_step (q := (1785, ls, st, h)) _ (.tableswitch (1752) (0) (38) #[171, 234, 257, 290, 313, 346, 389, 422, 475, 508, 551, 621, 670, 729, 762, 795, 838, 881, 914, 947, 990, 1044, 1097, 1146, 1215, 1238, 1271, 1314, 1357, 1400, 1433, 1482, 1515, 1538, 1597, 1650, 1683, 1706, 1729]) 171 am_my_298 (by decide +kernel) rfl
theorem ly_s61 {ls : List (Option Value)} {st : List Value} {h : am_H} : am_ev 298 33 ls (.int 61 :: st) h = am_ev 298 1785 ls st h := am_ev_step (q := (1785, ls, st, h)) _ (.tableswitch (1752) (0) (38) #[171, 234, 257, 290, 313, 346, 389, 422, 475, 508, 551, 621, 670, 729, 762, 795, 838, 881, 914, 947, 990, 1044, 1097, 1146, 1215, 1238, 1271, 1314, 1357, 1400, 1433, 1482, 1515, 1538, 1597, 1650, 1683, 1706, 1729]) 171 am_my_298 (by decide +kernel) rfl
theorem ly_s62 {ls : List (Option Value)} {st : List Value} {h : am_H} : am_ev 298 33 ls (.int 62 :: st) h = am_ev 298 1785 ls st h := am_ev_step (q := (1785, ls, st, h)) _ (.tableswitch (1752) (0) (38) #[171, 234, 257, 290, 313, 346, 389, 422, 475, 508, 551, 621, 670, 729, 762, 795, 838, 881, 914, 947, 990, 1044, 1097, 1146, 1215, 1238, 1271, 1314, 1357, 1400, 1433, 1482, 1515, 1538, 1597, 1650, 1683, 1706, 1729]) 171 am_my_298 (by decide +kernel) rfl
theorem ly_s63 {ls : List (Option Value)} {st : List Value} {h : am_H} : am_ev 298 33 ls (.int 63 :: st) h = am_ev 298 1785 ls st h := am_ev_step (q := (1785, ls, st, h)) _ (.tableswitch (1752) (0) (38) #[171, 234, 257, 290, 313, 346, 389, 422, 475, 508, 551, 621, 670, 729, 762, 795, 838, 881, 914, 947, 990, 1044, 1097, 1146, 1215, 1238, 1271, 1314, 1357, 1400, 1433, 1482, 1515, 1538, 1597, 1650, 1683, 1706, 1729]) 171 am_my_298 (by decide +kernel) rfl
def ly_p0 : Prop := (∀ a b c d e : Int32, am_prI 12 165 [.int a, .int b, .int c, .int d, .int e])
def ly_p1 : Prop := (∀ a : Int32, am_prI 14 167 [.int a])
def ly_p2 : Prop := (∀ a b : Int32, am_prI 15 169 [.int a, .int b])
def ly_p3 : Prop := (∀ a : Int32, am_prI 60 199 [.int a])
def ly_p4 : Prop := (∀ a b : Int32, am_prI 65 200 [.int a, .int b])
def ly_p5 : Prop := (∀ a b c : Int32, am_prI 111 204 [.int a, .int b, .int c])
def ly_p6 : Prop := (∀ a b : Int32, am_prI 113 208 [.int a, .int b])
def ly_p7 : Prop := (∀ a b c d : Int32, am_prI 116 224 [.int a, .int b, .int c, .int d])
def ly_p8 : Prop := (∀ a b : Int32, am_prI 70 227 [.int a, .int b])
def ly_p9 : Prop := (∀ a b c : Int32, am_prI 82 228 [.int a, .int b, .int c])
def ly_p10 : Prop := (∀ a b c d : Int32, d = 0 ∨ d = 1 → am_prL 91 234 [.int a, .int b, .int c, .int d])
def ly_p11 : Prop := (∀ a b : Int32, b = 0 ∨ b = 1 → am_prI 93 237 [.int a, .int b])
def ly_p12 : Prop := (∀ a b c : Int32, c = 0 ∨ c = 1 → am_prI 97 239 [.int a, .int b, .int c])
def ly_p13 : Prop := (∀ a b : Int32, am_prI 126 243 [.int a, .int b])
def ly_p14 : Prop := (∀ a b : Int32, am_prI 128 246 [.int a, .int b])
def ly_p15 : Prop := (∀ a b c : Int32, am_prI 138 252 [.int a, .int b, .int c])
def ly_p16 : Prop := (∀ a b c : Int32, am_prI 144 256 [.int a, .int b, .int c])
def ly_p17 : Prop := (∀ a b : Int32, am_prI 146 260 [.int a, .int b])
def ly_p18 : Prop := (∀ a b : Int32, am_prI 154 265 [.int a, .int b])
def ly_p19 : Prop := (∀ a b c : Int32, am_prI 157 267 [.int a, .int b, .int c])
def ly_p20 : Prop := (∀ a b c d : Int32, am_prL 162 271 [.int a, .int b, .int c, .int d])
def ly_p21 : Prop := (∀ a b c d : Int32, am_prI 124 273 [.int a, .int b, .int c, .int d])
def ly_p22 : Prop := (∀ a b : Int32, b = 0 ∨ b = 1 → am_prI 99 275 [.int a, .int b])
def ly_p23 : Prop := (∀ a b c d : Int32, d = 0 ∨ d = 1 → am_prI 101 276 [.int a, .int b, .int c, .int d])
def ly_p24 : Prop := (∀ a : Int32, am_prI 102 277 [.int a])
def ly_p25 : Prop := (∀ a b : Int32, am_prI 103 278 [.int a, .int b])
def ly_p26 : Prop := (∀ a b c : Int32, am_prI 105 279 [.int a, .int b, .int c])
def ly_p27 : Prop := (∀ a b c : Int32, am_prI 120 284 [.int a, .int b, .int c])
def ly_p28 : Prop := (∀ a b c : Int32, am_prI 121 285 [.int a, .int b, .int c])
def ly_p29 : Prop := (∀ a b : Int32, am_prI 123 286 [.int a, .int b])
def ly_p30 : Prop := (∀ a b : Int32, b = 0 ∨ b = 1 → am_prI 110 287 [.int a, .int b])
def ly_p31 : Prop := (∀ a b : Int32, am_prI 136 288 [.int a, .int b])
def ly_p32 : Prop := (∀ a : Int32, am_prI 137 289 [.int a])
def ly_p33 : Prop := (∀ a b c : Int32, c = 0 ∨ c = 1 → am_prI 143 290 [.int a, .int b, .int c])
def ly_p34 : Prop := (∀ a b c d : Int32, am_prI 156 291 [.int a, .int b, .int c, .int d])
def ly_p35 : Prop := (∀ a b : Int32, am_prI 161 292 [.int a, .int b])
def ly_p36 : Prop := (∀ a : Int32, am_prI 61 293 [.int a])
def ly_p37 : Prop := (∀ a : Int32, am_prI 62 294 [.int a])
def ly_p38 : Prop := (∀ a : Int32, am_prI 64 297 [.int a])
def ly_pairs : Prop := ly_p0 ∧ ly_p1 ∧ ly_p2 ∧ ly_p3 ∧ ly_p4 ∧ ly_p5 ∧ ly_p6 ∧ ly_p7 ∧ ly_p8 ∧ ly_p9 ∧ ly_p10 ∧ ly_p11 ∧ ly_p12 ∧ ly_p13 ∧ ly_p14 ∧ ly_p15 ∧ ly_p16 ∧ ly_p17 ∧ ly_p18 ∧ ly_p19 ∧ ly_p20 ∧ ly_p21 ∧ ly_p22 ∧ ly_p23 ∧ ly_p24 ∧ ly_p25 ∧ ly_p26 ∧ ly_p27 ∧ ly_p28 ∧ ly_p29 ∧ ly_p30 ∧ ly_p31 ∧ ly_p32 ∧ ly_p33 ∧ ly_p34 ∧ ly_p35 ∧ ly_p36 ∧ ly_p37 ∧ ly_p38
theorem ly_and (x : Int32) : ∃ n : Nat, n < 64 ∧ x &&& 63 = nI n := by
  refine ⟨(x &&& 63).toBitVec.toNat, ?_, ?_⟩
  · show (x.toBitVec &&& (63 : Int32).toBitVec).toNat < 64
    rw [BitVec.toNat_and]
    exact Nat.lt_of_le_of_lt Nat.and_le_right (by decide)
  · apply Int32.toBitVec_inj.mp
    show _ = BitVec.ofNat 32 _
    rw [BitVec.ofNat_toNat, BitVec.setWidth_eq]
theorem ly_bool (x : Int32) : (if x = 0 then (0 : Int32) else 1) = 0 ∨ (if x = 0 then (0 : Int32) else 1) = 1 := by
  split
  · exact Or.inl rfl
  · exact Or.inr rfl
/-- one round of the loop -/
theorem ly_one (P : ly_pairs) {h : am_H} {i L : Nat} {xs : Nat → Int32} (R : am_Rel h) (hx : h.2.2.2.2 = (L + 1, xs)) (hi : i + 6 ≤ L) (hL : L ≤ 3072) : ∃ h2 : am_H, am_Rel h2 ∧ h2.2.2.2.2 = (L + 1, xs) ∧ am_ev 298 27 (ly_ls i) [] h = am_ev 298 18 (ly_ls (i + 6)) [] h2 := by
  have ok : am_okH h := R.choose_spec.1
  obtain ⟨p0, p1, p2, p3, p4, p5, p6, p7, p8, p9, p10, p11, p12, p13, p14, p15, p16, p17, p18, p19, p20, p21, p22, p23, p24, p25, p26, p27, p28, p29, p30, p31, p32, p33, p34, p35, p36, p37, p38⟩ := P
  have x0 : am_ix (nI i) L = true := am_ix_nI (by omega) (by omega)
  have c0 : (nI i).toNatClampNeg = i := nI_clamp (by omega)
  have e0 : am_ev 298 27 (ly_ls i) [] h = am_ev 298 33 (ly_ls i) [.int (xs i &&& 63)] h := by
    unfold ly_ls
    simp only [e298_27, e298_28, e298_29, e298_30, e298_32, okT_CB ok, hx, Nat.add_sub_cancel, Nat.le_add_left, x0, c0]
  obtain ⟨n, hn, en⟩ := ly_and (xs i)
  rw [e0, en]
  have a6 : nI i + 6 = nI (i + 6) := nI_add i 6
  have df : am_ev 298 1785 (ly_ls i) [] h = am_ev 298 18 (ly_ls (i + 6)) [] h := by
    unfold ly_ls
    simp only [e298_1785, e298_1788, a6]
  have hd : n = 0 ∨ n = 1 ∨ n = 2 ∨ n = 3 ∨ n = 4 ∨ n = 5 ∨ n = 6 ∨ n = 7 ∨ n = 8 ∨ n = 9 ∨ n = 10 ∨ n = 11 ∨ n = 12 ∨ n = 13 ∨ n = 14 ∨ n = 15 ∨ n = 16 ∨ n = 17 ∨ n = 18 ∨ n = 19 ∨ n = 20 ∨ n = 21 ∨ n = 22 ∨ n = 23 ∨ n = 24 ∨ n = 25 ∨ n = 26 ∨ n = 27 ∨ n = 28 ∨ n = 29 ∨ n = 30 ∨ n = 31 ∨ n = 32 ∨ n = 33 ∨ n = 34 ∨ n = 35 ∨ n = 36 ∨ n = 37 ∨ n = 38 ∨ n = 39 ∨ n = 40 ∨ n = 41 ∨ n = 42 ∨ n = 43 ∨ n = 44 ∨ n = 45 ∨ n = 46 ∨ n = 47 ∨ n = 48 ∨ n = 49 ∨ n = 50 ∨ n = 51 ∨ n = 52 ∨ n = 53 ∨ n = 54 ∨ n = 55 ∨ n = 56 ∨ n = 57 ∨ n = 58 ∨ n = 59 ∨ n = 60 ∨ n = 61 ∨ n = 62 ∨ n = 63 := by omega
  rcases hd with rfl | rfl | rfl | rfl | rfl | rfl | rfl | rfl | rfl | rfl | rfl | rfl | rfl | rfl | rfl | rfl | rfl | rfl | rfl | rfl | rfl | rfl | rfl | rfl | rfl | rfl | rfl | rfl | rfl | rfl | rfl | rfl | rfl | rfl | rfl | rfl | rfl | rfl | rfl | rfl | rfl | rfl | rfl | rfl | rfl | rfl | rfl | rfl | rfl | rfl | rfl | rfl | rfl | rfl | rfl | rfl | rfl | rfl | rfl | rfl | rfl | rfl | rfl | rfl
  · obtain ⟨v, h1, h2, k1, k2, k3, k4, k5, k6⟩ := p0 (xs (i + 1)) (xs (i + 2)) (xs (i + 3)) (xs (i + 4)) (xs (i + 5)) h R
    exact ⟨h2, k5, k6.trans hx, (ly_s0).trans (ly_c0 ok k1 hx (k2.trans hx) hi hL k3 k4)⟩
  · obtain ⟨v, h1, h2, k1, k2, k3, k4, k5, k6⟩ := p1 (xs (i + 1)) h R
    exact ⟨h2, k5, k6.trans hx, (ly_s1).trans (ly_c1 ok k1 hx (k2.trans hx) hi hL k3 k4)⟩
  · obtain ⟨v, h1, h2, k1, k2, k3, k4, k5, k6⟩ := p2 (xs (i + 1)) (xs (i + 2)) h R
    exact ⟨h2, k5, k6.trans hx, (ly_s2).trans (ly_c2 ok k1 hx (k2.trans hx) hi hL k3 k4)⟩
  · obtain ⟨v, h1, h2, k1, k2, k3, k4, k5, k6⟩ := p3 (xs (i + 1)) h R
    exact ⟨h2, k5, k6.trans hx, (ly_s3).trans (ly_c3 ok k1 hx (k2.trans hx) hi hL k3 k4)⟩
  · obtain ⟨v, h1, h2, k1, k2, k3, k4, k5, k6⟩ := p4 (xs (i + 1)) (xs (i + 2)) h R
    exact ⟨h2, k5, k6.trans hx, (ly_s4).trans (ly_c4 ok k1 hx (k2.trans hx) hi hL k3 k4)⟩
  · obtain ⟨v, h1, h2, k1, k2, k3, k4, k5, k6⟩ := p5 (xs (i + 1)) (xs (i + 2)) (xs (i + 3)) h R
    exact ⟨h2, k5, k6.trans hx, (ly_s5).trans (ly_c5 ok k1 hx (k2.trans hx) hi hL k3 k4)⟩
  · obtain ⟨v, h1, h2, k1, k2, k3, k4, k5, k6⟩ := p6 (xs (i + 1)) (xs (i + 2)) h R
    exact ⟨h2, k5, k6.trans hx, (ly_s6).trans (ly_c6 ok k1 hx (k2.trans hx) hi hL k3 k4)⟩
  · obtain ⟨v, h1, h2, k1, k2, k3, k4, k5, k6⟩ := p7 (xs (i + 1)) (xs (i + 2)) (xs (i + 3)) (xs (i + 4)) h R
    exact ⟨h2, k5, k6.trans hx, (ly_s7).trans (ly_c7 ok k1 hx (k2.trans hx) hi hL k3 k4)⟩
  · obtain ⟨v, h1, h2, k1, k2, k3, k4, k5, k6⟩ := p8 (xs (i + 1)) (xs (i + 2)) h R
    exact ⟨h2, k5, k6.trans hx, (ly_s8).trans (ly_c8 ok k1 hx (k2.trans hx) hi hL k3 k4)⟩
  · obtain ⟨v, h1, h2, k1, k2, k3, k4, k5, k6⟩ := p9 (xs (i + 1)) (xs (i + 2)) (xs (i + 3)) h R
    exact ⟨h2, k5, k6.trans hx, (ly_s9).trans (ly_c9 ok k1 hx (k2.trans hx) hi hL k3 k4)⟩
  · obtain ⟨v, h1, h2, k1, k2, k3, k4, k5, k6⟩ := p10 (xs (i + 1)) (xs (i + 2)) (xs (i + 3)) (if xs (i + 4) = 0 then 0 else 1) (ly_bool _) h R
    exact ⟨h2, k5, k6.trans hx, (ly_s10).trans (ly_c10 ok k1 hx (k2.trans hx) hi hL k3 k4)⟩
  · obtain ⟨v, h1, h2, k1, k2, k3, k4, k5, k6⟩ := p11 (xs (i + 1)) (if xs (i + 2) = 0 then 0 else 1) (ly_bool _) h R
    exact ⟨h2, k5, k6.trans hx, (ly_s11).trans (ly_c11 ok k1 hx (k2.trans hx) hi hL k3 k4)⟩
  · obtain ⟨v, h1, h2, k1, k2, k3, k4, k5, k6⟩ := p12 (xs (i + 1)) (xs (i + 2)) (if xs (i + 3) = 0 then 0 else 1) (ly_bool _) h R
    exact ⟨h2, k5, k6.trans hx, (ly_s12).trans (ly_c12 ok k1 hx (k2.trans hx) hi hL k3 k4)⟩
  · obtain ⟨v, h1, h2, k1, k2, k3, k4, k5, k6⟩ := p13 (xs (i + 1)) (xs (i + 2)) h R
    exact ⟨h2, k5, k6.trans hx, (ly_s13).trans (ly_c13 ok k1 hx (k2.trans hx) hi hL k3 k4)⟩
  · obtain ⟨v, h1, h2, k1, k2, k3, k4, k5, k6⟩ := p14 (xs (i + 1)) (xs (i + 2)) h R
    exact ⟨h2, k5, k6.trans hx, (ly_s14).trans (ly_c14 ok k1 hx (k2.trans hx) hi hL k3 k4)⟩
  · obtain ⟨v, h1, h2, k1, k2, k3, k4, k5, k6⟩ := p15 (xs (i + 1)) (xs (i + 2)) (xs (i + 3)) h R
    exact ⟨h2, k5, k6.trans hx, (ly_s15).trans (ly_c15 ok k1 hx (k2.trans hx) hi hL k3 k4)⟩
  · obtain ⟨v, h1, h2, k1, k2, k3, k4, k5, k6⟩ := p16 (xs (i + 1)) (xs (i + 2)) (xs (i + 3)) h R
    exact ⟨h2, k5, k6.trans hx, (ly_s16).trans (ly_c16 ok k1 hx (k2.trans hx) hi hL k3 k4)⟩
  · obtain ⟨v, h1, h2, k1, k2, k3, k4, k5, k6⟩ := p17 (xs (i + 1)) (xs (i + 2)) h R
    exact ⟨h2, k5, k6.trans hx, (ly_s17).trans (ly_c17 ok k1 hx (k2.trans hx) hi hL k3 k4)⟩
  · obtain ⟨v, h1, h2, k1, k2, k3, k4, k5, k6⟩ := p18 (xs (i + 1)) (xs (i + 2)) h R
    exact ⟨h2, k5, k6.trans hx, (ly_s18).trans (ly_c18 ok k1 hx (k2.trans hx) hi hL k3 k4)⟩
  · obtain ⟨v, h1, h2, k1, k2, k3, k4, k5, k6⟩ := p19 (xs (i + 1)) (xs (i + 2)) (xs (i + 3)) h R
    exact ⟨h2, k5, k6.trans hx, (ly_s19).trans (ly_c19 ok k1 hx (k2.trans hx) hi hL k3 k4)⟩
  · obtain ⟨v, h1, h2, k1, k2, k3, k4, k5, k6⟩ := p20 (xs (i + 1)) (xs (i + 2)) (xs (i + 3)) (xs (i + 4)) h R
    exact ⟨h2, k5, k6.trans hx, (ly_s20).trans (ly_c20 ok k1 hx (k2.trans hx) hi hL k3 k4)⟩
  · obtain ⟨v, h1, h2, k1, k2, k3, k4, k5, k6⟩ := p21 (xs (i + 1)) (xs (i + 2)) (xs (i + 3)) (xs (i + 4)) h R
    exact ⟨h2, k5, k6.trans hx, (ly_s21).trans (ly_c21 ok k1 hx (k2.trans hx) hi hL k3 k4)⟩
  · obtain ⟨v, h1, h2, k1, k2, k3, k4, k5, k6⟩ := p22 (xs (i + 1)) (if xs (i + 2) = 0 then 0 else 1) (ly_bool _) h R
    exact ⟨h2, k5, k6.trans hx, (ly_s22).trans (ly_c22 ok k1 hx (k2.trans hx) hi hL k3 k4)⟩
  · obtain ⟨v, h1, h2, k1, k2, k3, k4, k5, k6⟩ := p23 (xs (i + 1)) (xs (i + 2)) (xs (i + 3)) (if xs (i + 4) = 0 then 0 else 1) (ly_bool _) h R
    exact ⟨h2, k5, k6.trans hx, (ly_s23).trans (ly_c23 ok k1 hx (k2.trans hx) hi hL k3 k4)⟩
  · obtain ⟨v, h1, h2, k1, k2, k3, k4, k5, k6⟩ := p24 (xs (i + 1)) h R
    exact ⟨h2, k5, k6.trans hx, (ly_s24).trans (ly_c24 ok k1 hx (k2.trans hx) hi hL k3 k4)⟩
  · obtain ⟨v, h1, h2, k1, k2, k3, k4, k5, k6⟩ := p25 (xs (i + 1)) (xs (i + 2)) h R
    exact ⟨h2, k5, k6.trans hx, (ly_s25).trans (ly_c25 ok k1 hx (k2.trans hx) hi hL k3 k4)⟩
  · obtain ⟨v, h1, h2, k1, k2, k3, k4, k5, k6⟩ := p26 (xs (i + 1)) (xs (i + 2)) (xs (i + 3)) h R
    exact ⟨h2, k5, k6.trans hx, (ly_s26).trans (ly_c26 ok k1 hx (k2.trans hx) hi hL k3 k4)⟩
  · obtain ⟨v, h1, h2, k1, k2, k3, k4, k5, k6⟩ := p27 (xs (i + 1)) (xs (i + 2)) (xs (i + 3)) h R
    exact ⟨h2, k5, k6.trans hx, (ly_s27).trans (ly_c27 ok k1 hx (k2.trans hx) hi hL k3 k4)⟩
  · obtain ⟨v, h1, h2, k1, k2, k3, k4, k5, k6⟩ := p28 (xs (i + 1)) (xs (i + 2)) (xs (i + 3)) h R
    exact ⟨h2, k5, k6.trans hx, (ly_s28).trans (ly_c28 ok k1 hx (k2.trans hx) hi hL k3 k4)⟩
  · obtain ⟨v, h1, h2, k1, k2, k3, k4, k5, k6⟩ := p29 (xs (i + 1)) (xs (i + 2)) h R
    exact ⟨h2, k5, k6.trans hx, (ly_s29).trans (ly_c29 ok k1 hx (k2.trans hx) hi hL k3 k4)⟩
  · obtain ⟨v, h1, h2, k1, k2, k3, k4, k5, k6⟩ := p30 (xs (i + 1)) (if xs (i + 2) = 0 then 0 else 1) (ly_bool _) h R
    exact ⟨h2, k5, k6.trans hx, (ly_s30).trans (ly_c30 ok k1 hx (k2.trans hx) hi hL k3 k4)⟩
  · obtain ⟨v, h1, h2, k1, k2, k3, k4, k5, k6⟩ := p31 (xs (i + 1)) (xs (i + 2)) h R
    exact ⟨h2, k5, k6.trans hx, (ly_s31).trans (ly_c31 ok k1 hx (k2.trans hx) hi hL k3 k4)⟩
  · obtain ⟨v, h1, h2, k1, k2, k3, k4, k5, k6⟩ := p32 (xs (i + 1)) h R
    exact ⟨h2, k5, k6.trans hx, (ly_s32).trans (ly_c32 ok k1 hx (k2.trans hx) hi hL k3 k4)⟩
  · obtain ⟨v, h1, h2, k1, k2, k3, k4, k5, k6⟩ := p33 (xs (i + 1)) (xs (i + 2)) (if xs (i + 3) = 0 then 0 else 1) (ly_bool _) h R
    exact ⟨h2, k5, k6.trans hx, (ly_s33).trans (ly_c33 ok k1 hx (k2.trans hx) hi hL k3 k4)⟩
  · obtain ⟨v, h1, h2, k1, k2, k3, k4, k5, k6⟩ := p34 (xs (i + 1)) (xs (i + 2)) (xs (i + 3)) (xs (i + 4)) h R
    exact ⟨h2, k5, k6.trans hx, (ly_s34).trans (ly_c34 ok k1 hx (k2.trans hx) hi hL k3 k4)⟩
  · obtain ⟨v, h1, h2, k1, k2, k3, k4, k5, k6⟩ := p35 (xs (i + 1)) (xs (i + 2)) h R
    exact ⟨h2, k5, k6.trans hx, (ly_s35).trans (ly_c35 ok k1 hx (k2.trans hx) hi hL k3 k4)⟩
  · obtain ⟨v, h1, h2, k1, k2, k3, k4, k5, k6⟩ := p36 (xs (i + 1)) h R
    exact ⟨h2, k5, k6.trans hx, (ly_s36).trans (ly_c36 ok k1 hx (k2.trans hx) hi hL k3 k4)⟩
  · obtain ⟨v, h1, h2, k1, k2, k3, k4, k5, k6⟩ := p37 (xs (i + 1)) h R
    exact ⟨h2, k5, k6.trans hx, (ly_s37).trans (ly_c37 ok k1 hx (k2.trans hx) hi hL k3 k4)⟩
  · obtain ⟨v, h1, h2, k1, k2, k3, k4, k5, k6⟩ := p38 (xs (i + 1)) h R
    exact ⟨h2, k5, k6.trans hx, (ly_s38).trans (ly_c38 ok k1 hx (k2.trans hx) hi hL k3 k4)⟩
  · exact ⟨h, R, hx, (ly_s39).trans df⟩
  · exact ⟨h, R, hx, (ly_s40).trans df⟩
  · exact ⟨h, R, hx, (ly_s41).trans df⟩
  · exact ⟨h, R, hx, (ly_s42).trans df⟩
  · exact ⟨h, R, hx, (ly_s43).trans df⟩
  · exact ⟨h, R, hx, (ly_s44).trans df⟩
  · exact ⟨h, R, hx, (ly_s45).trans df⟩
  · exact ⟨h, R, hx, (ly_s46).trans df⟩
  · exact ⟨h, R, hx, (ly_s47).trans df⟩
  · exact ⟨h, R, hx, (ly_s48).trans df⟩
  · exact ⟨h, R, hx, (ly_s49).trans df⟩
  · exact ⟨h, R, hx, (ly_s50).trans df⟩
  · exact ⟨h, R, hx, (ly_s51).trans df⟩
  · exact ⟨h, R, hx, (ly_s52).trans df⟩
  · exact ⟨h, R, hx, (ly_s53).trans df⟩
  · exact ⟨h, R, hx, (ly_s54).trans df⟩
  · exact ⟨h, R, hx, (ly_s55).trans df⟩
  · exact ⟨h, R, hx, (ly_s56).trans df⟩
  · exact ⟨h, R, hx, (ly_s57).trans df⟩
  · exact ⟨h, R, hx, (ly_s58).trans df⟩
  · exact ⟨h, R, hx, (ly_s59).trans df⟩
  · exact ⟨h, R, hx, (ly_s60).trans df⟩
  · exact ⟨h, R, hx, (ly_s61).trans df⟩
  · exact ⟨h, R, hx, (ly_s62).trans df⟩
  · exact ⟨h, R, hx, (ly_s63).trans df⟩
theorem ly_head {h : am_H} {i L : Nat} {xs : Nat → Int32} (ok : am_okH h) (hx : h.2.2.2.2 = (L + 1, xs)) (hi : i ≤ 3072) (hL : L ≤ 3072) : am_ev 298 18 (ly_ls i) [] h = if i + 6 ≤ L then am_ev 298 27 (ly_ls i) [] h else some (some (.int 1), h) := by
  have e1 : (Int32.ofNat L - 6 < nI i) ↔ ¬ i + 6 ≤ L := by
    have q1 : Int32.ofNat L = iI (L : Int) := rfl
    have q2 : (6 : Int32) = iI 6 := by decide
    have q3 : nI i = iI (i : Int) := rfl
    rw [q1, q2, q3, iI_sub, iI_lt (by omega) (by omega) (by omega) (by omega)]
    omega
  unfold ly_ls
  by_cases c : i + 6 ≤ L
  · have c2 : ¬ (Int32.ofNat L - 6 < nI i) := fun q => (e1.mp q) c
    simp only [e298_18, e298_19, e298_20, e298_21, e298_23, e298_24, okT_CB ok, hx, Nat.add_sub_cancel, Nat.le_add_left, c2, c, if_true, if_false]
  · have c2 : Int32.ofNat L - 6 < nI i := e1.mpr c
    simp only [e298_18, e298_19, e298_20, e298_21, e298_23, e298_24, e298_1791, e298_1792, okT_CB ok, hx, Nat.add_sub_cancel, Nat.le_add_left, c2, c, if_true, if_false, eq_self, or_true]
theorem ly_loop (P : ly_pairs) {L : Nat} {xs : Nat → Int32} (hL : L ≤ 3072) : ∀ (r i : Nat) (h : am_H), am_Rel h → h.2.2.2.2 = (L + 1, xs) → i ≤ 3072 → L < i + 6 * r + 6 → ∃ h' : am_H, am_Rel h' ∧ am_ev 298 18 (ly_ls i) [] h = some (some (.int 1), h') := by
  intro r
  induction r with
  | zero =>
    intro i h R hx hi hr
    refine ⟨h, R, ?_⟩
    rw [ly_head R.choose_spec.1 hx hi hL, if_neg (by omega)]
  | succ r ih =>
    intro i h R hx hi hr
    by_cases c : i + 6 ≤ L
    · obtain ⟨h2, R2, hx2, e2⟩ := ly_one P R hx c hL
      obtain ⟨h', R', e'⟩ := ih (i + 6) h2 R2 hx2 (by omega) (by omega)
      exact ⟨h', R', by rw [ly_head R.choose_spec.1 hx hi hL, if_pos c, e2, e']⟩
    · exact ⟨h, R, by rw [ly_head R.choose_spec.1 hx hi hL, if_neg c]⟩
/-- the whole, from the pairs -/
theorem ly_goal (P : ly_pairs) {L : Nat} {xs : Nat → Int32} (hL : L ≤ 3072) : am_goal L xs := by
  intro h hc hx
  obtain ⟨h', R', e'⟩ := ly_loop P hL 512 0 h (am_Rel_0 hc) hx (by omega) (by omega)
  obtain ⟨n, hn⟩ := am_ev_iff.mp e'
  obtain ⟨z1, z2⟩ := am_KA_nz R'.choose_spec.1.1
  exact ⟨n, h', hn, by omega, by omega⟩
