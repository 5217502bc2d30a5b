theorem ad6 (i : Nat) : nI i + (6 : Int32) = nI (i + 6) := nI_add i 6
theorem cmp_0 (x : Int64) : lg_cmp x x = 0 := by
  unfold lg_cmp
  simp
section LW
variable {xs : Nat → Int32} {L C i : Nat} {c : CM} {s : MM}
def Nx (xs : Nat → Int32) (L C i : Nat) (c : CM) (s : MM) : Prop := ∃ c' s', Rel (C + 1) c' s' ∧ ∀ o, Ev xs L 141 (53, [.retAddr 0, .ref 0, .ref 170, .int (nI i)], [.int (xs i &&& 31)], hh c s) o ↔ Ev xs L 141 (38, [.retAddr 0, .ref 0, .ref 170, .int (nI (i + 6))], [], hh c' s') o
set_option maxRecDepth 20000 in
set_option maxHeartbeats 2000000 in
theorem lc_0 (h : Rel C c s) (hC : C < 512) (hi : i + 6 ≤ L) (hL : L ≤ 3074) (e : xs i &&& 31 = 0) : Nx xs L C i c s := by
  obtain ⟨x, c', s', hx, hm, hr⟩ := st_pw (xs := xs) (L := L) (u := xs (i + 1)) (w := xs (i + 2)) h hC
  refine ⟨c', s', hr, fun o => ?_⟩
  have v1 : vp_in (nI (i + 1)) L := nI_in (by omega) (by omega)
  have w1 : (nI (i + 1)).toNatClampNeg = i + 1 := nI_clamp (by omega)
  have v2 : vp_in (nI (i + 2)) L := nI_in (by omega) (by omega)
  have w2 : (nI (i + 2)).toNatClampNeg = i + 2 := nI_clamp (by omega)
  rw [e, e_141_53c0]
  simp only [e_141_144, e_141_144s, e_141_145, e_141_145s, e_141_146, e_141_147, e_141_148, e_141_149, e_141_149s, e_141_150, e_141_150s, e_141_151, e_141_152, e_141_153, e_141_154, e_141_154s, e_141_155, e_141_158, e_141_158s, e_141_159, e_141_159s, e_141_160, e_141_161, e_141_162, e_141_163, e_141_163s, e_141_164, e_141_164s, e_141_165, e_141_166, e_141_167, e_141_168, e_141_168s, e_141_169, e_141_172, e_141_175, e_141_176, e_141_712, e_141_715, T0, Tm, Cl_of xs L hx, Cl_of xs L hm, ad1, ad2, ad3, ad4, ad5, ad6, v1, w1, v2, w2, tl_s, tl_n, rf_s, rf_n, cs_nil, cs_cons, cat_r, cat_i, cat_l, cat_n, cat_a, Nat.reduceAdd, Nat.reduceMul, Nat.reduceLeDiff, Nat.reduceEqDiff, Nat.reduceLT, and_self, and_true, true_and, and_false, false_and, or_true, true_or, or_false, false_or, if_true, if_false, not_true_eq_false, not_false_eq_true, reduceCtorEq, reduceIte]
set_option maxRecDepth 20000 in
set_option maxHeartbeats 2000000 in
theorem lc_1 (h : Rel C c s) (hC : C < 512) (hi : i + 6 ≤ L) (hL : L ≤ 3074) (e : xs i &&& 31 = 1) : Nx xs L C i c s := by
  obtain ⟨x, c', s', hx, hm, hr⟩ := st_ch (xs := xs) (L := L) (u := xs (i + 1)) h hC
  refine ⟨c', s', hr, fun o => ?_⟩
  have v1 : vp_in (nI (i + 1)) L := nI_in (by omega) (by omega)
  have w1 : (nI (i + 1)).toNatClampNeg = i + 1 := nI_clamp (by omega)
  rw [e, e_141_53c1]
  simp only [e_141_177, e_141_177s, e_141_178, e_141_178s, e_141_179, e_141_180, e_141_181, e_141_182, e_141_182s, e_141_183, e_141_186, e_141_186s, e_141_187, e_141_187s, e_141_188, e_141_189, e_141_190, e_141_191, e_141_191s, e_141_192, e_141_195, e_141_198, e_141_199, e_141_712, e_141_715, T0, Tm, Cl_of xs L hx, Cl_of xs L hm, ad1, ad2, ad3, ad4, ad5, ad6, v1, w1, tl_s, tl_n, rf_s, rf_n, cs_nil, cs_cons, cat_r, cat_i, cat_l, cat_n, cat_a, Nat.reduceAdd, Nat.reduceMul, Nat.reduceLeDiff, Nat.reduceEqDiff, Nat.reduceLT, and_self, and_true, true_and, and_false, false_and, or_true, true_or, or_false, false_or, if_true, if_false, not_true_eq_false, not_false_eq_true, reduceCtorEq, reduceIte]
set_option maxRecDepth 20000 in
set_option maxHeartbeats 2000000 in
theorem lc_2 (h : Rel C c s) (hC : C < 512) (hi : i + 6 ≤ L) (hL : L ≤ 3074) (e : xs i &&& 31 = 2) : Nx xs L C i c s := by
  obtain ⟨x, c', s', hx, hm, hr⟩ := st_lo (xs := xs) (L := L) (u := xs (i + 1)) (w := xs (i + 2)) (a := xs (i + 3)) h hC
  refine ⟨c', s', hr, fun o => ?_⟩
  have v1 : vp_in (nI (i + 1)) L := nI_in (by omega) (by omega)
  have w1 : (nI (i + 1)).toNatClampNeg = i + 1 := nI_clamp (by omega)
  have v2 : vp_in (nI (i + 2)) L := nI_in (by omega) (by omega)
  have w2 : (nI (i + 2)).toNatClampNeg = i + 2 := nI_clamp (by omega)
  have v3 : vp_in (nI (i + 3)) L := nI_in (by omega) (by omega)
  have w3 : (nI (i + 3)).toNatClampNeg = i + 3 := nI_clamp (by omega)
  rw [e, e_141_53c2]
  simp only [e_141_200, e_141_200s, e_141_201, e_141_201s, e_141_202, e_141_203, e_141_204, e_141_205, e_141_205s, e_141_206, e_141_206s, e_141_207, e_141_208, e_141_209, e_141_210, e_141_210s, e_141_211, e_141_211s, e_141_212, e_141_213, e_141_214, e_141_215, e_141_215s, e_141_216, e_141_219, e_141_219s, e_141_220, e_141_220s, e_141_221, e_141_222, e_141_223, e_141_224, e_141_224s, e_141_225, e_141_225s, e_141_226, e_141_227, e_141_228, e_141_229, e_141_229s, e_141_230, e_141_230s, e_141_231, e_141_232, e_141_233, e_141_234, e_141_234s, e_141_235, e_141_238, e_141_241, e_141_242, e_141_712, e_141_715, T0, Tm, Cl_of xs L hx, Cl_of xs L hm, ad1, ad2, ad3, ad4, ad5, ad6, v1, w1, v2, w2, v3, w3, tl_s, tl_n, rf_s, rf_n, cs_nil, cs_cons, cat_r, cat_i, cat_l, cat_n, cat_a, Nat.reduceAdd, Nat.reduceMul, Nat.reduceLeDiff, Nat.reduceEqDiff, Nat.reduceLT, and_self, and_true, true_and, and_false, false_and, or_true, true_or, or_false, false_or, if_true, if_false, not_true_eq_false, not_false_eq_true, reduceCtorEq, reduceIte]
set_option maxRecDepth 20000 in
set_option maxHeartbeats 2000000 in
theorem lc_3 (h : Rel C c s) (hC : C < 512) (hi : i + 6 ≤ L) (hL : L ≤ 3074) (e : xs i &&& 31 = 3) : Nx xs L C i c s := by
  obtain ⟨x, c', s', hx, hm, hr⟩ := st_rg (xs := xs) (L := L) (u := xs (i + 1)) (ct := xs (i + 2)) (wt := xs (i + 3)) (en := xs (i + 4)) (mk := xs (i + 5)) h hC
  refine ⟨c', s', hr, fun o => ?_⟩
  have v1 : vp_in (nI (i + 1)) L := nI_in (by omega) (by omega)
  have w1 : (nI (i + 1)).toNatClampNeg = i + 1 := nI_clamp (by omega)
  have v2 : vp_in (nI (i + 2)) L := nI_in (by omega) (by omega)
  have w2 : (nI (i + 2)).toNatClampNeg = i + 2 := nI_clamp (by omega)
  have v3 : vp_in (nI (i + 3)) L := nI_in (by omega) (by omega)
  have w3 : (nI (i + 3)).toNatClampNeg = i + 3 := nI_clamp (by omega)
  have v4 : vp_in (nI (i + 4)) L := nI_in (by omega) (by omega)
  have w4 : (nI (i + 4)).toNatClampNeg = i + 4 := nI_clamp (by omega)
  have v5 : vp_in (nI (i + 5)) L := nI_in (by omega) (by omega)
  have w5 : (nI (i + 5)).toNatClampNeg = i + 5 := nI_clamp (by omega)
  rw [e, e_141_53c3]
  simp only [e_141_243, e_141_243s, e_141_244, e_141_244s, e_141_245, e_141_246, e_141_247, e_141_248, e_141_248s, e_141_249, e_141_249s, e_141_250, e_141_251, e_141_252, e_141_253, e_141_253s, e_141_254, e_141_254s, e_141_255, e_141_256, e_141_257, e_141_258, e_141_258s, e_141_259, e_141_259s, e_141_260, e_141_261, e_141_262, e_141_263, e_141_263s, e_141_264, e_141_264s, e_141_265, e_141_266, e_141_267, e_141_268, e_141_268s, e_141_269, e_141_272, e_141_272s, e_141_273, e_141_273s, e_141_274, e_141_275, e_141_276, e_141_277, e_141_277s, e_141_278, e_141_278s, e_141_279, e_141_280, e_141_281, e_141_282, e_141_282s, e_141_283, e_141_283s, e_141_284, e_141_285, e_141_286, e_141_287, e_141_287s, e_141_288, e_141_288s, e_141_289, e_141_290, e_141_291, e_141_292, e_141_292s, e_141_293, e_141_293s, e_141_294, e_141_295, e_141_296, e_141_297, e_141_297s, e_141_298, e_141_301, e_141_304, e_141_305, e_141_712, e_141_715, T0, Tm, Cl_of xs L hx, Cl_of xs L hm, ad1, ad2, ad3, ad4, ad5, ad6, v1, w1, v2, w2, v3, w3, v4, w4, v5, w5, tl_s, tl_n, rf_s, rf_n, cs_nil, cs_cons, cat_r, cat_i, cat_l, cat_n, cat_a, Nat.reduceAdd, Nat.reduceMul, Nat.reduceLeDiff, Nat.reduceEqDiff, Nat.reduceLT, and_self, and_true, true_and, and_false, false_and, or_true, true_or, or_false, false_or, if_true, if_false, not_true_eq_false, not_false_eq_true, reduceCtorEq, reduceIte]
set_option maxRecDepth 20000 in
set_option maxHeartbeats 2000000 in
theorem lc_4 (h : Rel C c s) (hC : C < 512) (hi : i + 6 ≤ L) (hL : L ≤ 3074) (e : xs i &&& 31 = 4) : Nx xs L C i c s := by
  obtain ⟨x, c', s', hx, hm, hr⟩ := st_bs (xs := xs) (L := L) (u := xs (i + 1)) h hC
  refine ⟨c', s', hr, fun o => ?_⟩
  have v1 : vp_in (nI (i + 1)) L := nI_in (by omega) (by omega)
  have w1 : (nI (i + 1)).toNatClampNeg = i + 1 := nI_clamp (by omega)
  rw [e, e_141_53c4]
  simp only [e_141_306, e_141_306s, e_141_307, e_141_307s, e_141_308, e_141_309, e_141_310, e_141_311, e_141_311s, e_141_312, e_141_315, e_141_315s, e_141_316, e_141_316s, e_141_317, e_141_318, e_141_319, e_141_320, e_141_320s, e_141_321, e_141_324, e_141_327, e_141_328, e_141_712, e_141_715, T0, Tm, Cl_of xs L hx, Cl_of xs L hm, ad1, ad2, ad3, ad4, ad5, ad6, v1, w1, tl_s, tl_n, rf_s, rf_n, cs_nil, cs_cons, cat_r, cat_i, cat_l, cat_n, cat_a, Nat.reduceAdd, Nat.reduceMul, Nat.reduceLeDiff, Nat.reduceEqDiff, Nat.reduceLT, and_self, and_true, true_and, and_false, false_and, or_true, true_or, or_false, false_or, if_true, if_false, not_true_eq_false, not_false_eq_true, reduceCtorEq, reduceIte]
set_option maxRecDepth 20000 in
set_option maxHeartbeats 2000000 in
theorem lc_5 (h : Rel C c s) (hC : C < 512) (hi : i + 6 ≤ L) (hL : L ≤ 3074) (e : xs i &&& 31 = 5) : Nx xs L C i c s := by
  obtain ⟨x, c', s', hx, hm, hr⟩ := st_bg (xs := xs) (L := L) (u := xs (i + 1)) (w := xs (i + 2)) h hC
  refine ⟨c', s', hr, fun o => ?_⟩
  have v1 : vp_in (nI (i + 1)) L := nI_in (by omega) (by omega)
  have w1 : (nI (i + 1)).toNatClampNeg = i + 1 := nI_clamp (by omega)
  have v2 : vp_in (nI (i + 2)) L := nI_in (by omega) (by omega)
  have w2 : (nI (i + 2)).toNatClampNeg = i + 2 := nI_clamp (by omega)
  rw [e, e_141_53c5]
  simp only [e_141_329, e_141_329s, e_141_330, e_141_330s, e_141_331, e_141_332, e_141_333, e_141_334, e_141_334s, e_141_335, e_141_335s, e_141_336, e_141_337, e_141_338, e_141_339, e_141_339s, e_141_340, e_141_343, e_141_343s, e_141_344, e_141_344s, e_141_345, e_141_346, e_141_347, e_141_348, e_141_348s, e_141_349, e_141_349s, e_141_350, e_141_351, e_141_352, e_141_353, e_141_353s, e_141_354, e_141_357, e_141_360, e_141_361, e_141_712, e_141_715, T0, Tm, Cl_of xs L hx, Cl_of xs L hm, ad1, ad2, ad3, ad4, ad5, ad6, v1, w1, v2, w2, tl_s, tl_n, rf_s, rf_n, cs_nil, cs_cons, cat_r, cat_i, cat_l, cat_n, cat_a, Nat.reduceAdd, Nat.reduceMul, Nat.reduceLeDiff, Nat.reduceEqDiff, Nat.reduceLT, and_self, and_true, true_and, and_false, false_and, or_true, true_or, or_false, false_or, if_true, if_false, not_true_eq_false, not_false_eq_true, reduceCtorEq, reduceIte]
set_option maxRecDepth 20000 in
set_option maxHeartbeats 2000000 in
theorem lc_6 (h : Rel C c s) (hC : C < 512) (hi : i + 6 ≤ L) (hL : L ≤ 3074) (e : xs i &&& 31 = 6) : Nx xs L C i c s := by
  obtain ⟨x, c', s', hx, hm, hr⟩ := st_in (xs := xs) (L := L) (x := xs (i + 1)) (u := xs (i + 2)) (hp := xs (i + 3)) (vi := xs (i + 4)) h hC
  refine ⟨c', s', hr, fun o => ?_⟩
  have v1 : vp_in (nI (i + 1)) L := nI_in (by omega) (by omega)
  have w1 : (nI (i + 1)).toNatClampNeg = i + 1 := nI_clamp (by omega)
  have v2 : vp_in (nI (i + 2)) L := nI_in (by omega) (by omega)
  have w2 : (nI (i + 2)).toNatClampNeg = i + 2 := nI_clamp (by omega)
  have v3 : vp_in (nI (i + 3)) L := nI_in (by omega) (by omega)
  have w3 : (nI (i + 3)).toNatClampNeg = i + 3 := nI_clamp (by omega)
  have v4 : vp_in (nI (i + 4)) L := nI_in (by omega) (by omega)
  have w4 : (nI (i + 4)).toNatClampNeg = i + 4 := nI_clamp (by omega)
  rw [e, e_141_53c6]
  simp only [e_141_362, e_141_362s, e_141_363, e_141_363s, e_141_364, e_141_365, e_141_366, e_141_367, e_141_367s, e_141_368, e_141_368s, e_141_369, e_141_370, e_141_371, e_141_372, e_141_372s, e_141_373, e_141_373s, e_141_374, e_141_375, e_141_376, e_141_377, e_141_377s, e_141_378, e_141_378s, e_141_379, e_141_380, e_141_381, e_141_382, e_141_382s, e_141_383, e_141_386, e_141_386s, e_141_387, e_141_387s, e_141_388, e_141_389, e_141_390, e_141_391, e_141_391s, e_141_392, e_141_392s, e_141_393, e_141_394, e_141_395, e_141_396, e_141_396s, e_141_397, e_141_397s, e_141_398, e_141_399, e_141_400, e_141_401, e_141_401s, e_141_402, e_141_402s, e_141_403, e_141_404, e_141_405, e_141_406, e_141_406s, e_141_407, e_141_410, e_141_413, e_141_414, e_141_712, e_141_715, T0, Tm, Cl_of xs L hx, Cl_of xs L hm, ad1, ad2, ad3, ad4, ad5, ad6, v1, w1, v2, w2, v3, w3, v4, w4, tl_s, tl_n, rf_s, rf_n, cs_nil, cs_cons, cat_r, cat_i, cat_l, cat_n, cat_a, Nat.reduceAdd, Nat.reduceMul, Nat.reduceLeDiff, Nat.reduceEqDiff, Nat.reduceLT, and_self, and_true, true_and, and_false, false_and, or_true, true_or, or_false, false_or, if_true, if_false, not_true_eq_false, not_false_eq_true, reduceCtorEq, reduceIte]
set_option maxRecDepth 20000 in
set_option maxHeartbeats 2000000 in
theorem lc_7 (h : Rel C c s) (hC : C < 512) (hi : i + 6 ≤ L) (hL : L ≤ 3074) (e : xs i &&& 31 = 7) : Nx xs L C i c s := by
  obtain ⟨x, c', s', hx, hm, hr⟩ := st_rp (xs := xs) (L := L) (x := xs (i + 1)) (b := xs (i + 2)) (w := xs (i + 3)) h hC
  refine ⟨c', s', hr, fun o => ?_⟩
  have v1 : vp_in (nI (i + 1)) L := nI_in (by omega) (by omega)
  have w1 : (nI (i + 1)).toNatClampNeg = i + 1 := nI_clamp (by omega)
  have v2 : vp_in (nI (i + 2)) L := nI_in (by omega) (by omega)
  have w2 : (nI (i + 2)).toNatClampNeg = i + 2 := nI_clamp (by omega)
  have v3 : vp_in (nI (i + 3)) L := nI_in (by omega) (by omega)
  have w3 : (nI (i + 3)).toNatClampNeg = i + 3 := nI_clamp (by omega)
  rw [e, e_141_53c7]
  simp only [e_141_415, e_141_415s, e_141_416, e_141_416s, e_141_417, e_141_418, e_141_419, e_141_420, e_141_420s, e_141_421, e_141_421s, e_141_422, e_141_423, e_141_424, e_141_425, e_141_425s, e_141_426, e_141_426s, e_141_427, e_141_428, e_141_429, e_141_430, e_141_430s, e_141_431, e_141_434, e_141_434s, e_141_435, e_141_435s, e_141_436, e_141_437, e_141_438, e_141_439, e_141_439s, e_141_440, e_141_440s, e_141_441, e_141_442, e_141_443, e_141_444, e_141_444s, e_141_445, e_141_445s, e_141_446, e_141_447, e_141_448, e_141_449, e_141_449s, e_141_450, e_141_453, e_141_456, e_141_457, e_141_712, e_141_715, T0, Tm, Cl_of xs L hx, Cl_of xs L hm, ad1, ad2, ad3, ad4, ad5, ad6, v1, w1, v2, w2, v3, w3, tl_s, tl_n, rf_s, rf_n, cs_nil, cs_cons, cat_r, cat_i, cat_l, cat_n, cat_a, Nat.reduceAdd, Nat.reduceMul, Nat.reduceLeDiff, Nat.reduceEqDiff, Nat.reduceLT, and_self, and_true, true_and, and_false, false_and, or_true, true_or, or_false, false_or, if_true, if_false, not_true_eq_false, not_false_eq_true, reduceCtorEq, reduceIte]
set_option maxRecDepth 20000 in
set_option maxHeartbeats 2000000 in
theorem lc_8 (h : Rel C c s) (hC : C < 512) (hi : i + 6 ≤ L) (hL : L ≤ 3074) (e : xs i &&& 31 = 8) : Nx xs L C i c s := by
  obtain ⟨x, c', s', hx, hm, hr⟩ := st_cd (xs := xs) (L := L) (x := xs (i + 1)) (b := xs (i + 2)) h hC
  refine ⟨c', s', hr, fun o => ?_⟩
  have v1 : vp_in (nI (i + 1)) L := nI_in (by omega) (by omega)
  have w1 : (nI (i + 1)).toNatClampNeg = i + 1 := nI_clamp (by omega)
  have v2 : vp_in (nI (i + 2)) L := nI_in (by omega) (by omega)
  have w2 : (nI (i + 2)).toNatClampNeg = i + 2 := nI_clamp (by omega)
  rw [e, e_141_53c8]
  simp only [e_141_458, e_141_458s, e_141_459, e_141_459s, e_141_460, e_141_461, e_141_462, e_141_463, e_141_463s, e_141_464, e_141_464s, e_141_465, e_141_466, e_141_467, e_141_468, e_141_468s, e_141_469, e_141_472, e_141_472s, e_141_473, e_141_473s, e_141_474, e_141_475, e_141_476, e_141_477, e_141_477s, e_141_478, e_141_478s, e_141_479, e_141_480, e_141_481, e_141_482, e_141_482s, e_141_483, e_141_486, e_141_489, e_141_490, e_141_712, e_141_715, T0, Tm, Cl_of xs L hx, Cl_of xs L hm, ad1, ad2, ad3, ad4, ad5, ad6, v1, w1, v2, w2, tl_s, tl_n, rf_s, rf_n, cs_nil, cs_cons, cat_r, cat_i, cat_l, cat_n, cat_a, Nat.reduceAdd, Nat.reduceMul, Nat.reduceLeDiff, Nat.reduceEqDiff, Nat.reduceLT, and_self, and_true, true_and, and_false, false_and, or_true, true_or, or_false, false_or, if_true, if_false, not_true_eq_false, not_false_eq_true, reduceCtorEq, reduceIte]
set_option maxRecDepth 20000 in
set_option maxHeartbeats 2000000 in
theorem lc_9 (h : Rel C c s) (hC : C < 512) (hi : i + 6 ≤ L) (hL : L ≤ 3074) (e : xs i &&& 31 = 9) : Nx xs L C i c s := by
  obtain ⟨x, c', s', hx, hm, hr⟩ := st_ca (xs := xs) (L := L) (x := xs (i + 1)) h hC
  refine ⟨c', s', hr, fun o => ?_⟩
  have v1 : vp_in (nI (i + 1)) L := nI_in (by omega) (by omega)
  have w1 : (nI (i + 1)).toNatClampNeg = i + 1 := nI_clamp (by omega)
  rw [e, e_141_53c9]
  simp only [e_141_491, e_141_491s, e_141_492, e_141_492s, e_141_493, e_141_494, e_141_495, e_141_496, e_141_496s, e_141_497, e_141_500, e_141_500s, e_141_501, e_141_501s, e_141_502, e_141_503, e_141_504, e_141_505, e_141_505s, e_141_506, e_141_509, e_141_512, e_141_513, e_141_712, e_141_715, T0, Tm, Cl_of xs L hx, Cl_of xs L hm, ad1, ad2, ad3, ad4, ad5, ad6, v1, w1, tl_s, tl_n, rf_s, rf_n, cs_nil, cs_cons, cat_r, cat_i, cat_l, cat_n, cat_a, Nat.reduceAdd, Nat.reduceMul, Nat.reduceLeDiff, Nat.reduceEqDiff, Nat.reduceLT, and_self, and_true, true_and, and_false, false_and, or_true, true_or, or_false, false_or, if_true, if_false, not_true_eq_false, not_false_eq_true, reduceCtorEq, reduceIte]
set_option maxRecDepth 20000 in
set_option maxHeartbeats 2000000 in
theorem lc_10 (h : Rel C c s) (hC : C < 512) (hi : i + 6 ≤ L) (hL : L ≤ 3074) (e : xs i &&& 31 = 10) : Nx xs L C i c s := by
  obtain ⟨x, c', s', hx, hm, hr⟩ := st_ak (xs := xs) (L := L) (x := xs (i + 1)) h hC
  refine ⟨c', s', hr, fun o => ?_⟩
  have v1 : vp_in (nI (i + 1)) L := nI_in (by omega) (by omega)
  have w1 : (nI (i + 1)).toNatClampNeg = i + 1 := nI_clamp (by omega)
  rw [e, e_141_53c10]
  simp only [e_141_514, e_141_514s, e_141_515, e_141_515s, e_141_516, e_141_517, e_141_518, e_141_519, e_141_519s, e_141_520, e_141_523, e_141_523s, e_141_524, e_141_524s, e_141_525, e_141_526, e_141_527, e_141_528, e_141_528s, e_141_529, e_141_532, e_141_535, e_141_536, e_141_712, e_141_715, T0, Tm, Cl_of xs L hx, Cl_of xs L hm, ad1, ad2, ad3, ad4, ad5, ad6, v1, w1, tl_s, tl_n, rf_s, rf_n, cs_nil, cs_cons, cat_r, cat_i, cat_l, cat_n, cat_a, Nat.reduceAdd, Nat.reduceMul, Nat.reduceLeDiff, Nat.reduceEqDiff, Nat.reduceLT, and_self, and_true, true_and, and_false, false_and, or_true, true_or, or_false, false_or, if_true, if_false, not_true_eq_false, not_false_eq_true, reduceCtorEq, reduceIte]
set_option maxRecDepth 20000 in
set_option maxHeartbeats 2000000 in
theorem lc_11 (h : Rel C c s) (hC : C < 512) (hi : i + 6 ≤ L) (hL : L ≤ 3074) (e : xs i &&& 31 = 11) : Nx xs L C i c s := by
  obtain ⟨x, c', s', hx, hm, hr⟩ := st_tk (xs := xs) (L := L) (x := xs (i + 1)) h hC
  refine ⟨c', s', hr, fun o => ?_⟩
  have v1 : vp_in (nI (i + 1)) L := nI_in (by omega) (by omega)
  have w1 : (nI (i + 1)).toNatClampNeg = i + 1 := nI_clamp (by omega)
  rw [e, e_141_53c11]
  simp only [e_141_537, e_141_537s, e_141_538, e_141_538s, e_141_539, e_141_540, e_141_541, e_141_542, e_141_542s, e_141_543, e_141_546, e_141_546s, e_141_547, e_141_547s, e_141_548, e_141_549, e_141_550, e_141_551, e_141_551s, e_141_552, e_141_555, e_141_558, e_141_559, e_141_712, e_141_715, T0, Tm, Cl_of xs L hx, Cl_of xs L hm, ad1, ad2, ad3, ad4, ad5, ad6, v1, w1, tl_s, tl_n, rf_s, rf_n, cs_nil, cs_cons, cat_r, cat_i, cat_l, cat_n, cat_a, Nat.reduceAdd, Nat.reduceMul, Nat.reduceLeDiff, Nat.reduceEqDiff, Nat.reduceLT, and_self, and_true, true_and, and_false, false_and, or_true, true_or, or_false, false_or, if_true, if_false, not_true_eq_false, not_false_eq_true, reduceCtorEq, reduceIte]
set_option maxRecDepth 20000 in
set_option maxHeartbeats 2000000 in
theorem lc_12 (h : Rel C c s) (hC : C < 512) (hi : i + 6 ≤ L) (hL : L ≤ 3074) (e : xs i &&& 31 = 12) : Nx xs L C i c s := by
  obtain ⟨x, c', s', hx, hm, hr⟩ := st_now (xs := xs) (L := L)  h hC
  refine ⟨c', s', hr, fun o => ?_⟩
  rw [e, e_141_53c12]
  simp only [e_141_560, e_141_560s, e_141_561, e_141_564, e_141_564s, e_141_565, e_141_568, e_141_571, e_141_572, e_141_712, e_141_715, T0, Tm, Cl_of xs L hx, Cl_of xs L hm, ad1, ad2, ad3, ad4, ad5, ad6, tl_s, tl_n, rf_s, rf_n, cs_nil, cs_cons, cat_r, cat_i, cat_l, cat_n, cat_a, Nat.reduceAdd, Nat.reduceMul, Nat.reduceLeDiff, Nat.reduceEqDiff, Nat.reduceLT, and_self, and_true, true_and, and_false, false_and, or_true, true_or, or_false, false_or, if_true, if_false, not_true_eq_false, not_false_eq_true, reduceCtorEq, reduceIte]
set_option maxRecDepth 20000 in
set_option maxHeartbeats 2000000 in
theorem lc_13 (h : Rel C c s) (hC : C < 512) (hi : i + 6 ≤ L) (hL : L ≤ 3074) (e : xs i &&& 31 = 13) : Nx xs L C i c s := by
  obtain ⟨x, c', s', hx, hm, hr⟩ := st_sv (xs := xs) (L := L) (x := xs (i + 1)) h hC
  refine ⟨c', s', hr, fun o => ?_⟩
  have v1 : vp_in (nI (i + 1)) L := nI_in (by omega) (by omega)
  have w1 : (nI (i + 1)).toNatClampNeg = i + 1 := nI_clamp (by omega)
  rw [e, e_141_53c13]
  simp only [e_141_573, e_141_573s, e_141_574, e_141_574s, e_141_575, e_141_576, e_141_577, e_141_578, e_141_578s, e_141_579, e_141_582, e_141_582s, e_141_583, e_141_583s, e_141_584, e_141_585, e_141_586, e_141_587, e_141_587s, e_141_588, e_141_591, e_141_594, e_141_595, e_141_712, e_141_715, T0, Tm, Cl_of xs L hx, Cl_of xs L hm, ad1, ad2, ad3, ad4, ad5, ad6, v1, w1, tl_s, tl_n, rf_s, rf_n, cs_nil, cs_cons, cat_r, cat_i, cat_l, cat_n, cat_a, Nat.reduceAdd, Nat.reduceMul, Nat.reduceLeDiff, Nat.reduceEqDiff, Nat.reduceLT, and_self, and_true, true_and, and_false, false_and, or_true, true_or, or_false, false_or, if_true, if_false, not_true_eq_false, not_false_eq_true, reduceCtorEq, reduceIte]
set_option maxRecDepth 20000 in
set_option maxHeartbeats 2000000 in
theorem lc_14 (h : Rel C c s) (hC : C < 512) (hi : i + 6 ≤ L) (hL : L ≤ 3074) (e : xs i &&& 31 = 14) : Nx xs L C i c s := by
  obtain ⟨x, c', s', hx, hm, hr⟩ := st_br (xs := xs) (L := L) (x := xs (i + 1)) (b := xs (i + 2)) h hC
  refine ⟨c', s', hr, fun o => ?_⟩
  have v1 : vp_in (nI (i + 1)) L := nI_in (by omega) (by omega)
  have w1 : (nI (i + 1)).toNatClampNeg = i + 1 := nI_clamp (by omega)
  have v2 : vp_in (nI (i + 2)) L := nI_in (by omega) (by omega)
  have w2 : (nI (i + 2)).toNatClampNeg = i + 2 := nI_clamp (by omega)
  rw [e, e_141_53c14]
  simp only [e_141_596, e_141_596s, e_141_597, e_141_597s, e_141_598, e_141_599, e_141_600, e_141_601, e_141_601s, e_141_602, e_141_602s, e_141_603, e_141_604, e_141_605, e_141_606, e_141_606s, e_141_607, e_141_610, e_141_610s, e_141_611, e_141_611s, e_141_612, e_141_613, e_141_614, e_141_615, e_141_615s, e_141_616, e_141_616s, e_141_617, e_141_618, e_141_619, e_141_620, e_141_620s, e_141_621, e_141_624, e_141_627, e_141_628, e_141_712, e_141_715, T0, Tm, Cl_of xs L hx, Cl_of xs L hm, ad1, ad2, ad3, ad4, ad5, ad6, v1, w1, v2, w2, tl_s, tl_n, rf_s, rf_n, cs_nil, cs_cons, cat_r, cat_i, cat_l, cat_n, cat_a, Nat.reduceAdd, Nat.reduceMul, Nat.reduceLeDiff, Nat.reduceEqDiff, Nat.reduceLT, and_self, and_true, true_and, and_false, false_and, or_true, true_or, or_false, false_or, if_true, if_false, not_true_eq_false, not_false_eq_true, reduceCtorEq, reduceIte]
set_option maxRecDepth 20000 in
set_option maxHeartbeats 2000000 in
theorem lc_15 (h : Rel C c s) (hC : C < 512) (hi : i + 6 ≤ L) (hL : L ≤ 3074) (e : xs i &&& 31 = 15) : Nx xs L C i c s := by
  obtain ⟨x, c', s', hx, hm, hr⟩ := st_rs (xs := xs) (L := L) (x := xs (i + 1)) (b := xs (i + 2)) h hC
  refine ⟨c', s', hr, fun o => ?_⟩
  have v1 : vp_in (nI (i + 1)) L := nI_in (by omega) (by omega)
  have w1 : (nI (i + 1)).toNatClampNeg = i + 1 := nI_clamp (by omega)
  have v2 : vp_in (nI (i + 2)) L := nI_in (by omega) (by omega)
  have w2 : (nI (i + 2)).toNatClampNeg = i + 2 := nI_clamp (by omega)
  rw [e, e_141_53c15]
  simp only [e_141_629, e_141_629s, e_141_630, e_141_630s, e_141_631, e_141_632, e_141_633, e_141_634, e_141_634s, e_141_635, e_141_635s, e_141_636, e_141_637, e_141_638, e_141_639, e_141_639s, e_141_640, e_141_643, e_141_643s, e_141_644, e_141_644s, e_141_645, e_141_646, e_141_647, e_141_648, e_141_648s, e_141_649, e_141_649s, e_141_650, e_141_651, e_141_652, e_141_653, e_141_653s, e_141_654, e_141_657, e_141_660, e_141_661, e_141_712, e_141_715, T0, Tm, Cl_of xs L hx, Cl_of xs L hm, ad1, ad2, ad3, ad4, ad5, ad6, v1, w1, v2, w2, tl_s, tl_n, rf_s, rf_n, cs_nil, cs_cons, cat_r, cat_i, cat_l, cat_n, cat_a, Nat.reduceAdd, Nat.reduceMul, Nat.reduceLeDiff, Nat.reduceEqDiff, Nat.reduceLT, and_self, and_true, true_and, and_false, false_and, or_true, true_or, or_false, false_or, if_true, if_false, not_true_eq_false, not_false_eq_true, reduceCtorEq, reduceIte]
set_option maxRecDepth 20000 in
set_option maxHeartbeats 2000000 in
theorem lc_16 (h : Rel C c s) (hC : C < 512) (hi : i + 6 ≤ L) (hL : L ≤ 3074) (e : xs i &&& 31 = 16) : Nx xs L C i c s := by
  obtain ⟨x, c', s', hx, hm, hr⟩ := st_live (xs := xs) (L := L)  h hC
  refine ⟨c', s', hr, fun o => ?_⟩
  rw [e, e_141_53c16]
  simp only [e_141_662, e_141_662s, e_141_663, e_141_666, e_141_666s, e_141_667, e_141_670, e_141_673, e_141_674, e_141_712, e_141_715, T0, Tm, Cl_of xs L hx, Cl_of xs L hm, ad1, ad2, ad3, ad4, ad5, ad6, tl_s, tl_n, rf_s, rf_n, cs_nil, cs_cons, cat_r, cat_i, cat_l, cat_n, cat_a, Nat.reduceAdd, Nat.reduceMul, Nat.reduceLeDiff, Nat.reduceEqDiff, Nat.reduceLT, and_self, and_true, true_and, and_false, false_and, or_true, true_or, or_false, false_or, if_true, if_false, not_true_eq_false, not_false_eq_true, reduceCtorEq, reduceIte]
set_option maxRecDepth 20000 in
set_option maxHeartbeats 2000000 in
theorem lc_17 (h : Rel C c s) (hC : C < 512) (hi : i + 6 ≤ L) (hL : L ≤ 3074) (e : xs i &&& 31 = 17) : Nx xs L C i c s := by
  obtain ⟨x, c', s', hx, hm, hr⟩ := st_sent (xs := xs) (L := L)  h hC
  refine ⟨c', s', hr, fun o => ?_⟩
  rw [e, e_141_53c17]
  simp only [e_141_675, e_141_675s, e_141_676, e_141_679, e_141_679s, e_141_680, e_141_683, e_141_686, e_141_687, e_141_712, e_141_715, T0, Tm, Cl_of xs L hx, Cl_of xs L hm, ad1, ad2, ad3, ad4, ad5, ad6, tl_s, tl_n, rf_s, rf_n, cs_nil, cs_cons, cat_r, cat_i, cat_l, cat_n, cat_a, Nat.reduceAdd, Nat.reduceMul, Nat.reduceLeDiff, Nat.reduceEqDiff, Nat.reduceLT, and_self, and_true, true_and, and_false, false_and, or_true, true_or, or_false, false_or, if_true, if_false, not_true_eq_false, not_false_eq_true, reduceCtorEq, reduceIte]
set_option maxRecDepth 20000 in
set_option maxHeartbeats 2000000 in
theorem lc_18 (h : Rel C c s) (hC : C < 512) (hi : i + 6 ≤ L) (hL : L ≤ 3074) (e : xs i &&& 31 = 18) : Nx xs L C i c s := by
  obtain ⟨x, hx, hm, hr⟩ := st_msg (xs := xs) (L := L) (u := xs (i + 1)) h hC
  refine ⟨c, s, hr, fun o => ?_⟩
  have v1 : vp_in (nI (i + 1)) L := nI_in (by omega) (by omega)
  have w1 : (nI (i + 1)).toNatClampNeg = i + 1 := nI_clamp (by omega)
  rw [e, e_141_53c18]
  simp only [e_141_688, e_141_688s, e_141_689, e_141_689s, e_141_690, e_141_691, e_141_692, e_141_693, e_141_693s, e_141_694, e_141_697, e_141_697s, e_141_698, e_141_698s, e_141_699, e_141_700, e_141_701, e_141_702, e_141_702s, e_141_703, e_141_706, e_141_707, e_141_710, e_141_711, e_141_712, e_141_715, T0, Tm, Cl_of xs L hx, Cl_of xs L hm, ad1, ad2, ad3, ad4, ad5, ad6, v1, w1, cmp_0, tl_s, tl_n, rf_s, rf_n, cs_nil, cs_cons, cat_r, cat_i, cat_l, cat_n, cat_a, Nat.reduceAdd, Nat.reduceMul, Nat.reduceLeDiff, Nat.reduceEqDiff, Nat.reduceLT, and_self, and_true, true_and, and_false, false_and, or_true, true_or, or_false, false_or, if_true, if_false, not_true_eq_false, not_false_eq_true, reduceCtorEq, reduceIte]
theorem lc_d (h : Rel C c s) (hC : C < 512) (hx : (xs i &&& 31).toInt < 0 ∨ 18 < (xs i &&& 31).toInt) : Nx xs L C i c s := by
  obtain ⟨N, t, r, A, h⟩ := h
  refine ⟨c, s, ⟨N, t, r, A, RE_up h hC⟩, fun o => ?_⟩
  rw [e_141_53d hx, e_141_712, e_141_715, ad6]
theorem law_nx (h : Rel C c s) (hC : C < 512) (hi : i + 6 ≤ L) (hL : L ≤ 3074) : Nx xs L C i c s := by
  have h1 : vp_in (xs i &&& 31) (2 ^ 5) := pk_andIn (xs i) 5 (by decide +kernel) (by decide)
  have h2 : ¬ (xs i &&& 31) < 0 := fun w => h1 (Or.inl w)
  have h3 : ¬ 2 ^ 5 ≤ (xs i &&& 31).toNatClampNeg := fun w => h1 (Or.inr w)
  rw [Int32.lt_iff_toInt_lt] at h2
  have e : (0 : Int32).toInt = 0 := by decide
  have e2 : (xs i &&& 31).toNatClampNeg = (xs i &&& 31).toInt.toNat := rfl
  obtain ⟨k, hk, ek⟩ := in_n (x := xs i &&& 31) (b := 32) (by omega) (by omega) (by omega)
  by_cases hd : 18 < k
  · exact lc_d h hC (Or.inr (by rw [ek, nI_toInt (by omega)]; omega))
  · rcases (show k = 0 ∨ k = 1 ∨ k = 2 ∨ k = 3 ∨ k = 4 ∨ k = 5 ∨ k = 6 ∨ k = 7 ∨ k = 8 ∨ k = 9 ∨ k = 10 ∨ k = 11 ∨ k = 12 ∨ k = 13 ∨ k = 14 ∨ k = 15 ∨ k = 16 ∨ k = 17 ∨ k = 18 by omega) with rfl | rfl | rfl | rfl | rfl | rfl | rfl | rfl | rfl | rfl | rfl | rfl | rfl | rfl | rfl | rfl | rfl | rfl | rfl
    · exact lc_0 h hC hi hL ek
    · exact lc_1 h hC hi hL ek
    · exact lc_2 h hC hi hL ek
    · exact lc_3 h hC hi hL ek
    · exact lc_4 h hC hi hL ek
    · exact lc_5 h hC hi hL ek
    · exact lc_6 h hC hi hL ek
    · exact lc_7 h hC hi hL ek
    · exact lc_8 h hC hi hL ek
    · exact lc_9 h hC hi hL ek
    · exact lc_10 h hC hi hL ek
    · exact lc_11 h hC hi hL ek
    · exact lc_12 h hC hi hL ek
    · exact lc_13 h hC hi hL ek
    · exact lc_14 h hC hi hL ek
    · exact lc_15 h hC hi hL ek
    · exact lc_16 h hC hi hL ek
    · exact lc_17 h hC hi hL ek
    · exact lc_18 h hC hi hL ek
theorem law_l (hL : L ≤ 3074) : ∀ (d C i : Nat) (c : CM) (s : MM), i = 2 + 6 * C → C + d = 513 → Rel C c s → ∃ c' s', Ev xs L 141 (38, [.retAddr 0, .ref 0, .ref 170, .int (nI i)], [], hh c s) (some (.int 1), hh c' s') := by
  intro d
  induction d with
  | zero =>
    intro C i c s hi hd h
    obtain ⟨N, t, r, A, h⟩ := h
    exfalso
    have := h.1
    omega
  | succ d ih =>
    intro C i c s hi hd h
    have hc : C ≤ 512 := by
      obtain ⟨N, t, r, A, h⟩ := h
      have := h.1
      omega
    have hlt : (Int32.ofNat L - 6 < nI i) ↔ L < 6 + i := by
      have q : (nI L - nI 6).toInt = (L : Int) - (6 : Nat) := pk_sub_toInt (by omega) (by omega)
      rw [Int32.lt_iff_toInt_lt, nI_toInt (by omega), show Int32.ofNat L - 6 = nI L - nI 6 from rfl, q]
      omega
    by_cases hz : L < 6 + i
    · refine ⟨c, s, ?_⟩
      rw [e_141_38, e_141_39s, e_141_40s, e_141_41, e_141_43, e_141_44, if_pos (hlt.mpr hz), e_141_718, e_141_719 (Or.inr rfl)]
    · obtain ⟨c1, s1, hr, hq⟩ := law_nx (xs := xs) (i := i) h (by omega) (show i + 6 ≤ L by omega) hL
      obtain ⟨c2, s2, y⟩ := ih (C + 1) (i + 6) c1 s1 (by omega) (by omega) hr
      refine ⟨c2, s2, ?_⟩
      have v0 : vp_in (nI i) L := nI_in (by omega) (by omega)
      have w0 : (nI i).toNatClampNeg = i := nI_clamp (by omega)
      rw [e_141_38, e_141_39s, e_141_40s, e_141_41, e_141_43, e_141_44, if_neg (fun w => hz (hlt.mp w)), e_141_47s, e_141_48, e_141_49s v0, w0, e_141_50, e_141_52]
      exact (hq _).mpr y
end LW
