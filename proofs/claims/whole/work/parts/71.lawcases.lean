/-! The law, case by case (by program: wip/whole/gen_law.py) -/
section Z70
variable {N ca cb cs W P D i : Nat} {hi : zq_I} {hl : zq_J}
theorem law_c0 (h : Sim hi hl ca cb cs W P D) (hN : i + 6 ≤ N) (hN2 : N ≤ 384) : law_st N ca cb cs hi hl i 204 := by
  have pr : zq_pair N 10 110 [.ref 0, .int (hi 1000 (i + 1)), .int (hi 1000 (i + 2))] [.ref 60, .int (hi 1000 (i + 1)), .int (hi 1000 (i + 2)), .retAddr 0] := p_row
  obtain ⟨v, hi1, hl1, ca1, cb1, cs1, hi2, hl2, W2, P2, D2, e1, e2, hS⟩ := pr hi hl ca cb cs W P D h
  obtain ⟨y, ey⟩ := zq_P_int zt10 e1
  cases ey
  have k1 : hi1 1000 = hi 1000 := zq_P_kp (g := (zq_SG N, hi, hl, zq_HR ca cb cs)) zq_SG_le e1
  have k2 : hi2 1000 = hi1 1000 := zq_P_kp (g := (zq_SG N, hi1, hl1, zq_HR ca1 cb1 cs1)) zq_SG_le e2
  refine ⟨hi2, hl2, ca1, cb1, cs1, W2, P2, D2, k2.trans k1, hS, fun Q => ?_⟩
  have x1 : zq_xS (nI (i + 1)) N := zb_x (by omega) (by omega)
  have y1 : (nI (i + 1)).toNatClampNeg = i + 1 := zb_cl (by omega)
  have x2 : zq_xS (nI (i + 2)) N := zb_x (by omega) (by omega)
  have y2 : (nI (i + 2)).toNatClampNeg = i + 2 := zb_cl (by omega)
  simp only [zr0_204, zr0_205, zr0_206, zr0_207, zr0_208, zr0_209, zr0_210, zr0_211, zr0_212, zr0_213, zr0_214, zr0_215, zr0_218, zr0_219, zr0_220, zr0_221, zr0_222, zr0_223, zr0_224, zr0_225, zr0_226, zr0_227, zr0_228, zr0_229, zr0_232, zr0_235, zr0_236, zs_1000 N, zs_x0 N, zs_m0 N, zq_kill_int, zq_kill_ref, zq_kill_ret, zq_kill_null, zq_kill_long, zq_rf_some, zq_rf_none, true_and, and_true, true_implies, not_true_eq_false, not_false_eq_true, false_implies, Bool.true_eq_false, Bool.false_eq_true, nI_1, zb_i0, zb_i1, zb_i2, Option.toList_some, Option.toList_none, List.cons_append, List.nil_append, true_or, or_true, implies_true, zb_p2, zb_p3, zb_p4, zb_p5, e1, k1, e2, eq_self, lg_cmp_self, x1, y1, x2, y2]
theorem law_c1 (h : Sim hi hl ca cb cs W P D) (hN : i + 6 ≤ N) (hN2 : N ≤ 384) : law_st N ca cb cs hi hl i 237 := by
  have pr : zq_pair N 14 119 [.ref 0, .int (hi 1000 (i + 1)), .int (hi 1000 (i + 2)), .int (hi 1000 (i + 3)), .retAddr 0] [.ref 60, .int (hi 1000 (i + 1)), .int (hi 1000 (i + 2)), .int (hi 1000 (i + 3)), .retAddr 0] := p_lay
  obtain ⟨v, hi1, hl1, ca1, cb1, cs1, hi2, hl2, W2, P2, D2, e1, e2, hS⟩ := pr hi hl ca cb cs W P D h
  obtain ⟨y, ey⟩ := zq_P_int zt14 e1
  cases ey
  have k1 : hi1 1000 = hi 1000 := zq_P_kp (g := (zq_SG N, hi, hl, zq_HR ca cb cs)) zq_SG_le e1
  have k2 : hi2 1000 = hi1 1000 := zq_P_kp (g := (zq_SG N, hi1, hl1, zq_HR ca1 cb1 cs1)) zq_SG_le e2
  refine ⟨hi2, hl2, ca1, cb1, cs1, W2, P2, D2, k2.trans k1, hS, fun Q => ?_⟩
  have x1 : zq_xS (nI (i + 1)) N := zb_x (by omega) (by omega)
  have y1 : (nI (i + 1)).toNatClampNeg = i + 1 := zb_cl (by omega)
  have x2 : zq_xS (nI (i + 2)) N := zb_x (by omega) (by omega)
  have y2 : (nI (i + 2)).toNatClampNeg = i + 2 := zb_cl (by omega)
  have x3 : zq_xS (nI (i + 3)) N := zb_x (by omega) (by omega)
  have y3 : (nI (i + 3)).toNatClampNeg = i + 3 := zb_cl (by omega)
  simp only [zr0_237, zr0_238, zr0_239, zr0_240, zr0_241, zr0_242, zr0_243, zr0_244, zr0_245, zr0_246, zr0_247, zr0_248, zr0_249, zr0_250, zr0_251, zr0_252, zr0_253, zr0_256, zr0_257, zr0_258, zr0_259, zr0_260, zr0_261, zr0_262, zr0_263, zr0_264, zr0_265, zr0_266, zr0_267, zr0_268, zr0_269, zr0_270, zr0_271, zr0_272, zr0_275, zr0_278, zr0_279, zs_1000 N, zs_x0 N, zs_m0 N, zq_kill_int, zq_kill_ref, zq_kill_ret, zq_kill_null, zq_kill_long, zq_rf_some, zq_rf_none, true_and, and_true, true_implies, not_true_eq_false, not_false_eq_true, false_implies, Bool.true_eq_false, Bool.false_eq_true, nI_1, zb_i0, zb_i1, zb_i2, Option.toList_some, Option.toList_none, List.cons_append, List.nil_append, true_or, or_true, implies_true, zb_p2, zb_p3, zb_p4, zb_p5, e1, k1, e2, eq_self, lg_cmp_self, x1, y1, x2, y2, x3, y3]
theorem law_c2 (h : Sim hi hl ca cb cs W P D) (hN : i + 6 ≤ N) (hN2 : N ≤ 384) : law_st N ca cb cs hi hl i 280 := by
  have pr : zq_pair N 17 115 [.ref 0, .int (hi 1000 (i + 1)), .int (hi 1000 (i + 2)), .retAddr 0] [.ref 60, .int (hi 1000 (i + 1)), .int (hi 1000 (i + 2)), .retAddr 0] := p_at
  obtain ⟨v, hi1, hl1, ca1, cb1, cs1, hi2, hl2, W2, P2, D2, e1, e2, hS⟩ := pr hi hl ca cb cs W P D h
  obtain ⟨y, ey⟩ := zq_P_int zt17 e1
  cases ey
  have k1 : hi1 1000 = hi 1000 := zq_P_kp (g := (zq_SG N, hi, hl, zq_HR ca cb cs)) zq_SG_le e1
  have k2 : hi2 1000 = hi1 1000 := zq_P_kp (g := (zq_SG N, hi1, hl1, zq_HR ca1 cb1 cs1)) zq_SG_le e2
  refine ⟨hi2, hl2, ca1, cb1, cs1, W2, P2, D2, k2.trans k1, hS, fun Q => ?_⟩
  have x1 : zq_xS (nI (i + 1)) N := zb_x (by omega) (by omega)
  have y1 : (nI (i + 1)).toNatClampNeg = i + 1 := zb_cl (by omega)
  have x2 : zq_xS (nI (i + 2)) N := zb_x (by omega) (by omega)
  have y2 : (nI (i + 2)).toNatClampNeg = i + 2 := zb_cl (by omega)
  simp only [zr0_280, zr0_281, zr0_282, zr0_283, zr0_284, zr0_285, zr0_286, zr0_287, zr0_288, zr0_289, zr0_290, zr0_291, zr0_294, zr0_295, zr0_296, zr0_297, zr0_298, zr0_299, zr0_300, zr0_301, zr0_302, zr0_303, zr0_304, zr0_305, zr0_308, zr0_311, zr0_312, zs_1000 N, zs_x0 N, zs_m0 N, zq_kill_int, zq_kill_ref, zq_kill_ret, zq_kill_null, zq_kill_long, zq_rf_some, zq_rf_none, true_and, and_true, true_implies, not_true_eq_false, not_false_eq_true, false_implies, Bool.true_eq_false, Bool.false_eq_true, nI_1, zb_i0, zb_i1, zb_i2, Option.toList_some, Option.toList_none, List.cons_append, List.nil_append, true_or, or_true, implies_true, zb_p2, zb_p3, zb_p4, zb_p5, e1, k1, e2, eq_self, lg_cmp_self, x1, y1, x2, y2]
theorem law_c3 (h : Sim hi hl ca cb cs W P D) (hN : i + 6 ≤ N) (hN2 : N ≤ 384) : law_st N ca cb cs hi hl i 313 := by
  have pr : zq_pair N 18 120 [.ref 0, .int (hi 1000 (i + 1)), .retAddr 0] [.ref 60, .int (hi 1000 (i + 1)), .retAddr 0] := p_tear
  obtain ⟨v, hi1, hl1, ca1, cb1, cs1, hi2, hl2, W2, P2, D2, e1, e2, hS⟩ := pr hi hl ca cb cs W P D h
  obtain ⟨y, ey⟩ := zq_P_int zt18 e1
  cases ey
  have k1 : hi1 1000 = hi 1000 := zq_P_kp (g := (zq_SG N, hi, hl, zq_HR ca cb cs)) zq_SG_le e1
  have k2 : hi2 1000 = hi1 1000 := zq_P_kp (g := (zq_SG N, hi1, hl1, zq_HR ca1 cb1 cs1)) zq_SG_le e2
  refine ⟨hi2, hl2, ca1, cb1, cs1, W2, P2, D2, k2.trans k1, hS, fun Q => ?_⟩
  have x1 : zq_xS (nI (i + 1)) N := zb_x (by omega) (by omega)
  have y1 : (nI (i + 1)).toNatClampNeg = i + 1 := zb_cl (by omega)
  simp only [zr0_313, zr0_314, zr0_315, zr0_316, zr0_317, zr0_318, zr0_319, zr0_322, zr0_323, zr0_324, zr0_325, zr0_326, zr0_327, zr0_328, zr0_331, zr0_334, zr0_335, zs_1000 N, zs_x0 N, zs_m0 N, zq_kill_int, zq_kill_ref, zq_kill_ret, zq_kill_null, zq_kill_long, zq_rf_some, zq_rf_none, true_and, and_true, true_implies, not_true_eq_false, not_false_eq_true, false_implies, Bool.true_eq_false, Bool.false_eq_true, nI_1, zb_i0, zb_i1, zb_i2, Option.toList_some, Option.toList_none, List.cons_append, List.nil_append, true_or, or_true, implies_true, zb_p2, zb_p3, zb_p4, zb_p5, e1, k1, e2, eq_self, lg_cmp_self, x1, y1]
theorem law_c4 (h : Sim hi hl ca cb cs W P D) (hN : i + 6 ≤ N) (hN2 : N ≤ 384) : law_st N ca cb cs hi hl i 336 := by
  have pr : zq_pair N 20 121 [.ref 0, .int (hi 1000 (i + 1)), .int (hi 1000 (i + 2)), .int (hi 1000 (i + 3)), .int (hi 1000 (i + 4)), .int (hi 1000 (i + 5)), .retAddr 0, .retAddr 0] [.ref 60, .int (hi 1000 (i + 1)), .int (hi 1000 (i + 2)), .int (hi 1000 (i + 3)), .int (hi 1000 (i + 4)), .int (hi 1000 (i + 5)), .retAddr 0] := p_copy
  obtain ⟨v, hi1, hl1, ca1, cb1, cs1, hi2, hl2, W2, P2, D2, e1, e2, hS⟩ := pr hi hl ca cb cs W P D h
  obtain ⟨y, ey⟩ := zq_P_int zt20 e1
  cases ey
  have k1 : hi1 1000 = hi 1000 := zq_P_kp (g := (zq_SG N, hi, hl, zq_HR ca cb cs)) zq_SG_le e1
  have k2 : hi2 1000 = hi1 1000 := zq_P_kp (g := (zq_SG N, hi1, hl1, zq_HR ca1 cb1 cs1)) zq_SG_le e2
  refine ⟨hi2, hl2, ca1, cb1, cs1, W2, P2, D2, k2.trans k1, hS, fun Q => ?_⟩
  have x1 : zq_xS (nI (i + 1)) N := zb_x (by omega) (by omega)
  have y1 : (nI (i + 1)).toNatClampNeg = i + 1 := zb_cl (by omega)
  have x2 : zq_xS (nI (i + 2)) N := zb_x (by omega) (by omega)
  have y2 : (nI (i + 2)).toNatClampNeg = i + 2 := zb_cl (by omega)
  have x3 : zq_xS (nI (i + 3)) N := zb_x (by omega) (by omega)
  have y3 : (nI (i + 3)).toNatClampNeg = i + 3 := zb_cl (by omega)
  have x4 : zq_xS (nI (i + 4)) N := zb_x (by omega) (by omega)
  have y4 : (nI (i + 4)).toNatClampNeg = i + 4 := zb_cl (by omega)
  have x5 : zq_xS (nI (i + 5)) N := zb_x (by omega) (by omega)
  have y5 : (nI (i + 5)).toNatClampNeg = i + 5 := zb_cl (by omega)
  simp only [zr0_336, zr0_337, zr0_338, zr0_339, zr0_340, zr0_341, zr0_342, zr0_343, zr0_344, zr0_345, zr0_346, zr0_347, zr0_348, zr0_349, zr0_350, zr0_351, zr0_352, zr0_353, zr0_354, zr0_355, zr0_356, zr0_357, zr0_358, zr0_359, zr0_360, zr0_361, zr0_362, zr0_365, zr0_366, zr0_367, zr0_368, zr0_369, zr0_370, zr0_371, zr0_372, zr0_373, zr0_374, zr0_375, zr0_376, zr0_377, zr0_378, zr0_379, zr0_380, zr0_381, zr0_382, zr0_383, zr0_384, zr0_385, zr0_386, zr0_387, zr0_388, zr0_389, zr0_390, zr0_391, zr0_394, zr0_397, zr0_398, zs_1000 N, zs_x0 N, zs_m0 N, zq_kill_int, zq_kill_ref, zq_kill_ret, zq_kill_null, zq_kill_long, zq_rf_some, zq_rf_none, true_and, and_true, true_implies, not_true_eq_false, not_false_eq_true, false_implies, Bool.true_eq_false, Bool.false_eq_true, nI_1, zb_i0, zb_i1, zb_i2, Option.toList_some, Option.toList_none, List.cons_append, List.nil_append, true_or, or_true, implies_true, zb_p2, zb_p3, zb_p4, zb_p5, e1, k1, e2, eq_self, lg_cmp_self, x1, y1, x2, y2, x3, y3, x4, y4, x5, y5]
theorem law_c5 (h : Sim hi hl ca cb cs W P D) (hN : i + 6 ≤ N) (hN2 : N ≤ 384) : law_st N ca cb cs hi hl i 399 := by
  have pr : zq_pair N 22 122 [.ref 0, .int (hi 1000 (i + 1)), .retAddr 0, .retAddr 0, .retAddr 0, .retAddr 0] [.ref 60, .int (hi 1000 (i + 1)), .retAddr 0, .retAddr 0, .retAddr 0, .retAddr 0] := p_mean
  obtain ⟨v, hi1, hl1, ca1, cb1, cs1, hi2, hl2, W2, P2, D2, e1, e2, hS⟩ := pr hi hl ca cb cs W P D h
  obtain ⟨y, ey⟩ := zq_P_int zt22 e1
  cases ey
  have k1 : hi1 1000 = hi 1000 := zq_P_kp (g := (zq_SG N, hi, hl, zq_HR ca cb cs)) zq_SG_le e1
  have k2 : hi2 1000 = hi1 1000 := zq_P_kp (g := (zq_SG N, hi1, hl1, zq_HR ca1 cb1 cs1)) zq_SG_le e2
  refine ⟨hi2, hl2, ca1, cb1, cs1, W2, P2, D2, k2.trans k1, hS, fun Q => ?_⟩
  have x1 : zq_xS (nI (i + 1)) N := zb_x (by omega) (by omega)
  have y1 : (nI (i + 1)).toNatClampNeg = i + 1 := zb_cl (by omega)
  simp only [zr0_399, zr0_400, zr0_401, zr0_402, zr0_403, zr0_404, zr0_405, zr0_408, zr0_409, zr0_410, zr0_411, zr0_412, zr0_413, zr0_414, zr0_417, zr0_420, zr0_421, zs_1000 N, zs_x0 N, zs_m0 N, zq_kill_int, zq_kill_ref, zq_kill_ret, zq_kill_null, zq_kill_long, zq_rf_some, zq_rf_none, true_and, and_true, true_implies, not_true_eq_false, not_false_eq_true, false_implies, Bool.true_eq_false, Bool.false_eq_true, nI_1, zb_i0, zb_i1, zb_i2, Option.toList_some, Option.toList_none, List.cons_append, List.nil_append, true_or, or_true, implies_true, zb_p2, zb_p3, zb_p4, zb_p5, e1, k1, e2, eq_self, lg_cmp_self, x1, y1]
theorem law_c6 (h : Sim hi hl ca cb cs W P D) (hN : i + 6 ≤ N) (hN2 : N ≤ 384) : law_st N ca cb cs hi hl i 422 := by
  have pr : zq_pair N 23 123 [.ref 0, .int (hi 1000 (i + 1)), .int (hi 1000 (i + 2))] [.ref 60, .int (hi 1000 (i + 1)), .int (hi 1000 (i + 2)), .retAddr 0] := p_text
  obtain ⟨v, hi1, hl1, ca1, cb1, cs1, hi2, hl2, W2, P2, D2, e1, e2, hS⟩ := pr hi hl ca cb cs W P D h
  obtain ⟨y, ey⟩ := zq_P_int zt23 e1
  cases ey
  have k1 : hi1 1000 = hi 1000 := zq_P_kp (g := (zq_SG N, hi, hl, zq_HR ca cb cs)) zq_SG_le e1
  have k2 : hi2 1000 = hi1 1000 := zq_P_kp (g := (zq_SG N, hi1, hl1, zq_HR ca1 cb1 cs1)) zq_SG_le e2
  refine ⟨hi2, hl2, ca1, cb1, cs1, W2, P2, D2, k2.trans k1, hS, fun Q => ?_⟩
  have x1 : zq_xS (nI (i + 1)) N := zb_x (by omega) (by omega)
  have y1 : (nI (i + 1)).toNatClampNeg = i + 1 := zb_cl (by omega)
  have x2 : zq_xS (nI (i + 2)) N := zb_x (by omega) (by omega)
  have y2 : (nI (i + 2)).toNatClampNeg = i + 2 := zb_cl (by omega)
  simp only [zr0_422, zr0_423, zr0_424, zr0_425, zr0_426, zr0_427, zr0_428, zr0_429, zr0_430, zr0_431, zr0_432, zr0_433, zr0_436, zr0_437, zr0_438, zr0_439, zr0_440, zr0_441, zr0_442, zr0_443, zr0_444, zr0_445, zr0_446, zr0_447, zr0_450, zr0_453, zr0_454, zs_1000 N, zs_x0 N, zs_m0 N, zq_kill_int, zq_kill_ref, zq_kill_ret, zq_kill_null, zq_kill_long, zq_rf_some, zq_rf_none, true_and, and_true, true_implies, not_true_eq_false, not_false_eq_true, false_implies, Bool.true_eq_false, Bool.false_eq_true, nI_1, zb_i0, zb_i1, zb_i2, Option.toList_some, Option.toList_none, List.cons_append, List.nil_append, true_or, or_true, implies_true, zb_p2, zb_p3, zb_p4, zb_p5, e1, k1, e2, eq_self, lg_cmp_self, x1, y1, x2, y2]
theorem law_c7 (h : Sim hi hl ca cb cs W P D) (hN : i + 6 ≤ N) (hN2 : N ≤ 384) : law_st N ca cb cs hi hl i 455 := by
  have pr : zq_pair N 24 125 [.ref 0, .int (hi 1000 (i + 1)), .int (hi 1000 (i + 2)), .int (hi 1000 (i + 3)), .retAddr 0, .retAddr 0] [.ref 60, .int (hi 1000 (i + 1)), .int (hi 1000 (i + 2)), .int (hi 1000 (i + 3)), .retAddr 0, .retAddr 0] := p_put
  obtain ⟨v, hi1, hl1, ca1, cb1, cs1, hi2, hl2, W2, P2, D2, e1, e2, hS⟩ := pr hi hl ca cb cs W P D h
  obtain ⟨y, ey⟩ := zq_P_int zt24 e1
  cases ey
  have k1 : hi1 1000 = hi 1000 := zq_P_kp (g := (zq_SG N, hi, hl, zq_HR ca cb cs)) zq_SG_le e1
  have k2 : hi2 1000 = hi1 1000 := zq_P_kp (g := (zq_SG N, hi1, hl1, zq_HR ca1 cb1 cs1)) zq_SG_le e2
  refine ⟨hi2, hl2, ca1, cb1, cs1, W2, P2, D2, k2.trans k1, hS, fun Q => ?_⟩
  have x1 : zq_xS (nI (i + 1)) N := zb_x (by omega) (by omega)
  have y1 : (nI (i + 1)).toNatClampNeg = i + 1 := zb_cl (by omega)
  have x2 : zq_xS (nI (i + 2)) N := zb_x (by omega) (by omega)
  have y2 : (nI (i + 2)).toNatClampNeg = i + 2 := zb_cl (by omega)
  have x3 : zq_xS (nI (i + 3)) N := zb_x (by omega) (by omega)
  have y3 : (nI (i + 3)).toNatClampNeg = i + 3 := zb_cl (by omega)
  simp only [zr0_455, zr0_456, zr0_457, zr0_458, zr0_459, zr0_460, zr0_461, zr0_462, zr0_463, zr0_464, zr0_465, zr0_466, zr0_467, zr0_468, zr0_469, zr0_470, zr0_471, zr0_474, zr0_475, zr0_476, zr0_477, zr0_478, zr0_479, zr0_480, zr0_481, zr0_482, zr0_483, zr0_484, zr0_485, zr0_486, zr0_487, zr0_488, zr0_489, zr0_490, zr0_493, zr0_496, zr0_497, zs_1000 N, zs_x0 N, zs_m0 N, zq_kill_int, zq_kill_ref, zq_kill_ret, zq_kill_null, zq_kill_long, zq_rf_some, zq_rf_none, true_and, and_true, true_implies, not_true_eq_false, not_false_eq_true, false_implies, Bool.true_eq_false, Bool.false_eq_true, nI_1, zb_i0, zb_i1, zb_i2, Option.toList_some, Option.toList_none, List.cons_append, List.nil_append, true_or, or_true, implies_true, zb_p2, zb_p3, zb_p4, zb_p5, e1, k1, e2, eq_self, lg_cmp_self, x1, y1, x2, y2, x3, y3]
theorem law_c8 (h : Sim hi hl ca cb cs W P D) (hN : i + 6 ≤ N) (hN2 : N ≤ 384) : law_st N ca cb cs hi hl i 498 := by
  have pr : zq_pair N 25 127 [.ref 0, .int (hi 1000 (i + 1)), .retAddr 0] [.ref 60, .int (hi 1000 (i + 1)), .retAddr 0] := p_fault
  obtain ⟨v, hi1, hl1, ca1, cb1, cs1, hi2, hl2, W2, P2, D2, e1, e2, hS⟩ := pr hi hl ca cb cs W P D h
  obtain ⟨y, ey⟩ := zq_P_int zt25 e1
  cases ey
  have k1 : hi1 1000 = hi 1000 := zq_P_kp (g := (zq_SG N, hi, hl, zq_HR ca cb cs)) zq_SG_le e1
  have k2 : hi2 1000 = hi1 1000 := zq_P_kp (g := (zq_SG N, hi1, hl1, zq_HR ca1 cb1 cs1)) zq_SG_le e2
  refine ⟨hi2, hl2, ca1, cb1, cs1, W2, P2, D2, k2.trans k1, hS, fun Q => ?_⟩
  have x1 : zq_xS (nI (i + 1)) N := zb_x (by omega) (by omega)
  have y1 : (nI (i + 1)).toNatClampNeg = i + 1 := zb_cl (by omega)
  simp only [zr0_498, zr0_499, zr0_500, zr0_501, zr0_502, zr0_503, zr0_504, zr0_507, zr0_508, zr0_509, zr0_510, zr0_511, zr0_512, zr0_513, zr0_516, zr0_519, zr0_520, zs_1000 N, zs_x0 N, zs_m0 N, zq_kill_int, zq_kill_ref, zq_kill_ret, zq_kill_null, zq_kill_long, zq_rf_some, zq_rf_none, true_and, and_true, true_implies, not_true_eq_false, not_false_eq_true, false_implies, Bool.true_eq_false, Bool.false_eq_true, nI_1, zb_i0, zb_i1, zb_i2, Option.toList_some, Option.toList_none, List.cons_append, List.nil_append, true_or, or_true, implies_true, zb_p2, zb_p3, zb_p4, zb_p5, e1, k1, e2, eq_self, lg_cmp_self, x1, y1]
theorem law_c9 (h : Sim hi hl ca cb cs W P D) (hN : i + 6 ≤ N) (hN2 : N ≤ 384) : law_st N ca cb cs hi hl i 521 := by
  have pr : zq_pair N 39 137 [.ref 0, .int (hi 1000 (i + 1)), .retAddr 0, .retAddr 0, .retAddr 0] [.ref 60, .int (hi 1000 (i + 1)), .retAddr 0, .retAddr 0] := p_court
  obtain ⟨v, hi1, hl1, ca1, cb1, cs1, hi2, hl2, W2, P2, D2, e1, e2, hS⟩ := pr hi hl ca cb cs W P D h
  obtain ⟨y, ey⟩ := zq_P_int zt39 e1
  cases ey
  have k1 : hi1 1000 = hi 1000 := zq_P_kp (g := (zq_SG N, hi, hl, zq_HR ca cb cs)) zq_SG_le e1
  have k2 : hi2 1000 = hi1 1000 := zq_P_kp (g := (zq_SG N, hi1, hl1, zq_HR ca1 cb1 cs1)) zq_SG_le e2
  refine ⟨hi2, hl2, ca1, cb1, cs1, W2, P2, D2, k2.trans k1, hS, fun Q => ?_⟩
  have x1 : zq_xS (nI (i + 1)) N := zb_x (by omega) (by omega)
  have y1 : (nI (i + 1)).toNatClampNeg = i + 1 := zb_cl (by omega)
  simp only [zr0_521, zr0_522, zr0_523, zr0_524, zr0_525, zr0_526, zr0_527, zr0_530, zr0_531, zr0_532, zr0_533, zr0_534, zr0_535, zr0_536, zr0_539, zr0_542, zr0_543, zs_1000 N, zs_x0 N, zs_m0 N, zq_kill_int, zq_kill_ref, zq_kill_ret, zq_kill_null, zq_kill_long, zq_rf_some, zq_rf_none, true_and, and_true, true_implies, not_true_eq_false, not_false_eq_true, false_implies, Bool.true_eq_false, Bool.false_eq_true, nI_1, zb_i0, zb_i1, zb_i2, Option.toList_some, Option.toList_none, List.cons_append, List.nil_append, true_or, or_true, implies_true, zb_p2, zb_p3, zb_p4, zb_p5, e1, k1, e2, eq_self, lg_cmp_self, x1, y1]
theorem law_c10 (h : Sim hi hl ca cb cs W P D) (hN : i + 6 ≤ N) (hN2 : N ≤ 384) : law_st N ca cb cs hi hl i 544 := by
  have pr : zq_pair N 40 160 [.ref 0, .int (hi 1000 (i + 1)), .int (hi 1000 (i + 2))] [.ref 60, .int (hi 1000 (i + 1)), .int (hi 1000 (i + 2))] := p_way
  obtain ⟨v, hi1, hl1, ca1, cb1, cs1, hi2, hl2, W2, P2, D2, e1, e2, hS⟩ := pr hi hl ca cb cs W P D h
  obtain ⟨y, ey⟩ := zq_P_int zt40 e1
  cases ey
  have k1 : hi1 1000 = hi 1000 := zq_P_kp (g := (zq_SG N, hi, hl, zq_HR ca cb cs)) zq_SG_le e1
  have k2 : hi2 1000 = hi1 1000 := zq_P_kp (g := (zq_SG N, hi1, hl1, zq_HR ca1 cb1 cs1)) zq_SG_le e2
  refine ⟨hi2, hl2, ca1, cb1, cs1, W2, P2, D2, k2.trans k1, hS, fun Q => ?_⟩
  have x1 : zq_xS (nI (i + 1)) N := zb_x (by omega) (by omega)
  have y1 : (nI (i + 1)).toNatClampNeg = i + 1 := zb_cl (by omega)
  have x2 : zq_xS (nI (i + 2)) N := zb_x (by omega) (by omega)
  have y2 : (nI (i + 2)).toNatClampNeg = i + 2 := zb_cl (by omega)
  simp only [zr0_544, zr0_545, zr0_546, zr0_547, zr0_548, zr0_549, zr0_550, zr0_551, zr0_552, zr0_553, zr0_554, zr0_555, zr0_558, zr0_559, zr0_560, zr0_561, zr0_562, zr0_563, zr0_564, zr0_565, zr0_566, zr0_567, zr0_568, zr0_569, zr0_572, zr0_575, zr0_576, zs_1000 N, zs_x0 N, zs_m0 N, zq_kill_int, zq_kill_ref, zq_kill_ret, zq_kill_null, zq_kill_long, zq_rf_some, zq_rf_none, true_and, and_true, true_implies, not_true_eq_false, not_false_eq_true, false_implies, Bool.true_eq_false, Bool.false_eq_true, nI_1, zb_i0, zb_i1, zb_i2, Option.toList_some, Option.toList_none, List.cons_append, List.nil_append, true_or, or_true, implies_true, zb_p2, zb_p3, zb_p4, zb_p5, e1, k1, e2, eq_self, lg_cmp_self, x1, y1, x2, y2]
theorem law_c11 (h : Sim hi hl ca cb cs W P D) (hN : i + 6 ≤ N) (hN2 : N ≤ 384) : law_st N ca cb cs hi hl i 577 := by
  have pr : zq_pair N 49 162 [.ref 0, .int (hi 1000 (i + 1)), .int (hi 1000 (i + 2))] [.ref 60, .int (hi 1000 (i + 1)), .int (hi 1000 (i + 2))] := p_mark
  obtain ⟨v, hi1, hl1, ca1, cb1, cs1, hi2, hl2, W2, P2, D2, e1, e2, hS⟩ := pr hi hl ca cb cs W P D h
  obtain ⟨y, ey⟩ := zq_P_int zt49 e1
  cases ey
  have k1 : hi1 1000 = hi 1000 := zq_P_kp (g := (zq_SG N, hi, hl, zq_HR ca cb cs)) zq_SG_le e1
  have k2 : hi2 1000 = hi1 1000 := zq_P_kp (g := (zq_SG N, hi1, hl1, zq_HR ca1 cb1 cs1)) zq_SG_le e2
  refine ⟨hi2, hl2, ca1, cb1, cs1, W2, P2, D2, k2.trans k1, hS, fun Q => ?_⟩
  have x1 : zq_xS (nI (i + 1)) N := zb_x (by omega) (by omega)
  have y1 : (nI (i + 1)).toNatClampNeg = i + 1 := zb_cl (by omega)
  have x2 : zq_xS (nI (i + 2)) N := zb_x (by omega) (by omega)
  have y2 : (nI (i + 2)).toNatClampNeg = i + 2 := zb_cl (by omega)
  simp only [zr0_577, zr0_578, zr0_579, zr0_580, zr0_581, zr0_582, zr0_583, zr0_584, zr0_585, zr0_586, zr0_587, zr0_588, zr0_591, zr0_592, zr0_593, zr0_594, zr0_595, zr0_596, zr0_597, zr0_598, zr0_599, zr0_600, zr0_601, zr0_602, zr0_605, zr0_608, zr0_609, zs_1000 N, zs_x0 N, zs_m0 N, zq_kill_int, zq_kill_ref, zq_kill_ret, zq_kill_null, zq_kill_long, zq_rf_some, zq_rf_none, true_and, and_true, true_implies, not_true_eq_false, not_false_eq_true, false_implies, Bool.true_eq_false, Bool.false_eq_true, nI_1, zb_i0, zb_i1, zb_i2, Option.toList_some, Option.toList_none, List.cons_append, List.nil_append, true_or, or_true, implies_true, zb_p2, zb_p3, zb_p4, zb_p5, e1, k1, e2, eq_self, lg_cmp_self, x1, y1, x2, y2]
theorem law_c12 (h : Sim hi hl ca cb cs W P D) (hN : i + 6 ≤ N) (hN2 : N ≤ 384) : law_st N ca cb cs hi hl i 610 := by
  have pr : zq_pair N 52 166 [.ref 0, .int (hi 1000 (i + 1))] [.ref 60, .int (hi 1000 (i + 1))] := p_away
  obtain ⟨v, hi1, hl1, ca1, cb1, cs1, hi2, hl2, W2, P2, D2, e1, e2, hS⟩ := pr hi hl ca cb cs W P D h
  obtain ⟨y, ey⟩ := zq_P_int zt52 e1
  cases ey
  have k1 : hi1 1000 = hi 1000 := zq_P_kp (g := (zq_SG N, hi, hl, zq_HR ca cb cs)) zq_SG_le e1
  have k2 : hi2 1000 = hi1 1000 := zq_P_kp (g := (zq_SG N, hi1, hl1, zq_HR ca1 cb1 cs1)) zq_SG_le e2
  refine ⟨hi2, hl2, ca1, cb1, cs1, W2, P2, D2, k2.trans k1, hS, fun Q => ?_⟩
  have x1 : zq_xS (nI (i + 1)) N := zb_x (by omega) (by omega)
  have y1 : (nI (i + 1)).toNatClampNeg = i + 1 := zb_cl (by omega)
  simp only [zr0_610, zr0_611, zr0_612, zr0_613, zr0_614, zr0_615, zr0_616, zr0_619, zr0_620, zr0_621, zr0_622, zr0_623, zr0_624, zr0_625, zr0_628, zr0_631, zr0_632, zs_1000 N, zs_x0 N, zs_m0 N, zq_kill_int, zq_kill_ref, zq_kill_ret, zq_kill_null, zq_kill_long, zq_rf_some, zq_rf_none, true_and, and_true, true_implies, not_true_eq_false, not_false_eq_true, false_implies, Bool.true_eq_false, Bool.false_eq_true, nI_1, zb_i0, zb_i1, zb_i2, Option.toList_some, Option.toList_none, List.cons_append, List.nil_append, true_or, or_true, implies_true, zb_p2, zb_p3, zb_p4, zb_p5, e1, k1, e2, eq_self, lg_cmp_self, x1, y1]
theorem law_c13 (h : Sim hi hl ca cb cs W P D) (hN : i + 6 ≤ N) (hN2 : N ≤ 384) : law_st N ca cb cs hi hl i 633 := by
  have pr : zq_pair N 53 138 [.ref 0, .int (hi 1000 (i + 1))] [.ref 60, .int (hi 1000 (i + 1))] := p_fall
  obtain ⟨v, hi1, hl1, ca1, cb1, cs1, hi2, hl2, W2, P2, D2, e1, e2, hS⟩ := pr hi hl ca cb cs W P D h
  obtain ⟨y, ey⟩ := zq_P_int zt53 e1
  cases ey
  have k1 : hi1 1000 = hi 1000 := zq_P_kp (g := (zq_SG N, hi, hl, zq_HR ca cb cs)) zq_SG_le e1
  have k2 : hi2 1000 = hi1 1000 := zq_P_kp (g := (zq_SG N, hi1, hl1, zq_HR ca1 cb1 cs1)) zq_SG_le e2
  refine ⟨hi2, hl2, ca1, cb1, cs1, W2, P2, D2, k2.trans k1, hS, fun Q => ?_⟩
  have x1 : zq_xS (nI (i + 1)) N := zb_x (by omega) (by omega)
  have y1 : (nI (i + 1)).toNatClampNeg = i + 1 := zb_cl (by omega)
  simp only [zr0_633, zr0_634, zr0_635, zr0_636, zr0_637, zr0_638, zr0_639, zr0_642, zr0_643, zr0_644, zr0_645, zr0_646, zr0_647, zr0_648, zr0_651, zr0_654, zr0_655, zs_1000 N, zs_x0 N, zs_m0 N, zq_kill_int, zq_kill_ref, zq_kill_ret, zq_kill_null, zq_kill_long, zq_rf_some, zq_rf_none, true_and, and_true, true_implies, not_true_eq_false, not_false_eq_true, false_implies, Bool.true_eq_false, Bool.false_eq_true, nI_1, zb_i0, zb_i1, zb_i2, Option.toList_some, Option.toList_none, List.cons_append, List.nil_append, true_or, or_true, implies_true, zb_p2, zb_p3, zb_p4, zb_p5, e1, k1, e2, eq_self, lg_cmp_self, x1, y1]
theorem law_c14 (h : Sim hi hl ca cb cs W P D) (hN : i + 6 ≤ N) (hN2 : N ≤ 384) : law_st N ca cb cs hi hl i 656 := by
  have pr : zq_pair N 56 154 [.ref 0] [.ref 60] := p_night
  obtain ⟨v, hi1, hl1, ca1, cb1, cs1, hi2, hl2, W2, P2, D2, e1, e2, hS⟩ := pr hi hl ca cb cs W P D h
  obtain ⟨y, ey⟩ := zq_P_int zt56 e1
  cases ey
  have k1 : hi1 1000 = hi 1000 := zq_P_kp (g := (zq_SG N, hi, hl, zq_HR ca cb cs)) zq_SG_le e1
  have k2 : hi2 1000 = hi1 1000 := zq_P_kp (g := (zq_SG N, hi1, hl1, zq_HR ca1 cb1 cs1)) zq_SG_le e2
  refine ⟨hi2, hl2, ca1, cb1, cs1, W2, P2, D2, k2.trans k1, hS, fun Q => ?_⟩
  simp only [zr0_656, zr0_657, zr0_660, zr0_661, zr0_664, zr0_667, zr0_668, zs_1000 N, zs_x0 N, zs_m0 N, zq_kill_int, zq_kill_ref, zq_kill_ret, zq_kill_null, zq_kill_long, zq_rf_some, zq_rf_none, true_and, and_true, true_implies, not_true_eq_false, not_false_eq_true, false_implies, Bool.true_eq_false, Bool.false_eq_true, nI_1, zb_i0, zb_i1, zb_i2, Option.toList_some, Option.toList_none, List.cons_append, List.nil_append, true_or, or_true, implies_true, zb_p2, zb_p3, zb_p4, zb_p5, e1, k1, e2, eq_self, lg_cmp_self]
theorem law_c15 (h : Sim hi hl ca cb cs W P D) (hN : i + 6 ≤ N) (hN2 : N ≤ 384) : law_st N ca cb cs hi hl i 669 := by
  have pr : zq_pair N 57 156 [.ref 0, .int (hi 1000 (i + 1)), .retAddr 0] [.ref 60, .int (hi 1000 (i + 1)), .retAddr 0] := p_undo
  obtain ⟨v, hi1, hl1, ca1, cb1, cs1, hi2, hl2, W2, P2, D2, e1, e2, hS⟩ := pr hi hl ca cb cs W P D h
  obtain ⟨y, ey⟩ := zq_P_int zt57 e1
  cases ey
  have k1 : hi1 1000 = hi 1000 := zq_P_kp (g := (zq_SG N, hi, hl, zq_HR ca cb cs)) zq_SG_le e1
  have k2 : hi2 1000 = hi1 1000 := zq_P_kp (g := (zq_SG N, hi1, hl1, zq_HR ca1 cb1 cs1)) zq_SG_le e2
  refine ⟨hi2, hl2, ca1, cb1, cs1, W2, P2, D2, k2.trans k1, hS, fun Q => ?_⟩
  have x1 : zq_xS (nI (i + 1)) N := zb_x (by omega) (by omega)
  have y1 : (nI (i + 1)).toNatClampNeg = i + 1 := zb_cl (by omega)
  simp only [zr0_669, zr0_670, zr0_671, zr0_672, zr0_673, zr0_674, zr0_675, zr0_678, zr0_679, zr0_680, zr0_681, zr0_682, zr0_683, zr0_684, zr0_687, zr0_690, zr0_691, zs_1000 N, zs_x0 N, zs_m0 N, zq_kill_int, zq_kill_ref, zq_kill_ret, zq_kill_null, zq_kill_long, zq_rf_some, zq_rf_none, true_and, and_true, true_implies, not_true_eq_false, not_false_eq_true, false_implies, Bool.true_eq_false, Bool.false_eq_true, nI_1, zb_i0, zb_i1, zb_i2, Option.toList_some, Option.toList_none, List.cons_append, List.nil_append, true_or, or_true, implies_true, zb_p2, zb_p3, zb_p4, zb_p5, e1, k1, e2, eq_self, lg_cmp_self, x1, y1]
theorem law_c16 (h : Sim hi hl ca cb cs W P D) (hN : i + 6 ≤ N) (hN2 : N ≤ 384) : law_st N ca cb cs hi hl i 692 := by
  have pr : zq_pair N 59 158 [.ref 0, .int (hi 1000 (i + 1))] [.ref 60, .int (hi 1000 (i + 1)), .retAddr 0, .retAddr 0] := p_keep
  obtain ⟨v, hi1, hl1, ca1, cb1, cs1, hi2, hl2, W2, P2, D2, e1, e2, hS⟩ := pr hi hl ca cb cs W P D h
  obtain ⟨y, ey⟩ := zq_P_int zt59 e1
  cases ey
  have k1 : hi1 1000 = hi 1000 := zq_P_kp (g := (zq_SG N, hi, hl, zq_HR ca cb cs)) zq_SG_le e1
  have k2 : hi2 1000 = hi1 1000 := zq_P_kp (g := (zq_SG N, hi1, hl1, zq_HR ca1 cb1 cs1)) zq_SG_le e2
  refine ⟨hi2, hl2, ca1, cb1, cs1, W2, P2, D2, k2.trans k1, hS, fun Q => ?_⟩
  have x1 : zq_xS (nI (i + 1)) N := zb_x (by omega) (by omega)
  have y1 : (nI (i + 1)).toNatClampNeg = i + 1 := zb_cl (by omega)
  simp only [zr0_692, zr0_693, zr0_694, zr0_695, zr0_696, zr0_697, zr0_698, zr0_701, zr0_702, zr0_703, zr0_704, zr0_705, zr0_706, zr0_707, zr0_710, zr0_713, zr0_714, zs_1000 N, zs_x0 N, zs_m0 N, zq_kill_int, zq_kill_ref, zq_kill_ret, zq_kill_null, zq_kill_long, zq_rf_some, zq_rf_none, true_and, and_true, true_implies, not_true_eq_false, not_false_eq_true, false_implies, Bool.true_eq_false, Bool.false_eq_true, nI_1, zb_i0, zb_i1, zb_i2, Option.toList_some, Option.toList_none, List.cons_append, List.nil_append, true_or, or_true, implies_true, zb_p2, zb_p3, zb_p4, zb_p5, e1, k1, e2, eq_self, lg_cmp_self, x1, y1]
theorem law_c17 (h : Sim hi hl ca cb cs W P D) (hN : i + 6 ≤ N) (hN2 : N ≤ 384) : law_st N ca cb cs hi hl i 715 := by
  have pr : zq_pair N 61 159 [.ref 0, .int (hi 1000 (i + 1))] [.ref 60, .int (hi 1000 (i + 1)), .retAddr 0, .retAddr 0] := p_on
  obtain ⟨v, hi1, hl1, ca1, cb1, cs1, hi2, hl2, W2, P2, D2, e1, e2, hS⟩ := pr hi hl ca cb cs W P D h
  obtain ⟨y, ey⟩ := zq_P_int zt61 e1
  cases ey
  have k1 : hi1 1000 = hi 1000 := zq_P_kp (g := (zq_SG N, hi, hl, zq_HR ca cb cs)) zq_SG_le e1
  have k2 : hi2 1000 = hi1 1000 := zq_P_kp (g := (zq_SG N, hi1, hl1, zq_HR ca1 cb1 cs1)) zq_SG_le e2
  refine ⟨hi2, hl2, ca1, cb1, cs1, W2, P2, D2, k2.trans k1, hS, fun Q => ?_⟩
  have x1 : zq_xS (nI (i + 1)) N := zb_x (by omega) (by omega)
  have y1 : (nI (i + 1)).toNatClampNeg = i + 1 := zb_cl (by omega)
  simp only [zr0_715, zr0_716, zr0_717, zr0_718, zr0_719, zr0_720, zr0_721, zr0_724, zr0_725, zr0_726, zr0_727, zr0_728, zr0_729, zr0_730, zr0_733, zr0_736, zr0_737, zs_1000 N, zs_x0 N, zs_m0 N, zq_kill_int, zq_kill_ref, zq_kill_ret, zq_kill_null, zq_kill_long, zq_rf_some, zq_rf_none, true_and, and_true, true_implies, not_true_eq_false, not_false_eq_true, false_implies, Bool.true_eq_false, Bool.false_eq_true, nI_1, zb_i0, zb_i1, zb_i2, Option.toList_some, Option.toList_none, List.cons_append, List.nil_append, true_or, or_true, implies_true, zb_p2, zb_p3, zb_p4, zb_p5, e1, k1, e2, eq_self, lg_cmp_self, x1, y1]
theorem law_c18 (h : Sim hi hl ca cb cs W P D) (hN : i + 6 ≤ N) (hN2 : N ≤ 384) : law_st N ca cb cs hi hl i 738 := by
  have pr : zq_pair N 62 167 [.ref 0] [.ref 60] := p_can
  obtain ⟨v, hi1, hl1, ca1, cb1, cs1, hi2, hl2, W2, P2, D2, e1, e2, hS⟩ := pr hi hl ca cb cs W P D h
  obtain ⟨y, ey⟩ := zq_P_int zt62 e1
  cases ey
  have k1 : hi1 1000 = hi 1000 := zq_P_kp (g := (zq_SG N, hi, hl, zq_HR ca cb cs)) zq_SG_le e1
  have k2 : hi2 1000 = hi1 1000 := zq_P_kp (g := (zq_SG N, hi1, hl1, zq_HR ca1 cb1 cs1)) zq_SG_le e2
  refine ⟨hi2, hl2, ca1, cb1, cs1, W2, P2, D2, k2.trans k1, hS, fun Q => ?_⟩
  simp only [zr0_738, zr0_739, zr0_742, zr0_743, zr0_746, zr0_749, zr0_750, zs_1000 N, zs_x0 N, zs_m0 N, zq_kill_int, zq_kill_ref, zq_kill_ret, zq_kill_null, zq_kill_long, zq_rf_some, zq_rf_none, true_and, and_true, true_implies, not_true_eq_false, not_false_eq_true, false_implies, Bool.true_eq_false, Bool.false_eq_true, nI_1, zb_i0, zb_i1, zb_i2, Option.toList_some, Option.toList_none, List.cons_append, List.nil_append, true_or, or_true, implies_true, zb_p2, zb_p3, zb_p4, zb_p5, e1, k1, e2, eq_self, lg_cmp_self]
theorem law_c19 (h : Sim hi hl ca cb cs W P D) (hN : i + 6 ≤ N) (hN2 : N ≤ 384) : law_st N ca cb cs hi hl i 751 := by
  have pr : zq_pair N 63 169 [.ref 0, .int (hi 1000 (i + 1))] [.ref 60, .int (hi 1000 (i + 1))] := p_plans
  obtain ⟨v, hi1, hl1, ca1, cb1, cs1, hi2, hl2, W2, P2, D2, e1, e2, hS⟩ := pr hi hl ca cb cs W P D h
  obtain ⟨y, ey⟩ := zq_P_int zt63 e1
  cases ey
  have k1 : hi1 1000 = hi 1000 := zq_P_kp (g := (zq_SG N, hi, hl, zq_HR ca cb cs)) zq_SG_le e1
  have k2 : hi2 1000 = hi1 1000 := zq_P_kp (g := (zq_SG N, hi1, hl1, zq_HR ca1 cb1 cs1)) zq_SG_le e2
  refine ⟨hi2, hl2, ca1, cb1, cs1, W2, P2, D2, k2.trans k1, hS, fun Q => ?_⟩
  have x1 : zq_xS (nI (i + 1)) N := zb_x (by omega) (by omega)
  have y1 : (nI (i + 1)).toNatClampNeg = i + 1 := zb_cl (by omega)
  simp only [zr0_751, zr0_752, zr0_753, zr0_754, zr0_755, zr0_756, zr0_757, zr0_760, zr0_761, zr0_762, zr0_763, zr0_764, zr0_765, zr0_766, zr0_769, zr0_772, zr0_773, zs_1000 N, zs_x0 N, zs_m0 N, zq_kill_int, zq_kill_ref, zq_kill_ret, zq_kill_null, zq_kill_long, zq_rf_some, zq_rf_none, true_and, and_true, true_implies, not_true_eq_false, not_false_eq_true, false_implies, Bool.true_eq_false, Bool.false_eq_true, nI_1, zb_i0, zb_i1, zb_i2, Option.toList_some, Option.toList_none, List.cons_append, List.nil_append, true_or, or_true, implies_true, zb_p2, zb_p3, zb_p4, zb_p5, e1, k1, e2, eq_self, lg_cmp_self, x1, y1]
theorem law_c20 (h : Sim hi hl ca cb cs W P D) (hN : i + 6 ≤ N) (hN2 : N ≤ 384) : law_st N ca cb cs hi hl i 774 := by
  have pr : zq_pair N 71 176 [.ref 0, .int (hi 1000 (i + 1)), .int (hi 1000 (i + 2)), .retAddr 0] [.ref 60, .int (hi 1000 (i + 1)), .int (hi 1000 (i + 2))] := p_least
  obtain ⟨v, hi1, hl1, ca1, cb1, cs1, hi2, hl2, W2, P2, D2, e1, e2, hS⟩ := pr hi hl ca cb cs W P D h
  obtain ⟨y, ey⟩ := zq_P_int zt71 e1
  cases ey
  have k1 : hi1 1000 = hi 1000 := zq_P_kp (g := (zq_SG N, hi, hl, zq_HR ca cb cs)) zq_SG_le e1
  have k2 : hi2 1000 = hi1 1000 := zq_P_kp (g := (zq_SG N, hi1, hl1, zq_HR ca1 cb1 cs1)) zq_SG_le e2
  refine ⟨hi2, hl2, ca1, cb1, cs1, W2, P2, D2, k2.trans k1, hS, fun Q => ?_⟩
  have x1 : zq_xS (nI (i + 1)) N := zb_x (by omega) (by omega)
  have y1 : (nI (i + 1)).toNatClampNeg = i + 1 := zb_cl (by omega)
  have x2 : zq_xS (nI (i + 2)) N := zb_x (by omega) (by omega)
  have y2 : (nI (i + 2)).toNatClampNeg = i + 2 := zb_cl (by omega)
  simp only [zr0_774, zr0_775, zr0_776, zr0_777, zr0_778, zr0_779, zr0_780, zr0_781, zr0_782, zr0_783, zr0_784, zr0_785, zr0_788, zr0_789, zr0_790, zr0_791, zr0_792, zr0_793, zr0_794, zr0_795, zr0_796, zr0_797, zr0_798, zr0_799, zr0_802, zr0_805, zr0_806, zs_1000 N, zs_x0 N, zs_m0 N, zq_kill_int, zq_kill_ref, zq_kill_ret, zq_kill_null, zq_kill_long, zq_rf_some, zq_rf_none, true_and, and_true, true_implies, not_true_eq_false, not_false_eq_true, false_implies, Bool.true_eq_false, Bool.false_eq_true, nI_1, zb_i0, zb_i1, zb_i2, Option.toList_some, Option.toList_none, List.cons_append, List.nil_append, true_or, or_true, implies_true, zb_p2, zb_p3, zb_p4, zb_p5, e1, k1, e2, eq_self, lg_cmp_self, x1, y1, x2, y2]
theorem law_c21 (h : Sim hi hl ca cb cs W P D) (hN : i + 6 ≤ N) (hN2 : N ≤ 384) : law_st N ca cb cs hi hl i 807 := by
  have pr : zq_pair N 74 178 [.ref 0, .int (hi 1000 (i + 1)), .retAddr 0, .retAddr 0] [.ref 60, .int (hi 1000 (i + 1))] := p_longest
  obtain ⟨v, hi1, hl1, ca1, cb1, cs1, hi2, hl2, W2, P2, D2, e1, e2, hS⟩ := pr hi hl ca cb cs W P D h
  obtain ⟨y, ey⟩ := zq_P_int zt74 e1
  cases ey
  have k1 : hi1 1000 = hi 1000 := zq_P_kp (g := (zq_SG N, hi, hl, zq_HR ca cb cs)) zq_SG_le e1
  have k2 : hi2 1000 = hi1 1000 := zq_P_kp (g := (zq_SG N, hi1, hl1, zq_HR ca1 cb1 cs1)) zq_SG_le e2
  refine ⟨hi2, hl2, ca1, cb1, cs1, W2, P2, D2, k2.trans k1, hS, fun Q => ?_⟩
  have x1 : zq_xS (nI (i + 1)) N := zb_x (by omega) (by omega)
  have y1 : (nI (i + 1)).toNatClampNeg = i + 1 := zb_cl (by omega)
  simp only [zr0_807, zr0_808, zr0_809, zr0_810, zr0_811, zr0_812, zr0_813, zr0_816, zr0_817, zr0_818, zr0_819, zr0_820, zr0_821, zr0_822, zr0_825, zr0_828, zr0_829, zs_1000 N, zs_x0 N, zs_m0 N, zq_kill_int, zq_kill_ref, zq_kill_ret, zq_kill_null, zq_kill_long, zq_rf_some, zq_rf_none, true_and, and_true, true_implies, not_true_eq_false, not_false_eq_true, false_implies, Bool.true_eq_false, Bool.false_eq_true, nI_1, zb_i0, zb_i1, zb_i2, Option.toList_some, Option.toList_none, List.cons_append, List.nil_append, true_or, or_true, implies_true, zb_p2, zb_p3, zb_p4, zb_p5, e1, k1, e2, eq_self, lg_cmp_self, x1, y1]
theorem law_c22 (h : Sim hi hl ca cb cs W P D) (hN : i + 6 ≤ N) (hN2 : N ≤ 384) : law_st N ca cb cs hi hl i 830 := by
  have pr : zq_pair N 76 179 [.ref 0, .int (hi 1000 (i + 1)), .retAddr 0, .retAddr 0] [.ref 60, .int (hi 1000 (i + 1)), .retAddr 0] := p_goes
  obtain ⟨v, hi1, hl1, ca1, cb1, cs1, hi2, hl2, W2, P2, D2, e1, e2, hS⟩ := pr hi hl ca cb cs W P D h
  obtain ⟨y, ey⟩ := zq_P_int zt76 e1
  cases ey
  have k1 : hi1 1000 = hi 1000 := zq_P_kp (g := (zq_SG N, hi, hl, zq_HR ca cb cs)) zq_SG_le e1
  have k2 : hi2 1000 = hi1 1000 := zq_P_kp (g := (zq_SG N, hi1, hl1, zq_HR ca1 cb1 cs1)) zq_SG_le e2
  refine ⟨hi2, hl2, ca1, cb1, cs1, W2, P2, D2, k2.trans k1, hS, fun Q => ?_⟩
  have x1 : zq_xS (nI (i + 1)) N := zb_x (by omega) (by omega)
  have y1 : (nI (i + 1)).toNatClampNeg = i + 1 := zb_cl (by omega)
  simp only [zr0_830, zr0_831, zr0_832, zr0_833, zr0_834, zr0_835, zr0_836, zr0_839, zr0_840, zr0_841, zr0_842, zr0_843, zr0_844, zr0_845, zr0_848, zr0_851, zr0_852, zs_1000 N, zs_x0 N, zs_m0 N, zq_kill_int, zq_kill_ref, zq_kill_ret, zq_kill_null, zq_kill_long, zq_rf_some, zq_rf_none, true_and, and_true, true_implies, not_true_eq_false, not_false_eq_true, false_implies, Bool.true_eq_false, Bool.false_eq_true, nI_1, zb_i0, zb_i1, zb_i2, Option.toList_some, Option.toList_none, List.cons_append, List.nil_append, true_or, or_true, implies_true, zb_p2, zb_p3, zb_p4, zb_p5, e1, k1, e2, eq_self, lg_cmp_self, x1, y1]
theorem law_c23 (h : Sim hi hl ca cb cs W P D) (hN : i + 6 ≤ N) (hN2 : N ≤ 384) : law_st N ca cb cs hi hl i 853 := by
  have pr : zq_pair N 77 182 [.ref 0, .int (hi 1000 (i + 1)), .retAddr 0, .retAddr 0] [.ref 60, .int (hi 1000 (i + 1)), .retAddr 0, .retAddr 0, .retAddr 0] := p_lasts
  obtain ⟨v, hi1, hl1, ca1, cb1, cs1, hi2, hl2, W2, P2, D2, e1, e2, hS⟩ := pr hi hl ca cb cs W P D h
  obtain ⟨y, ey⟩ := zq_P_int zt77 e1
  cases ey
  have k1 : hi1 1000 = hi 1000 := zq_P_kp (g := (zq_SG N, hi, hl, zq_HR ca cb cs)) zq_SG_le e1
  have k2 : hi2 1000 = hi1 1000 := zq_P_kp (g := (zq_SG N, hi1, hl1, zq_HR ca1 cb1 cs1)) zq_SG_le e2
  refine ⟨hi2, hl2, ca1, cb1, cs1, W2, P2, D2, k2.trans k1, hS, fun Q => ?_⟩
  have x1 : zq_xS (nI (i + 1)) N := zb_x (by omega) (by omega)
  have y1 : (nI (i + 1)).toNatClampNeg = i + 1 := zb_cl (by omega)
  simp only [zr0_853, zr0_854, zr0_855, zr0_856, zr0_857, zr0_858, zr0_859, zr0_862, zr0_863, zr0_864, zr0_865, zr0_866, zr0_867, zr0_868, zr0_871, zr0_874, zr0_875, zs_1000 N, zs_x0 N, zs_m0 N, zq_kill_int, zq_kill_ref, zq_kill_ret, zq_kill_null, zq_kill_long, zq_rf_some, zq_rf_none, true_and, and_true, true_implies, not_true_eq_false, not_false_eq_true, false_implies, Bool.true_eq_false, Bool.false_eq_true, nI_1, zb_i0, zb_i1, zb_i2, Option.toList_some, Option.toList_none, List.cons_append, List.nil_append, true_or, or_true, implies_true, zb_p2, zb_p3, zb_p4, zb_p5, e1, k1, e2, eq_self, lg_cmp_self, x1, y1]
theorem law_c24 (h : Sim hi hl ca cb cs W P D) (hN : i + 6 ≤ N) (hN2 : N ≤ 384) : law_st N ca cb cs hi hl i 876 := by
  have pr : zq_pair N 80 184 [.ref 0, .int (hi 1000 (i + 1))] [.ref 60, .int (hi 1000 (i + 1)), .retAddr 0, .retAddr 0, .retAddr 0] := p_takes
  obtain ⟨v, hi1, hl1, ca1, cb1, cs1, hi2, hl2, W2, P2, D2, e1, e2, hS⟩ := pr hi hl ca cb cs W P D h
  obtain ⟨y, ey⟩ := zq_P_int zt80 e1
  cases ey
  have k1 : hi1 1000 = hi 1000 := zq_P_kp (g := (zq_SG N, hi, hl, zq_HR ca cb cs)) zq_SG_le e1
  have k2 : hi2 1000 = hi1 1000 := zq_P_kp (g := (zq_SG N, hi1, hl1, zq_HR ca1 cb1 cs1)) zq_SG_le e2
  refine ⟨hi2, hl2, ca1, cb1, cs1, W2, P2, D2, k2.trans k1, hS, fun Q => ?_⟩
  have x1 : zq_xS (nI (i + 1)) N := zb_x (by omega) (by omega)
  have y1 : (nI (i + 1)).toNatClampNeg = i + 1 := zb_cl (by omega)
  simp only [zr0_876, zr0_877, zr0_878, zr0_879, zr0_880, zr0_881, zr0_882, zr0_885, zr0_886, zr0_887, zr0_888, zr0_889, zr0_890, zr0_891, zr0_894, zr0_897, zr0_898, zs_1000 N, zs_x0 N, zs_m0 N, zq_kill_int, zq_kill_ref, zq_kill_ret, zq_kill_null, zq_kill_long, zq_rf_some, zq_rf_none, true_and, and_true, true_implies, not_true_eq_false, not_false_eq_true, false_implies, Bool.true_eq_false, Bool.false_eq_true, nI_1, zb_i0, zb_i1, zb_i2, Option.toList_some, Option.toList_none, List.cons_append, List.nil_append, true_or, or_true, implies_true, zb_p2, zb_p3, zb_p4, zb_p5, e1, k1, e2, eq_self, lg_cmp_self, x1, y1]
theorem law_c25 (h : Sim hi hl ca cb cs W P D) (hN : i + 6 ≤ N) (hN2 : N ≤ 384) : law_st N ca cb cs hi hl i 899 := by
  have pr : zq_pair N 83 185 [.ref 0, .int (hi 1000 (i + 1)), .retAddr 0, .retAddr 0, .retAddr 0, .retAddr 0, .retAddr 0] [.ref 60, .int (hi 1000 (i + 1)), .retAddr 0, .retAddr 0, .retAddr 0, .retAddr 0, .retAddr 0, .retAddr 0] := p_rounds
  obtain ⟨v, hi1, hl1, ca1, cb1, cs1, hi2, hl2, W2, P2, D2, e1, e2, hS⟩ := pr hi hl ca cb cs W P D h
  obtain ⟨y, ey⟩ := zq_P_int zt83 e1
  cases ey
  have k1 : hi1 1000 = hi 1000 := zq_P_kp (g := (zq_SG N, hi, hl, zq_HR ca cb cs)) zq_SG_le e1
  have k2 : hi2 1000 = hi1 1000 := zq_P_kp (g := (zq_SG N, hi1, hl1, zq_HR ca1 cb1 cs1)) zq_SG_le e2
  refine ⟨hi2, hl2, ca1, cb1, cs1, W2, P2, D2, k2.trans k1, hS, fun Q => ?_⟩
  have x1 : zq_xS (nI (i + 1)) N := zb_x (by omega) (by omega)
  have y1 : (nI (i + 1)).toNatClampNeg = i + 1 := zb_cl (by omega)
  simp only [zr0_899, zr0_900, zr0_901, zr0_902, zr0_903, zr0_904, zr0_905, zr0_908, zr0_909, zr0_910, zr0_911, zr0_912, zr0_913, zr0_914, zr0_917, zr0_920, zr0_921, zs_1000 N, zs_x0 N, zs_m0 N, zq_kill_int, zq_kill_ref, zq_kill_ret, zq_kill_null, zq_kill_long, zq_rf_some, zq_rf_none, true_and, and_true, true_implies, not_true_eq_false, not_false_eq_true, false_implies, Bool.true_eq_false, Bool.false_eq_true, nI_1, zb_i0, zb_i1, zb_i2, Option.toList_some, Option.toList_none, List.cons_append, List.nil_append, true_or, or_true, implies_true, zb_p2, zb_p3, zb_p4, zb_p5, e1, k1, e2, eq_self, lg_cmp_self, x1, y1]
theorem law_c26 (h : Sim hi hl ca cb cs W P D) (hN : i + 6 ≤ N) (hN2 : N ≤ 384) : law_st N ca cb cs hi hl i 922 := by
  have pr : zq_pair N 87 187 [.ref 0, .int (hi 1000 (i + 1)), .int (hi 1000 (i + 2)), .retAddr 0, .retAddr 0] [.ref 60, .int (hi 1000 (i + 1)), .int (hi 1000 (i + 2)), .retAddr 0, .retAddr 0, .retAddr 0] := p_lost
  obtain ⟨v, hi1, hl1, ca1, cb1, cs1, hi2, hl2, W2, P2, D2, e1, e2, hS⟩ := pr hi hl ca cb cs W P D h
  obtain ⟨y, ey⟩ := zq_P_int zt87 e1
  cases ey
  have k1 : hi1 1000 = hi 1000 := zq_P_kp (g := (zq_SG N, hi, hl, zq_HR ca cb cs)) zq_SG_le e1
  have k2 : hi2 1000 = hi1 1000 := zq_P_kp (g := (zq_SG N, hi1, hl1, zq_HR ca1 cb1 cs1)) zq_SG_le e2
  refine ⟨hi2, hl2, ca1, cb1, cs1, W2, P2, D2, k2.trans k1, hS, fun Q => ?_⟩
  have x1 : zq_xS (nI (i + 1)) N := zb_x (by omega) (by omega)
  have y1 : (nI (i + 1)).toNatClampNeg = i + 1 := zb_cl (by omega)
  have x2 : zq_xS (nI (i + 2)) N := zb_x (by omega) (by omega)
  have y2 : (nI (i + 2)).toNatClampNeg = i + 2 := zb_cl (by omega)
  simp only [zr0_922, zr0_923, zr0_924, zr0_925, zr0_926, zr0_927, zr0_928, zr0_929, zr0_930, zr0_931, zr0_932, zr0_933, zr0_936, zr0_937, zr0_938, zr0_939, zr0_940, zr0_941, zr0_942, zr0_943, zr0_944, zr0_945, zr0_946, zr0_947, zr0_950, zr0_953, zr0_954, zs_1000 N, zs_x0 N, zs_m0 N, zq_kill_int, zq_kill_ref, zq_kill_ret, zq_kill_null, zq_kill_long, zq_rf_some, zq_rf_none, true_and, and_true, true_implies, not_true_eq_false, not_false_eq_true, false_implies, Bool.true_eq_false, Bool.false_eq_true, nI_1, zb_i0, zb_i1, zb_i2, Option.toList_some, Option.toList_none, List.cons_append, List.nil_append, true_or, or_true, implies_true, zb_p2, zb_p3, zb_p4, zb_p5, e1, k1, e2, eq_self, lg_cmp_self, x1, y1, x2, y2]
theorem law_c27 (h : Sim hi hl ca cb cs W P D) (hN : i + 6 ≤ N) (hN2 : N ≤ 384) : law_st N ca cb cs hi hl i 955 := by
  have pr : zq_pair N 88 188 [.ref 0, .int (hi 1000 (i + 1)), .int (hi 1000 (i + 2)), .int (hi 1000 (i + 3)), .int (hi 1000 (i + 4)), .retAddr 0, .retAddr 0] [.ref 60, .int (hi 1000 (i + 1)), .int (hi 1000 (i + 2)), .int (hi 1000 (i + 3)), .int (hi 1000 (i + 4)), .retAddr 0, .retAddr 0, .retAddr 0] := p_kinds
  obtain ⟨v, hi1, hl1, ca1, cb1, cs1, hi2, hl2, W2, P2, D2, e1, e2, hS⟩ := pr hi hl ca cb cs W P D h
  obtain ⟨y, ey⟩ := zq_P_int zt88 e1
  cases ey
  have k1 : hi1 1000 = hi 1000 := zq_P_kp (g := (zq_SG N, hi, hl, zq_HR ca cb cs)) zq_SG_le e1
  have k2 : hi2 1000 = hi1 1000 := zq_P_kp (g := (zq_SG N, hi1, hl1, zq_HR ca1 cb1 cs1)) zq_SG_le e2
  refine ⟨hi2, hl2, ca1, cb1, cs1, W2, P2, D2, k2.trans k1, hS, fun Q => ?_⟩
  have x1 : zq_xS (nI (i + 1)) N := zb_x (by omega) (by omega)
  have y1 : (nI (i + 1)).toNatClampNeg = i + 1 := zb_cl (by omega)
  have x2 : zq_xS (nI (i + 2)) N := zb_x (by omega) (by omega)
  have y2 : (nI (i + 2)).toNatClampNeg = i + 2 := zb_cl (by omega)
  have x3 : zq_xS (nI (i + 3)) N := zb_x (by omega) (by omega)
  have y3 : (nI (i + 3)).toNatClampNeg = i + 3 := zb_cl (by omega)
  have x4 : zq_xS (nI (i + 4)) N := zb_x (by omega) (by omega)
  have y4 : (nI (i + 4)).toNatClampNeg = i + 4 := zb_cl (by omega)
  simp only [zr0_955, zr0_956, zr0_957, zr0_958, zr0_959, zr0_960, zr0_961, zr0_962, zr0_963, zr0_964, zr0_965, zr0_966, zr0_967, zr0_968, zr0_969, zr0_970, zr0_971, zr0_972, zr0_973, zr0_974, zr0_975, zr0_976, zr0_979, zr0_980, zr0_981, zr0_982, zr0_983, zr0_984, zr0_985, zr0_986, zr0_987, zr0_988, zr0_989, zr0_990, zr0_991, zr0_992, zr0_993, zr0_994, zr0_995, zr0_996, zr0_997, zr0_998, zr0_999, zr0_1000, zr0_1003, zr0_1006, zr0_1007, zs_1000 N, zs_x0 N, zs_m0 N, zq_kill_int, zq_kill_ref, zq_kill_ret, zq_kill_null, zq_kill_long, zq_rf_some, zq_rf_none, true_and, and_true, true_implies, not_true_eq_false, not_false_eq_true, false_implies, Bool.true_eq_false, Bool.false_eq_true, nI_1, zb_i0, zb_i1, zb_i2, Option.toList_some, Option.toList_none, List.cons_append, List.nil_append, true_or, or_true, implies_true, zb_p2, zb_p3, zb_p4, zb_p5, e1, k1, e2, eq_self, lg_cmp_self, x1, y1, x2, y2, x3, y3, x4, y4]
theorem law_c28 (h : Sim hi hl ca cb cs W P D) (hN : i + 6 ≤ N) (hN2 : N ≤ 384) : law_st N ca cb cs hi hl i 1008 := by
  have pr : zq_pair N 89 189 [.ref 0, .int (hi 1000 (i + 1))] [.ref 60, .int (hi 1000 (i + 1)), .retAddr 0, .retAddr 0, .retAddr 0, .retAddr 0, .retAddr 0, .retAddr 0] := p_strikes
  obtain ⟨v, hi1, hl1, ca1, cb1, cs1, hi2, hl2, W2, P2, D2, e1, e2, hS⟩ := pr hi hl ca cb cs W P D h
  obtain ⟨y, ey⟩ := zq_P_int zt89 e1
  cases ey
  have k1 : hi1 1000 = hi 1000 := zq_P_kp (g := (zq_SG N, hi, hl, zq_HR ca cb cs)) zq_SG_le e1
  have k2 : hi2 1000 = hi1 1000 := zq_P_kp (g := (zq_SG N, hi1, hl1, zq_HR ca1 cb1 cs1)) zq_SG_le e2
  refine ⟨hi2, hl2, ca1, cb1, cs1, W2, P2, D2, k2.trans k1, hS, fun Q => ?_⟩
  have x1 : zq_xS (nI (i + 1)) N := zb_x (by omega) (by omega)
  have y1 : (nI (i + 1)).toNatClampNeg = i + 1 := zb_cl (by omega)
  simp only [zr0_1008, zr0_1009, zr0_1010, zr0_1011, zr0_1012, zr0_1013, zr0_1014, zr0_1017, zr0_1018, zr0_1019, zr0_1020, zr0_1021, zr0_1022, zr0_1023, zr0_1026, zr0_1029, zr0_1030, zs_1000 N, zs_x0 N, zs_m0 N, zq_kill_int, zq_kill_ref, zq_kill_ret, zq_kill_null, zq_kill_long, zq_rf_some, zq_rf_none, true_and, and_true, true_implies, not_true_eq_false, not_false_eq_true, false_implies, Bool.true_eq_false, Bool.false_eq_true, nI_1, zb_i0, zb_i1, zb_i2, Option.toList_some, Option.toList_none, List.cons_append, List.nil_append, true_or, or_true, implies_true, zb_p2, zb_p3, zb_p4, zb_p5, e1, k1, e2, eq_self, lg_cmp_self, x1, y1]
theorem law_c29 (h : Sim hi hl ca cb cs W P D) (hN : i + 6 ≤ N) (hN2 : N ≤ 384) : law_st N ca cb cs hi hl i 1031 := by
  have pr : zq_pair N 92 193 [.ref 0, .int (hi 1000 (i + 1))] [.ref 60, .int (hi 1000 (i + 1))] := p_odds
  obtain ⟨v, hi1, hl1, ca1, cb1, cs1, hi2, hl2, W2, P2, D2, e1, e2, hS⟩ := pr hi hl ca cb cs W P D h
  obtain ⟨y, ey⟩ := zq_P_int zt92 e1
  cases ey
  have k1 : hi1 1000 = hi 1000 := zq_P_kp (g := (zq_SG N, hi, hl, zq_HR ca cb cs)) zq_SG_le e1
  have k2 : hi2 1000 = hi1 1000 := zq_P_kp (g := (zq_SG N, hi1, hl1, zq_HR ca1 cb1 cs1)) zq_SG_le e2
  refine ⟨hi2, hl2, ca1, cb1, cs1, W2, P2, D2, k2.trans k1, hS, fun Q => ?_⟩
  have x1 : zq_xS (nI (i + 1)) N := zb_x (by omega) (by omega)
  have y1 : (nI (i + 1)).toNatClampNeg = i + 1 := zb_cl (by omega)
  simp only [zr0_1031, zr0_1032, zr0_1033, zr0_1034, zr0_1035, zr0_1036, zr0_1037, zr0_1040, zr0_1041, zr0_1042, zr0_1043, zr0_1044, zr0_1045, zr0_1046, zr0_1049, zr0_1052, zr0_1053, zs_1000 N, zs_x0 N, zs_m0 N, zq_kill_int, zq_kill_ref, zq_kill_ret, zq_kill_null, zq_kill_long, zq_rf_some, zq_rf_none, true_and, and_true, true_implies, not_true_eq_false, not_false_eq_true, false_implies, Bool.true_eq_false, Bool.false_eq_true, nI_1, zb_i0, zb_i1, zb_i2, Option.toList_some, Option.toList_none, List.cons_append, List.nil_append, true_or, or_true, implies_true, zb_p2, zb_p3, zb_p4, zb_p5, e1, k1, e2, eq_self, lg_cmp_self, x1, y1]
theorem law_c30 (h : Sim hi hl ca cb cs W P D) (hN : i + 6 ≤ N) (hN2 : N ≤ 384) : law_st N ca cb cs hi hl i 1054 := by
  have pr : zq_pair N 96 195 [.ref 0, .int (hi 1000 (i + 1))] [.ref 60, .int (hi 1000 (i + 1))] := p_mid
  obtain ⟨v, hi1, hl1, ca1, cb1, cs1, hi2, hl2, W2, P2, D2, e1, e2, hS⟩ := pr hi hl ca cb cs W P D h
  obtain ⟨y, ey⟩ := zq_P_int zt96 e1
  cases ey
  have k1 : hi1 1000 = hi 1000 := zq_P_kp (g := (zq_SG N, hi, hl, zq_HR ca cb cs)) zq_SG_le e1
  have k2 : hi2 1000 = hi1 1000 := zq_P_kp (g := (zq_SG N, hi1, hl1, zq_HR ca1 cb1 cs1)) zq_SG_le e2
  refine ⟨hi2, hl2, ca1, cb1, cs1, W2, P2, D2, k2.trans k1, hS, fun Q => ?_⟩
  have x1 : zq_xS (nI (i + 1)) N := zb_x (by omega) (by omega)
  have y1 : (nI (i + 1)).toNatClampNeg = i + 1 := zb_cl (by omega)
  simp only [zr0_1054, zr0_1055, zr0_1056, zr0_1057, zr0_1058, zr0_1059, zr0_1060, zr0_1063, zr0_1064, zr0_1065, zr0_1066, zr0_1067, zr0_1068, zr0_1069, zr0_1072, zr0_1075, zr0_1076, zs_1000 N, zs_x0 N, zs_m0 N, zq_kill_int, zq_kill_ref, zq_kill_ret, zq_kill_null, zq_kill_long, zq_rf_some, zq_rf_none, true_and, and_true, true_implies, not_true_eq_false, not_false_eq_true, false_implies, Bool.true_eq_false, Bool.false_eq_true, nI_1, zb_i0, zb_i1, zb_i2, Option.toList_some, Option.toList_none, List.cons_append, List.nil_append, true_or, or_true, implies_true, zb_p2, zb_p3, zb_p4, zb_p5, e1, k1, e2, eq_self, lg_cmp_self, x1, y1]
theorem law_c31 (h : Sim hi hl ca cb cs W P D) (hN : i + 6 ≤ N) (hN2 : N ≤ 384) : law_st N ca cb cs hi hl i 1077 := by
  have pr : zq_pair N 97 196 [.ref 0, .int (hi 1000 (i + 1)), .int (hi 1000 (i + 2)), .retAddr 0, .retAddr 0, .retAddr 0, .retAddr 0] [.ref 60, .int (hi 1000 (i + 1)), .int (hi 1000 (i + 2)), .retAddr 0, .retAddr 0, .retAddr 0, .retAddr 0, .retAddr 0, .retAddr 0] := p_lots
  obtain ⟨v, hi1, hl1, ca1, cb1, cs1, hi2, hl2, W2, P2, D2, e1, e2, hS⟩ := pr hi hl ca cb cs W P D h
  obtain ⟨y, ey⟩ := zq_P_int zt97 e1
  cases ey
  have k1 : hi1 1000 = hi 1000 := zq_P_kp (g := (zq_SG N, hi, hl, zq_HR ca cb cs)) zq_SG_le e1
  have k2 : hi2 1000 = hi1 1000 := zq_P_kp (g := (zq_SG N, hi1, hl1, zq_HR ca1 cb1 cs1)) zq_SG_le e2
  refine ⟨hi2, hl2, ca1, cb1, cs1, W2, P2, D2, k2.trans k1, hS, fun Q => ?_⟩
  have x1 : zq_xS (nI (i + 1)) N := zb_x (by omega) (by omega)
  have y1 : (nI (i + 1)).toNatClampNeg = i + 1 := zb_cl (by omega)
  have x2 : zq_xS (nI (i + 2)) N := zb_x (by omega) (by omega)
  have y2 : (nI (i + 2)).toNatClampNeg = i + 2 := zb_cl (by omega)
  simp only [zr0_1077, zr0_1078, zr0_1079, zr0_1080, zr0_1081, zr0_1082, zr0_1083, zr0_1084, zr0_1085, zr0_1086, zr0_1087, zr0_1088, zr0_1091, zr0_1092, zr0_1093, zr0_1094, zr0_1095, zr0_1096, zr0_1097, zr0_1098, zr0_1099, zr0_1100, zr0_1101, zr0_1102, zr0_1105, zr0_1108, zr0_1109, zs_1000 N, zs_x0 N, zs_m0 N, zq_kill_int, zq_kill_ref, zq_kill_ret, zq_kill_null, zq_kill_long, zq_rf_some, zq_rf_none, true_and, and_true, true_implies, not_true_eq_false, not_false_eq_true, false_implies, Bool.true_eq_false, Bool.false_eq_true, nI_1, zb_i0, zb_i1, zb_i2, Option.toList_some, Option.toList_none, List.cons_append, List.nil_append, true_or, or_true, implies_true, zb_p2, zb_p3, zb_p4, zb_p5, e1, k1, e2, eq_self, lg_cmp_self, x1, y1, x2, y2]
theorem law_c32 (h : Sim hi hl ca cb cs W P D) (hN : i + 6 ≤ N) (hN2 : N ≤ 384) : law_st N ca cb cs hi hl i 1110 := by
  have pr : zq_pair N 99 197 [.ref 0] [.ref 60] := p_asked
  obtain ⟨v, hi1, hl1, ca1, cb1, cs1, hi2, hl2, W2, P2, D2, e1, e2, hS⟩ := pr hi hl ca cb cs W P D h
  obtain ⟨y, ey⟩ := zq_P_int zt99 e1
  cases ey
  have k1 : hi1 1000 = hi 1000 := zq_P_kp (g := (zq_SG N, hi, hl, zq_HR ca cb cs)) zq_SG_le e1
  have k2 : hi2 1000 = hi1 1000 := zq_P_kp (g := (zq_SG N, hi1, hl1, zq_HR ca1 cb1 cs1)) zq_SG_le e2
  refine ⟨hi2, hl2, ca1, cb1, cs1, W2, P2, D2, k2.trans k1, hS, fun Q => ?_⟩
  simp only [zr0_1110, zr0_1111, zr0_1114, zr0_1115, zr0_1118, zr0_1121, zr0_1122, zs_1000 N, zs_x0 N, zs_m0 N, zq_kill_int, zq_kill_ref, zq_kill_ret, zq_kill_null, zq_kill_long, zq_rf_some, zq_rf_none, true_and, and_true, true_implies, not_true_eq_false, not_false_eq_true, false_implies, Bool.true_eq_false, Bool.false_eq_true, nI_1, zb_i0, zb_i1, zb_i2, Option.toList_some, Option.toList_none, List.cons_append, List.nil_append, true_or, or_true, implies_true, zb_p2, zb_p3, zb_p4, zb_p5, e1, k1, e2, eq_self, lg_cmp_self]
theorem law_c33 (h : Sim hi hl ca cb cs W P D) (hN : i + 6 ≤ N) (hN2 : N ≤ 384) : law_st N ca cb cs hi hl i 1123 := by
  have pr : zq_pair N 100 198 [.ref 0] [.ref 60] := p_upper
  obtain ⟨v, hi1, hl1, ca1, cb1, cs1, hi2, hl2, W2, P2, D2, e1, e2, hS⟩ := pr hi hl ca cb cs W P D h
  obtain ⟨y, ey⟩ := zq_P_lng zt100 e1
  cases ey
  have k1 : hi1 1000 = hi 1000 := zq_P_kp (g := (zq_SG N, hi, hl, zq_HR ca cb cs)) zq_SG_le e1
  have k2 : hi2 1000 = hi1 1000 := zq_P_kp (g := (zq_SG N, hi1, hl1, zq_HR ca1 cb1 cs1)) zq_SG_le e2
  refine ⟨hi2, hl2, ca1, cb1, cs1, W2, P2, D2, k2.trans k1, hS, fun Q => ?_⟩
  simp only [zr0_1123, zr0_1124, zr0_1127, zr0_1128, zr0_1131, zr0_1132, zr0_1135, zr0_1136, zs_1000 N, zs_x0 N, zs_m0 N, zq_kill_int, zq_kill_ref, zq_kill_ret, zq_kill_null, zq_kill_long, zq_rf_some, zq_rf_none, true_and, and_true, true_implies, not_true_eq_false, not_false_eq_true, false_implies, Bool.true_eq_false, Bool.false_eq_true, nI_1, zb_i0, zb_i1, zb_i2, Option.toList_some, Option.toList_none, List.cons_append, List.nil_append, true_or, or_true, implies_true, zb_p2, zb_p3, zb_p4, zb_p5, e1, k1, e2, eq_self, lg_cmp_self]
theorem law_c34 (h : Sim hi hl ca cb cs W P D) (hN : i + 6 ≤ N) (hN2 : N ≤ 384) : law_st N ca cb cs hi hl i 1137 := by
  have pr : zq_pair N 101 199 [.ref 0] [.ref 60] := p_lower
  obtain ⟨v, hi1, hl1, ca1, cb1, cs1, hi2, hl2, W2, P2, D2, e1, e2, hS⟩ := pr hi hl ca cb cs W P D h
  obtain ⟨y, ey⟩ := zq_P_lng zt101 e1
  cases ey
  have k1 : hi1 1000 = hi 1000 := zq_P_kp (g := (zq_SG N, hi, hl, zq_HR ca cb cs)) zq_SG_le e1
  have k2 : hi2 1000 = hi1 1000 := zq_P_kp (g := (zq_SG N, hi1, hl1, zq_HR ca1 cb1 cs1)) zq_SG_le e2
  refine ⟨hi2, hl2, ca1, cb1, cs1, W2, P2, D2, k2.trans k1, hS, fun Q => ?_⟩
  simp only [zr0_1137, zr0_1138, zr0_1141, zr0_1142, zr0_1145, zr0_1146, zr0_1149, zr0_1150, zs_1000 N, zs_x0 N, zs_m0 N, zq_kill_int, zq_kill_ref, zq_kill_ret, zq_kill_null, zq_kill_long, zq_rf_some, zq_rf_none, true_and, and_true, true_implies, not_true_eq_false, not_false_eq_true, false_implies, Bool.true_eq_false, Bool.false_eq_true, nI_1, zb_i0, zb_i1, zb_i2, Option.toList_some, Option.toList_none, List.cons_append, List.nil_append, true_or, or_true, implies_true, zb_p2, zb_p3, zb_p4, zb_p5, e1, k1, e2, eq_self, lg_cmp_self]
theorem law_c35 (h : Sim hi hl ca cb cs W P D) (hN : i + 6 ≤ N) (hN2 : N ≤ 384) : law_st N ca cb cs hi hl i 1151 := by
  have pr : zq_pair N 102 200 [.ref 0, .int (hi 1000 (i + 1))] [.ref 60, .int (hi 1000 (i + 1))] := p_count
  obtain ⟨v, hi1, hl1, ca1, cb1, cs1, hi2, hl2, W2, P2, D2, e1, e2, hS⟩ := pr hi hl ca cb cs W P D h
  obtain ⟨y, ey⟩ := zq_P_int zt102 e1
  cases ey
  have k1 : hi1 1000 = hi 1000 := zq_P_kp (g := (zq_SG N, hi, hl, zq_HR ca cb cs)) zq_SG_le e1
  have k2 : hi2 1000 = hi1 1000 := zq_P_kp (g := (zq_SG N, hi1, hl1, zq_HR ca1 cb1 cs1)) zq_SG_le e2
  refine ⟨hi2, hl2, ca1, cb1, cs1, W2, P2, D2, k2.trans k1, hS, fun Q => ?_⟩
  have x1 : zq_xS (nI (i + 1)) N := zb_x (by omega) (by omega)
  have y1 : (nI (i + 1)).toNatClampNeg = i + 1 := zb_cl (by omega)
  simp only [zr0_1151, zr0_1152, zr0_1153, zr0_1154, zr0_1155, zr0_1156, zr0_1157, zr0_1160, zr0_1161, zr0_1162, zr0_1163, zr0_1164, zr0_1165, zr0_1166, zr0_1169, zr0_1172, zr0_1173, zs_1000 N, zs_x0 N, zs_m0 N, zq_kill_int, zq_kill_ref, zq_kill_ret, zq_kill_null, zq_kill_long, zq_rf_some, zq_rf_none, true_and, and_true, true_implies, not_true_eq_false, not_false_eq_true, false_implies, Bool.true_eq_false, Bool.false_eq_true, nI_1, zb_i0, zb_i1, zb_i2, Option.toList_some, Option.toList_none, List.cons_append, List.nil_append, true_or, or_true, implies_true, zb_p2, zb_p3, zb_p4, zb_p5, e1, k1, e2, eq_self, lg_cmp_self, x1, y1]
theorem law_c36 (h : Sim hi hl ca cb cs W P D) (hN : i + 6 ≤ N) (hN2 : N ≤ 384) : law_st N ca cb cs hi hl i 1174 := by
  have pr : zq_pair N 105 203 [.ref 0] [.ref 60] := p_finding
  obtain ⟨v, hi1, hl1, ca1, cb1, cs1, hi2, hl2, W2, P2, D2, e1, e2, hS⟩ := pr hi hl ca cb cs W P D h
  obtain ⟨y, ey⟩ := zq_P_int zt105 e1
  cases ey
  have k1 : hi1 1000 = hi 1000 := zq_P_kp (g := (zq_SG N, hi, hl, zq_HR ca cb cs)) zq_SG_le e1
  have k2 : hi2 1000 = hi1 1000 := zq_P_kp (g := (zq_SG N, hi1, hl1, zq_HR ca1 cb1 cs1)) zq_SG_le e2
  refine ⟨hi2, hl2, ca1, cb1, cs1, W2, P2, D2, k2.trans k1, hS, fun Q => ?_⟩
  simp only [zr0_1174, zr0_1175, zr0_1178, zr0_1179, zr0_1182, zr0_1185, zr0_1186, zs_1000 N, zs_x0 N, zs_m0 N, zq_kill_int, zq_kill_ref, zq_kill_ret, zq_kill_null, zq_kill_long, zq_rf_some, zq_rf_none, true_and, and_true, true_implies, not_true_eq_false, not_false_eq_true, false_implies, Bool.true_eq_false, Bool.false_eq_true, nI_1, zb_i0, zb_i1, zb_i2, Option.toList_some, Option.toList_none, List.cons_append, List.nil_append, true_or, or_true, implies_true, zb_p2, zb_p3, zb_p4, zb_p5, e1, k1, e2, eq_self, lg_cmp_self]
theorem law_c37 (h : Sim hi hl ca cb cs W P D) (hN : i + 6 ≤ N) (hN2 : N ≤ 384) : law_st N ca cb cs hi hl i 1187 := by
  have pr : zq_pair N 106 204 [.ref 0, .int (hi 1000 (i + 1))] [.ref 60, .int (hi 1000 (i + 1))] := p_findings
  obtain ⟨v, hi1, hl1, ca1, cb1, cs1, hi2, hl2, W2, P2, D2, e1, e2, hS⟩ := pr hi hl ca cb cs W P D h
  obtain ⟨y, ey⟩ := zq_P_int zt106 e1
  cases ey
  have k1 : hi1 1000 = hi 1000 := zq_P_kp (g := (zq_SG N, hi, hl, zq_HR ca cb cs)) zq_SG_le e1
  have k2 : hi2 1000 = hi1 1000 := zq_P_kp (g := (zq_SG N, hi1, hl1, zq_HR ca1 cb1 cs1)) zq_SG_le e2
  refine ⟨hi2, hl2, ca1, cb1, cs1, W2, P2, D2, k2.trans k1, hS, fun Q => ?_⟩
  have x1 : zq_xS (nI (i + 1)) N := zb_x (by omega) (by omega)
  have y1 : (nI (i + 1)).toNatClampNeg = i + 1 := zb_cl (by omega)
  simp only [zr0_1187, zr0_1188, zr0_1189, zr0_1190, zr0_1191, zr0_1192, zr0_1193, zr0_1196, zr0_1197, zr0_1198, zr0_1199, zr0_1200, zr0_1201, zr0_1202, zr0_1205, zr0_1208, zr0_1209, zs_1000 N, zs_x0 N, zs_m0 N, zq_kill_int, zq_kill_ref, zq_kill_ret, zq_kill_null, zq_kill_long, zq_rf_some, zq_rf_none, true_and, and_true, true_implies, not_true_eq_false, not_false_eq_true, false_implies, Bool.true_eq_false, Bool.false_eq_true, nI_1, zb_i0, zb_i1, zb_i2, Option.toList_some, Option.toList_none, List.cons_append, List.nil_append, true_or, or_true, implies_true, zb_p2, zb_p3, zb_p4, zb_p5, e1, k1, e2, eq_self, lg_cmp_self, x1, y1]
theorem law_c38 (h : Sim hi hl ca cb cs W P D) (hN : i + 6 ≤ N) (hN2 : N ≤ 384) : law_st N ca cb cs hi hl i 1210 := by
  have pr : zq_pair N 107 205 [.ref 0, .retAddr 0, .retAddr 0, .retAddr 0, .retAddr 0] [.ref 60, .retAddr 0, .retAddr 0] := p_digest
  obtain ⟨v, hi1, hl1, ca1, cb1, cs1, hi2, hl2, W2, P2, D2, e1, e2, hS⟩ := pr hi hl ca cb cs W P D h
  obtain ⟨y, ey⟩ := zq_P_lng zt107 e1
  cases ey
  have k1 : hi1 1000 = hi 1000 := zq_P_kp (g := (zq_SG N, hi, hl, zq_HR ca cb cs)) zq_SG_le e1
  have k2 : hi2 1000 = hi1 1000 := zq_P_kp (g := (zq_SG N, hi1, hl1, zq_HR ca1 cb1 cs1)) zq_SG_le e2
  refine ⟨hi2, hl2, ca1, cb1, cs1, W2, P2, D2, k2.trans k1, hS, fun Q => ?_⟩
  simp only [zr0_1210, zr0_1211, zr0_1214, zr0_1215, zr0_1218, zr0_1219, zr0_1222, zr0_1223, zs_1000 N, zs_x0 N, zs_m0 N, zq_kill_int, zq_kill_ref, zq_kill_ret, zq_kill_null, zq_kill_long, zq_rf_some, zq_rf_none, true_and, and_true, true_implies, not_true_eq_false, not_false_eq_true, false_implies, Bool.true_eq_false, Bool.false_eq_true, nI_1, zb_i0, zb_i1, zb_i2, Option.toList_some, Option.toList_none, List.cons_append, List.nil_append, true_or, or_true, implies_true, zb_p2, zb_p3, zb_p4, zb_p5, e1, k1, e2, eq_self, lg_cmp_self]
end Z70
