section
variable {d i : Nat} {xs : List Int32} {M M1 M2 : mH} {Q : Option Value → mH → Prop} {res : Int32}
theorem lc_0 (h0 : M[0]? = some (.inr (7, xs.map .int))) (h0' : M1[0]? = some (.inr (7, xs.map .int))) (hc : mcls M 1 = some 0) (hc' : mcls M1 145 = some 9) (hi : i + 5 < xs.length) (hl : xs.length ≤ 3072) (h1 : ∀ Q, Vc d 1 [rf (some 1), .int (xs.getD (i + 1) 0), .int (xs.getD (i + 2) 0), .int (xs.getD (i + 3) 0), .int (xs.getD (i + 4) 0)] M Q = Q (some (.int res)) M1) (h2 : ∀ Q, Vc d 58 [rf (some 145), .int (xs.getD (i + 1) 0), .int (xs.getD (i + 2) 0), .int (xs.getD (i + 3) 0), .int (xs.getD (i + 4) 0)] M1 Q = Q (some (.int res)) M2) : V (d + 1) 146 92 [some (rf (some 0)), some (rf (some 1)), some (rf (some 145)), some (.int (nI i))] [] M Q = V (d + 1) 146 525 [some (rf (some 0)), some (rf (some 1)), some (rf (some 145)), some (.int (nI i))] [] M2 Q := by
  simp only [s_146_92, s_146_93, s_146_94, s_146_95, s_146_96, s_146_97 h0 (show i + 1 < xs.length by omega) hl, s_146_98, s_146_99, s_146_100, s_146_101, s_146_102 h0 (show i + 2 < xs.length by omega) hl, s_146_103, s_146_104, s_146_105, s_146_106, s_146_107 h0 (show i + 3 < xs.length by omega) hl, s_146_108, s_146_109, s_146_110, s_146_111, s_146_112 h0 (show i + 4 < xs.length by omega) hl, s_146_113 hc, s_146_116, s_146_117, s_146_118, s_146_119, s_146_120, s_146_121 h0' (show i + 1 < xs.length by omega) hl, s_146_122, s_146_123, s_146_124, s_146_125, s_146_126 h0' (show i + 2 < xs.length by omega) hl, s_146_127, s_146_128, s_146_129, s_146_130, s_146_131 h0' (show i + 3 < xs.length by omega) hl, s_146_132, s_146_133, s_146_134, s_146_135, s_146_136 h0' (show i + 4 < xs.length by omega) hl, s_146_137 hc', s_146_140, s_146_143, s_146_144, nI_add, h1, h2, Option.toList_some, List.cons_append, List.nil_append, if_true, eq_self]
theorem lc_1 (h0 : M[0]? = some (.inr (7, xs.map .int))) (h0' : M1[0]? = some (.inr (7, xs.map .int))) (hc : mcls M 1 = some 0) (hc' : mcls M1 145 = some 9) (hi : i + 5 < xs.length) (hl : xs.length ≤ 3072) (h1 : ∀ Q, Vc d 2 [rf (some 1), .int (xs.getD (i + 1) 0), .int (xs.getD (i + 2) 0), .int (xs.getD (i + 3) 0), .int (xs.getD (i + 4) 0), .int (xs.getD (i + 5) 0)] M Q = Q (some (.int res)) M1) (h2 : ∀ Q, Vc d 63 [rf (some 145), .int (xs.getD (i + 1) 0), .int (xs.getD (i + 2) 0), .int (xs.getD (i + 3) 0), .int (xs.getD (i + 4) 0), .int (xs.getD (i + 5) 0)] M1 Q = Q (some (.int res)) M2) : V (d + 1) 146 145 [some (rf (some 0)), some (rf (some 1)), some (rf (some 145)), some (.int (nI i))] [] M Q = V (d + 1) 146 525 [some (rf (some 0)), some (rf (some 1)), some (rf (some 145)), some (.int (nI i))] [] M2 Q := by
  simp only [s_146_145, s_146_146, s_146_147, s_146_148, s_146_149, s_146_150 h0 (show i + 1 < xs.length by omega) hl, s_146_151, s_146_152, s_146_153, s_146_154, s_146_155 h0 (show i + 2 < xs.length by omega) hl, s_146_156, s_146_157, s_146_158, s_146_159, s_146_160 h0 (show i + 3 < xs.length by omega) hl, s_146_161, s_146_162, s_146_163, s_146_164, s_146_165 h0 (show i + 4 < xs.length by omega) hl, s_146_166, s_146_167, s_146_168, s_146_169, s_146_170 h0 (show i + 5 < xs.length by omega) hl, s_146_171 hc, s_146_174, s_146_175, s_146_176, s_146_177, s_146_178, s_146_179 h0' (show i + 1 < xs.length by omega) hl, s_146_180, s_146_181, s_146_182, s_146_183, s_146_184 h0' (show i + 2 < xs.length by omega) hl, s_146_185, s_146_186, s_146_187, s_146_188, s_146_189 h0' (show i + 3 < xs.length by omega) hl, s_146_190, s_146_191, s_146_192, s_146_193, s_146_194 h0' (show i + 4 < xs.length by omega) hl, s_146_195, s_146_196, s_146_197, s_146_198, s_146_199 h0' (show i + 5 < xs.length by omega) hl, s_146_200 hc', s_146_203, s_146_206, s_146_207, nI_add, h1, h2, Option.toList_some, List.cons_append, List.nil_append, if_true, eq_self]
theorem lc_2 (h0 : M[0]? = some (.inr (7, xs.map .int))) (h0' : M1[0]? = some (.inr (7, xs.map .int))) (hc : mcls M 1 = some 0) (hc' : mcls M1 145 = some 9) (hi : i + 5 < xs.length) (hl : xs.length ≤ 3072) (h1 : ∀ Q, Vc d 3 [rf (some 1), .int (xs.getD (i + 1) 0), .int (xs.getD (i + 2) 0), .int (xs.getD (i + 3) 0), .int (xs.getD (i + 4) 0)] M Q = Q (some (.int res)) M1) (h2 : ∀ Q, Vc d 66 [rf (some 145), .int (xs.getD (i + 1) 0), .int (xs.getD (i + 2) 0), .int (xs.getD (i + 3) 0), .int (xs.getD (i + 4) 0)] M1 Q = Q (some (.int res)) M2) : V (d + 1) 146 208 [some (rf (some 0)), some (rf (some 1)), some (rf (some 145)), some (.int (nI i))] [] M Q = V (d + 1) 146 525 [some (rf (some 0)), some (rf (some 1)), some (rf (some 145)), some (.int (nI i))] [] M2 Q := by
  simp only [s_146_208, s_146_209, s_146_210, s_146_211, s_146_212, s_146_213 h0 (show i + 1 < xs.length by omega) hl, s_146_214, s_146_215, s_146_216, s_146_217, s_146_218 h0 (show i + 2 < xs.length by omega) hl, s_146_219, s_146_220, s_146_221, s_146_222, s_146_223 h0 (show i + 3 < xs.length by omega) hl, s_146_224, s_146_225, s_146_226, s_146_227, s_146_228 h0 (show i + 4 < xs.length by omega) hl, s_146_229 hc, s_146_232, s_146_233, s_146_234, s_146_235, s_146_236, s_146_237 h0' (show i + 1 < xs.length by omega) hl, s_146_238, s_146_239, s_146_240, s_146_241, s_146_242 h0' (show i + 2 < xs.length by omega) hl, s_146_243, s_146_244, s_146_245, s_146_246, s_146_247 h0' (show i + 3 < xs.length by omega) hl, s_146_248, s_146_249, s_146_250, s_146_251, s_146_252 h0' (show i + 4 < xs.length by omega) hl, s_146_253 hc', s_146_256, s_146_259, s_146_260, nI_add, h1, h2, Option.toList_some, List.cons_append, List.nil_append, if_true, eq_self]
theorem lc_3 (h0 : M[0]? = some (.inr (7, xs.map .int))) (h0' : M1[0]? = some (.inr (7, xs.map .int))) (hc : mcls M 1 = some 0) (hc' : mcls M1 145 = some 9) (hi : i + 5 < xs.length) (hl : xs.length ≤ 3072) (h1 : ∀ Q, Vc d 4 [rf (some 1), .int (xs.getD (i + 1) 0)] M Q = Q (some (.int res)) M1) (h2 : ∀ Q, Vc d 67 [rf (some 145), .int (xs.getD (i + 1) 0)] M1 Q = Q (some (.int res)) M2) : V (d + 1) 146 261 [some (rf (some 0)), some (rf (some 1)), some (rf (some 145)), some (.int (nI i))] [] M Q = V (d + 1) 146 525 [some (rf (some 0)), some (rf (some 1)), some (rf (some 145)), some (.int (nI i))] [] M2 Q := by
  simp only [s_146_261, s_146_262, s_146_263, s_146_264, s_146_265, s_146_266 h0 (show i + 1 < xs.length by omega) hl, s_146_267 hc, s_146_270, s_146_271, s_146_272, s_146_273, s_146_274, s_146_275 h0' (show i + 1 < xs.length by omega) hl, s_146_276 hc', s_146_279, s_146_282, s_146_283, nI_add, h1, h2, Option.toList_some, List.cons_append, List.nil_append, if_true, eq_self]
theorem lc_4 (h0 : M[0]? = some (.inr (7, xs.map .int))) (h0' : M1[0]? = some (.inr (7, xs.map .int))) (hc : mcls M 1 = some 0) (hc' : mcls M1 145 = some 9) (hi : i + 5 < xs.length) (hl : xs.length ≤ 3072) (h1 : ∀ Q, Vc d 5 [rf (some 1), .int (xs.getD (i + 1) 0), .int (xs.getD (i + 2) 0), .int (xs.getD (i + 3) 0)] M Q = Q (some (.int res)) M1) (h2 : ∀ Q, Vc d 71 [rf (some 145), .int (xs.getD (i + 1) 0), .int (xs.getD (i + 2) 0), .int (xs.getD (i + 3) 0)] M1 Q = Q (some (.int res)) M2) : V (d + 1) 146 284 [some (rf (some 0)), some (rf (some 1)), some (rf (some 145)), some (.int (nI i))] [] M Q = V (d + 1) 146 525 [some (rf (some 0)), some (rf (some 1)), some (rf (some 145)), some (.int (nI i))] [] M2 Q := by
  simp only [s_146_284, s_146_285, s_146_286, s_146_287, s_146_288, s_146_289 h0 (show i + 1 < xs.length by omega) hl, s_146_290, s_146_291, s_146_292, s_146_293, s_146_294 h0 (show i + 2 < xs.length by omega) hl, s_146_295, s_146_296, s_146_297, s_146_298, s_146_299 h0 (show i + 3 < xs.length by omega) hl, s_146_300 hc, s_146_303, s_146_304, s_146_305, s_146_306, s_146_307, s_146_308 h0' (show i + 1 < xs.length by omega) hl, s_146_309, s_146_310, s_146_311, s_146_312, s_146_313 h0' (show i + 2 < xs.length by omega) hl, s_146_314, s_146_315, s_146_316, s_146_317, s_146_318 h0' (show i + 3 < xs.length by omega) hl, s_146_319 hc', s_146_322, s_146_325, s_146_326, nI_add, h1, h2, Option.toList_some, List.cons_append, List.nil_append, if_true, eq_self]
theorem lc_5 (h0 : M[0]? = some (.inr (7, xs.map .int))) (h0' : M1[0]? = some (.inr (7, xs.map .int))) (hc : mcls M 1 = some 0) (hc' : mcls M1 145 = some 9) (hi : i + 5 < xs.length) (hl : xs.length ≤ 3072) (h1 : ∀ Q, Vc d 6 [rf (some 1), .int (xs.getD (i + 1) 0), .int (xs.getD (i + 2) 0), .int (xs.getD (i + 3) 0), .int (xs.getD (i + 4) 0)] M Q = Q (some (.int res)) M1) (h2 : ∀ Q, Vc d 84 [rf (some 145), .int (xs.getD (i + 1) 0), .int (xs.getD (i + 2) 0), .int (xs.getD (i + 3) 0), .int (xs.getD (i + 4) 0)] M1 Q = Q (some (.int res)) M2) : V (d + 1) 146 327 [some (rf (some 0)), some (rf (some 1)), some (rf (some 145)), some (.int (nI i))] [] M Q = V (d + 1) 146 525 [some (rf (some 0)), some (rf (some 1)), some (rf (some 145)), some (.int (nI i))] [] M2 Q := by
  simp only [s_146_327, s_146_328, s_146_329, s_146_330, s_146_331, s_146_332 h0 (show i + 1 < xs.length by omega) hl, s_146_333, s_146_334, s_146_335, s_146_336, s_146_337 h0 (show i + 2 < xs.length by omega) hl, s_146_338, s_146_339, s_146_340, s_146_341, s_146_342 h0 (show i + 3 < xs.length by omega) hl, s_146_343, s_146_344, s_146_345, s_146_346, s_146_347 h0 (show i + 4 < xs.length by omega) hl, s_146_348 hc, s_146_351, s_146_352, s_146_353, s_146_354, s_146_355, s_146_356 h0' (show i + 1 < xs.length by omega) hl, s_146_357, s_146_358, s_146_359, s_146_360, s_146_361 h0' (show i + 2 < xs.length by omega) hl, s_146_362, s_146_363, s_146_364, s_146_365, s_146_366 h0' (show i + 3 < xs.length by omega) hl, s_146_367, s_146_368, s_146_369, s_146_370, s_146_371 h0' (show i + 4 < xs.length by omega) hl, s_146_372 hc', s_146_375, s_146_378, s_146_379, nI_add, h1, h2, Option.toList_some, List.cons_append, List.nil_append, if_true, eq_self]
theorem lc_6 (h0 : M[0]? = some (.inr (7, xs.map .int))) (h0' : M1[0]? = some (.inr (7, xs.map .int))) (hc : mcls M 1 = some 0) (hc' : mcls M1 145 = some 9) (hi : i + 5 < xs.length) (hl : xs.length ≤ 3072) (h1 : ∀ Q, Vc d 7 [rf (some 1), .int (xs.getD (i + 1) 0)] M Q = Q (some (.int res)) M1) (h2 : ∀ Q, Vc d 74 [rf (some 145), .int (xs.getD (i + 1) 0)] M1 Q = Q (some (.int res)) M2) : V (d + 1) 146 380 [some (rf (some 0)), some (rf (some 1)), some (rf (some 145)), some (.int (nI i))] [] M Q = V (d + 1) 146 525 [some (rf (some 0)), some (rf (some 1)), some (rf (some 145)), some (.int (nI i))] [] M2 Q := by
  simp only [s_146_380, s_146_381, s_146_382, s_146_383, s_146_384, s_146_385 h0 (show i + 1 < xs.length by omega) hl, s_146_386 hc, s_146_389, s_146_390, s_146_391, s_146_392, s_146_393, s_146_394 h0' (show i + 1 < xs.length by omega) hl, s_146_395 hc', s_146_398, s_146_401, s_146_402, nI_add, h1, h2, Option.toList_some, List.cons_append, List.nil_append, if_true, eq_self]
theorem lc_7 (h0 : M[0]? = some (.inr (7, xs.map .int))) (h0' : M1[0]? = some (.inr (7, xs.map .int))) (hc : mcls M 1 = some 0) (hc' : mcls M1 145 = some 9) (hi : i + 5 < xs.length) (hl : xs.length ≤ 3072) (h1 : ∀ Q, Vc d 8 [rf (some 1), .int (xs.getD (i + 1) 0), .int (xs.getD (i + 2) 0)] M Q = Q (some (.int res)) M1) (h2 : ∀ Q, Vc d 95 [rf (some 145), .int (xs.getD (i + 1) 0), .int (xs.getD (i + 2) 0)] M1 Q = Q (some (.int res)) M2) : V (d + 1) 146 403 [some (rf (some 0)), some (rf (some 1)), some (rf (some 145)), some (.int (nI i))] [] M Q = V (d + 1) 146 525 [some (rf (some 0)), some (rf (some 1)), some (rf (some 145)), some (.int (nI i))] [] M2 Q := by
  simp only [s_146_403, s_146_404, s_146_405, s_146_406, s_146_407, s_146_408 h0 (show i + 1 < xs.length by omega) hl, s_146_409, s_146_410, s_146_411, s_146_412, s_146_413 h0 (show i + 2 < xs.length by omega) hl, s_146_414 hc, s_146_417, s_146_418, s_146_419, s_146_420, s_146_421, s_146_422 h0' (show i + 1 < xs.length by omega) hl, s_146_423, s_146_424, s_146_425, s_146_426, s_146_427 h0' (show i + 2 < xs.length by omega) hl, s_146_428 hc', s_146_431, s_146_434, s_146_435, nI_add, h1, h2, Option.toList_some, List.cons_append, List.nil_append, if_true, eq_self]
theorem lc_8 (h0 : M[0]? = some (.inr (7, xs.map .int))) (h0' : M1[0]? = some (.inr (7, xs.map .int))) (hc : mcls M 1 = some 0) (hc' : mcls M1 145 = some 9) (hi : i + 5 < xs.length) (hl : xs.length ≤ 3072) (h1 : ∀ Q, Vc d 9 [rf (some 1), .int (xs.getD (i + 1) 0), .int (xs.getD (i + 2) 0)] M Q = Q (some (.int res)) M1) (h2 : ∀ Q, Vc d 96 [rf (some 145), .int (xs.getD (i + 1) 0), .int (xs.getD (i + 2) 0)] M1 Q = Q (some (.int res)) M2) : V (d + 1) 146 436 [some (rf (some 0)), some (rf (some 1)), some (rf (some 145)), some (.int (nI i))] [] M Q = V (d + 1) 146 525 [some (rf (some 0)), some (rf (some 1)), some (rf (some 145)), some (.int (nI i))] [] M2 Q := by
  simp only [s_146_436, s_146_437, s_146_438, s_146_439, s_146_440, s_146_441 h0 (show i + 1 < xs.length by omega) hl, s_146_442, s_146_443, s_146_444, s_146_445, s_146_446 h0 (show i + 2 < xs.length by omega) hl, s_146_447 hc, s_146_450, s_146_451, s_146_452, s_146_453, s_146_454, s_146_455 h0' (show i + 1 < xs.length by omega) hl, s_146_456, s_146_457, s_146_458, s_146_459, s_146_460 h0' (show i + 2 < xs.length by omega) hl, s_146_461 hc', s_146_464, s_146_467, s_146_468, nI_add, h1, h2, Option.toList_some, List.cons_append, List.nil_append, if_true, eq_self]
theorem lc_9 (h0 : M[0]? = some (.inr (7, xs.map .int))) (h0' : M1[0]? = some (.inr (7, xs.map .int))) (hc : mcls M 1 = some 0) (hc' : mcls M1 145 = some 9) (hi : i + 5 < xs.length) (hl : xs.length ≤ 3072) (h1 : ∀ Q, Vc d 10 [rf (some 1), .int (xs.getD (i + 1) 0), .int (xs.getD (i + 2) 0)] M Q = Q (some (.int res)) M1) (h2 : ∀ Q, Vc d 97 [rf (some 145), .int (xs.getD (i + 1) 0), .int (xs.getD (i + 2) 0)] M1 Q = Q (some (.int res)) M2) : V (d + 1) 146 469 [some (rf (some 0)), some (rf (some 1)), some (rf (some 145)), some (.int (nI i))] [] M Q = V (d + 1) 146 525 [some (rf (some 0)), some (rf (some 1)), some (rf (some 145)), some (.int (nI i))] [] M2 Q := by
  simp only [s_146_469, s_146_470, s_146_471, s_146_472, s_146_473, s_146_474 h0 (show i + 1 < xs.length by omega) hl, s_146_475, s_146_476, s_146_477, s_146_478, s_146_479 h0 (show i + 2 < xs.length by omega) hl, s_146_480 hc, s_146_483, s_146_484, s_146_485, s_146_486, s_146_487, s_146_488 h0' (show i + 1 < xs.length by omega) hl, s_146_489, s_146_490, s_146_491, s_146_492, s_146_493 h0' (show i + 2 < xs.length by omega) hl, s_146_494 hc', s_146_497, s_146_500, s_146_501, nI_add, h1, h2, Option.toList_some, List.cons_append, List.nil_append, if_true, eq_self]
theorem lc_10 (h0 : M[0]? = some (.inr (7, xs.map .int))) (h0' : M1[0]? = some (.inr (7, xs.map .int))) (hc : mcls M 1 = some 0) (hc' : mcls M1 145 = some 9) (hi : i + 5 < xs.length) (hl : xs.length ≤ 3072) (h1 : ∀ Q, Vc d 11 [rf (some 1), .int (xs.getD (i + 1) 0)] M Q = Q (some (.int res)) M1) (h2 : ∀ Q, Vc d 98 [rf (some 145), .int (xs.getD (i + 1) 0)] M1 Q = Q (some (.int res)) M2) : V (d + 1) 146 502 [some (rf (some 0)), some (rf (some 1)), some (rf (some 145)), some (.int (nI i))] [] M Q = V (d + 1) 146 525 [some (rf (some 0)), some (rf (some 1)), some (rf (some 145)), some (.int (nI i))] [] M2 Q := by
  simp only [s_146_502, s_146_503, s_146_504, s_146_505, s_146_506, s_146_507 h0 (show i + 1 < xs.length by omega) hl, s_146_508 hc, s_146_511, s_146_512, s_146_513, s_146_514, s_146_515, s_146_516 h0' (show i + 1 < xs.length by omega) hl, s_146_517 hc', s_146_520, s_146_523, s_146_524, nI_add, h1, h2, Option.toList_some, List.cons_append, List.nil_append, if_true, eq_self]
end
theorem mcls_wf {M : mH} (h : wf M) : mcls M 1 = some 0 ∧ mcls M 145 = some 9 := ⟨h.cls (a := 1) (t := 0) sh_1 (by decide), h.cls (a := 145) (t := 9) sh_145 (by decide)⟩
theorem Jt.go {y yr : Nat} {as : List Value} {M : mH} {t : Nat} {es : List Value} (h : Jt y yr as M t) (hw : wf M) (h0 : M[0]? = some (.inr (7, es))) : ∃ (M1 M2 : mH) (res : Int32) (C' : Nat) (mp' : MP), (∀ Q, Vc 7 y (rf (some 1) :: as) M Q = Q (some (.int res)) M1) ∧ (∀ Q, Vc 7 yr (rf (some 145) :: as) M1 Q = Q (some (.int res)) M2) ∧ mcls M1 145 = some 9 ∧ M1[0]? = some (.inr (7, es)) ∧ wf M2 ∧ M2[0]? = some (.inr (7, es)) ∧ IV (ig M2) (og M2) (rg M2) C' (t + 1) mp' := by
  obtain ⟨M1, M2, res, C', mp', h1, h2, h3, h4⟩ := h
  have k1 := Vc_kp h1
  have k2 := Vc_kp h2
  exact ⟨M1, M2, res, C', mp', h1, h2, k1.1 145 9 (mcls_wf hw).2, k1.2 es h0, h3, k2.2 es (k1.2 es h0), h4⟩
theorem law_l {xs : List Int32} (hl : xs.length ≤ 3072) : ∀ (f i : Nat) (M : mH) (C t : Nat) (mp : MP), xs.length ≤ i + 6 * f + 5 → i ≤ 4000 → t ≤ i → wf M → M[0]? = some (.inr (7, xs.map .int)) → IV (ig M) (og M) (rg M) C t mp → V 8 146 18 [some (rf (some 0)), some (rf (some 1)), some (rf (some 145)), some (.int (nI i))] [] M (fun r M' => r = some (.int 1) ∧ wf M' ∧ M'[0]? = some (.inr (7, xs.map .int))) := by
  intro f
  induction f with
  | zero =>
    intro i M C t mp hf hi ht hw h0 iv
    have hcmp : nI xs.length - nI 6 < nI i := by
      rw [Int32.lt_iff_toInt_lt, pk_sub_toInt (by omega) (by omega), nI_toInt (by omega)]; omega
    rw [s_146_18]
    simp only [s_146_19, s_146_20 h0, s_146_21, s_146_23, s_146_24, s_146_531, s_146_532, hcmp, if_true, b1]
    exact ⟨rfl, hw, h0⟩
  | succ f ih =>
    intro i M C t mp hf hi ht hw h0 iv
    by_cases hgo : i + 6 ≤ xs.length
    · have hcmp : ¬ nI xs.length - nI 6 < nI i := by
        rw [Int32.lt_iff_toInt_lt, pk_sub_toInt (by omega) (by omega), nI_toInt (by omega)]; omega
      have hi5 : i + 5 < xs.length := by omega
      have hc := (mcls_wf hw).1
      have next : ∀ (M2 : mH) (C' t' : Nat) (mp' : MP), t' ≤ i + 1 → wf M2 → M2[0]? = some (.inr (7, xs.map .int)) → IV (ig M2) (og M2) (rg M2) C' t' mp' → V 8 146 525 [some (rf (some 0)), some (rf (some 1)), some (rf (some 145)), some (.int (nI i))] [] M2 (fun r M' => r = some (.int 1) ∧ wf M' ∧ M'[0]? = some (.inr (7, xs.map .int))) := fun M2 C' t' mp' q1 q2 q3 q4 => by
        rw [s_146_525, nI_add, s_146_528]
        exact ih (i + 6) M2 C' t' mp' (by omega) (by omega) (by omega) q2 q3 q4
      have hst : V 8 146 18 [some (rf (some 0)), some (rf (some 1)), some (rf (some 145)), some (.int (nI i))] [] M (fun r M' => r = some (.int 1) ∧ wf M' ∧ M'[0]? = some (.inr (7, xs.map .int))) = V 8 146 33 [some (rf (some 0)), some (rf (some 1)), some (rf (some 145)), some (.int (nI i))] [.int (xs.getD i 0 &&& nI 15)] M (fun r M' => r = some (.int 1) ∧ wf M' ∧ M'[0]? = some (.inr (7, xs.map .int))) := by
        rw [s_146_18]
        simp only [s_146_19, s_146_20 h0, s_146_21, s_146_23, s_146_24, s_146_27, s_146_28, s_146_29 h0 (show i < xs.length by omega) hl, s_146_30, s_146_32, hcmp, if_false]
      rw [hst, s_146_33]
      have ht30 : t < 2 ^ 30 := by omega
      by_cases e0 : xs.getD i 0 &&& nI 15 = nI 0
      · obtain ⟨M1, M2, res, C', mp', a1, a2, a3, a4, a5, a6, a7⟩ := Jt.go (show Jt 1 58 [.int (xs.getD (i + 1) 0), .int (xs.getD (i + 2) 0), .int (xs.getD (i + 3) 0), .int (xs.getD (i + 4) 0)] M t from j_node hw iv) hw h0
        rw [if_pos e0, lc_0 (d := 7) h0 a4 hc a3 hi5 hl a1 a2]
        exact next M2 C' (t + 1) mp' (by omega) a5 a6 a7
      by_cases e1 : xs.getD i 0 &&& nI 15 = nI 1
      · obtain ⟨M1, M2, res, C', mp', a1, a2, a3, a4, a5, a6, a7⟩ := Jt.go (show Jt 2 63 [.int (xs.getD (i + 1) 0), .int (xs.getD (i + 2) 0), .int (xs.getD (i + 3) 0), .int (xs.getD (i + 4) 0), .int (xs.getD (i + 5) 0)] M t from j_cage hw iv) hw h0
        rw [if_neg e0, if_pos e1, lc_1 (d := 7) h0 a4 hc a3 hi5 hl a1 a2]
        exact next M2 C' (t + 1) mp' (by omega) a5 a6 a7
      by_cases e2 : xs.getD i 0 &&& nI 15 = nI 2
      · obtain ⟨M1, M2, res, C', mp', a1, a2, a3, a4, a5, a6, a7⟩ := Jt.go (show Jt 3 66 [.int (xs.getD (i + 1) 0), .int (xs.getD (i + 2) 0), .int (xs.getD (i + 3) 0), .int (xs.getD (i + 4) 0)] M t from j_step hw iv) hw h0
        rw [if_neg e0, if_neg e1, if_pos e2, lc_2 (d := 7) h0 a4 hc a3 hi5 hl a1 a2]
        exact next M2 C' (t + 1) mp' (by omega) a5 a6 a7
      by_cases e3 : xs.getD i 0 &&& nI 15 = nI 3
      · obtain ⟨M1, M2, res, C', mp', a1, a2, a3, a4, a5, a6, a7⟩ := Jt.go (show Jt 4 67 [.int (xs.getD (i + 1) 0)] M t from j_wipe hw iv) hw h0
        rw [if_neg e0, if_neg e1, if_neg e2, if_pos e3, lc_3 (d := 7) h0 a4 hc a3 hi5 hl a1 a2]
        exact next M2 C' (t + 1) mp' (by omega) a5 a6 a7
      by_cases e4 : xs.getD i 0 &&& nI 15 = nI 4
      · obtain ⟨M1, M2, res, C', mp', a1, a2, a3, a4, a5, a6, a7⟩ := Jt.go (show Jt 5 71 [.int (xs.getD (i + 1) 0), .int (xs.getD (i + 2) 0), .int (xs.getD (i + 3) 0)] M t from j_start hw iv) hw h0
        rw [if_neg e0, if_neg e1, if_neg e2, if_neg e3, if_pos e4, lc_4 (d := 7) h0 a4 hc a3 hi5 hl a1 a2]
        exact next M2 C' (t + 1) mp' (by omega) a5 a6 a7
      by_cases e5 : xs.getD i 0 &&& nI 15 = nI 5
      · obtain ⟨M1, M2, res, C', mp', a1, a2, a3, a4, a5, a6, a7⟩ := Jt.go (show Jt 6 84 [.int (xs.getD (i + 1) 0), .int (xs.getD (i + 2) 0), .int (xs.getD (i + 3) 0), .int (xs.getD (i + 4) 0)] M t from j_sys' ht30 hw iv) hw h0
        rw [if_neg e0, if_neg e1, if_neg e2, if_neg e3, if_neg e4, if_pos e5, lc_5 (d := 7) h0 a4 hc a3 hi5 hl a1 a2]
        exact next M2 C' (t + 1) mp' (by omega) a5 a6 a7
      by_cases e6 : xs.getD i 0 &&& nI 15 = nI 6
      · obtain ⟨M1, M2, res, C', mp', a1, a2, a3, a4, a5, a6, a7⟩ := Jt.go (show Jt 7 74 [.int (xs.getD (i + 1) 0)] M t from j_kill hw iv) hw h0
        rw [if_neg e0, if_neg e1, if_neg e2, if_neg e3, if_neg e4, if_neg e5, if_pos e6, lc_6 (d := 7) h0 a4 hc a3 hi5 hl a1 a2]
        exact next M2 C' (t + 1) mp' (by omega) a5 a6 a7
      by_cases e7 : xs.getD i 0 &&& nI 15 = nI 7
      · obtain ⟨M1, M2, res, C', mp', a1, a2, a3, a4, a5, a6, a7⟩ := Jt.go (show Jt 8 95 [.int (xs.getD (i + 1) 0), .int (xs.getD (i + 2) 0)] M t from j_process hw iv) hw h0
        rw [if_neg e0, if_neg e1, if_neg e2, if_neg e3, if_neg e4, if_neg e5, if_neg e6, if_pos e7, lc_7 (d := 7) h0 a4 hc a3 hi5 hl a1 a2]
        exact next M2 C' (t + 1) mp' (by omega) a5 a6 a7
      by_cases e8 : xs.getD i 0 &&& nI 15 = nI 8
      · obtain ⟨M1, M2, res, C', mp', a1, a2, a3, a4, a5, a6, a7⟩ := Jt.go (show Jt 9 96 [.int (xs.getD (i + 1) 0), .int (xs.getD (i + 2) 0)] M t from j_file hw iv) hw h0
        rw [if_neg e0, if_neg e1, if_neg e2, if_neg e3, if_neg e4, if_neg e5, if_neg e6, if_neg e7, if_pos e8, lc_8 (d := 7) h0 a4 hc a3 hi5 hl a1 a2]
        exact next M2 C' (t + 1) mp' (by omega) a5 a6 a7
      by_cases e9 : xs.getD i 0 &&& nI 15 = nI 9
      · obtain ⟨M1, M2, res, C', mp', a1, a2, a3, a4, a5, a6, a7⟩ := Jt.go (show Jt 10 97 [.int (xs.getD (i + 1) 0), .int (xs.getD (i + 2) 0)] M t from j_look hw iv) hw h0
        rw [if_neg e0, if_neg e1, if_neg e2, if_neg e3, if_neg e4, if_neg e5, if_neg e6, if_neg e7, if_neg e8, if_pos e9, lc_9 (d := 7) h0 a4 hc a3 hi5 hl a1 a2]
        exact next M2 C' (t + 1) mp' (by omega) a5 a6 a7
      by_cases e10 : xs.getD i 0 &&& nI 15 = nI 10
      · obtain ⟨M1, M2, res, C', mp', a1, a2, a3, a4, a5, a6, a7⟩ := Jt.go (show Jt 11 98 [.int (xs.getD (i + 1) 0)] M t from j_count hw iv) hw h0
        rw [if_neg e0, if_neg e1, if_neg e2, if_neg e3, if_neg e4, if_neg e5, if_neg e6, if_neg e7, if_neg e8, if_neg e9, if_pos e10, lc_10 (d := 7) h0 a4 hc a3 hi5 hl a1 a2]
        exact next M2 C' (t + 1) mp' (by omega) a5 a6 a7
      rw [if_neg e0, if_neg e1, if_neg e2, if_neg e3, if_neg e4, if_neg e5, if_neg e6, if_neg e7, if_neg e8, if_neg e9, if_neg e10]
      exact next M C t mp (by omega) hw h0 iv
    · have hcmp : nI xs.length - nI 6 < nI i := by
        rw [Int32.lt_iff_toInt_lt, pk_sub_toInt (by omega) (by omega), nI_toInt (by omega)]; omega
      rw [s_146_18]
      simp only [s_146_19, s_146_20 h0, s_146_21, s_146_23, s_146_24, s_146_531, s_146_532, hcmp, if_true, b1]
      exact ⟨rfl, hw, h0⟩
theorem law_16 {xs : List Int32} (hl : xs.length ≤ 3072) : V 8 146 0 (mentry 146 [.ref 0]) [] [.inr (7, xs.map .int)] (fun r M' => r = some (.int 1) ∧ wf M' ∧ M'[0]? = some (.inr (7, xs.map .int))) := by
  have c1 := (mrunN_rep (es := xs.map .int) _ _ _ _ _ _ _ _ ⟨[], rfl⟩ ct1).1
  have c2 := (mrunN_rep (es := xs.map .int) _ _ _ _ _ _ _ _ ⟨[], rfl⟩ ct2).1
  have c1' : mrun 5000 7 0 0 (mentry 0 [.ref 1]) [] [.inr (7, xs.map .int), .inl (0, mBlank 0)] = some (none, .inr (7, xs.map .int) :: R0.take 144) := c1
  have c2' : mrun 5000 7 50 0 (mentry 50 [.ref 145]) [] ((.inr (7, xs.map .int) :: R0.take 144) ++ [.inl (9, mBlank 9)]) = some (none, .inr (7, xs.map .int) :: R0) := c2
  have hl144 : (R0.take 144).length = 144 := by rw [List.length_take, wR_len]; rfl
  have hfin := law_l hl 512 0 (.inr (7, xs.map .int) :: R0) 0 0 mp0 (by omega) (by omega) (by omega) (wf_0 hl) rfl (by rw [ig_0, og_0, rg_0]; exact iv_0)
  have e0 : V 8 146 0 (mentry 146 [.ref 0]) [] [.inr (7, xs.map .int)] (fun r M' => r = some (.int 1) ∧ wf M' ∧ M'[0]? = some (.inr (7, xs.map .int))) = V 8 146 3 [some (.ref 0), none, none, none] [.ref 1] [.inr (7, xs.map .int), .inl (0, mBlank 0)] (fun r M' => r = some (.int 1) ∧ wf M' ∧ M'[0]? = some (.inr (7, xs.map .int))) := V_eq rfl rfl rfl rfl
  rw [e0]
  have e3 : ∀ Q, V 8 146 3 [some (.ref 0), none, none, none] [.ref 1] [.inr (7, xs.map .int), .inl (0, mBlank 0)] Q = V 8 146 4 [some (.ref 0), none, none, none] [.ref 1, .ref 1] [.inr (7, xs.map .int), .inl (0, mBlank 0)] Q := fun Q => V_eq rfl rfl rfl rfl
  rw [e3]
  have e4 : ∀ Q, V (7 + 1) 146 4 [some (.ref 0), none, none, none] [.ref 1, .ref 1] [.inr (7, xs.map .int), .inl (0, mBlank 0)] Q = Vc 7 0 [.ref 1] [.inr (7, xs.map .int), .inl (0, mBlank 0)] (fun r M' => V (7 + 1) 146 7 [some (.ref 0), none, none, none] (r.toList ++ [.ref 1]) M' Q) := fun Q => V_call (e := (.invokespecial 9, 7, 0, 1, 0)) rfl rfl rfl
  refine (e4 _).mpr ?_
  refine ⟨5000, none, _, c1', ?_⟩
  show V 8 146 7 [some (.ref 0), none, none, none] [.ref 1] (.inr (7, xs.map .int) :: R0.take 144) _
  have e7 : ∀ (M : mH) Q, V 8 146 7 [some (.ref 0), none, none, none] [.ref 1] M Q = V 8 146 8 [some (.ref 0), some (.ref 1), none, none] [] M Q := fun M Q => V_eq rfl rfl rfl rfl
  rw [e7]
  have e8 : ∀ (M : mH) Q, V 8 146 8 [some (.ref 0), some (.ref 1), none, none] [] M Q = V 8 146 11 [some (.ref 0), some (.ref 1), none, none] [.ref M.length] (M ++ [.inl (9, mBlank 9)]) Q := fun M Q => V_eq rfl rfl rfl rfl
  rw [e8, List.length_cons, hl144]
  have e11 : ∀ (M : mH) Q, V 8 146 11 [some (.ref 0), some (.ref 1), none, none] [.ref (144 + 1)] M Q = V 8 146 12 [some (.ref 0), some (.ref 1), none, none] [.ref 145, .ref 145] M Q := fun M Q => V_eq rfl rfl rfl rfl
  rw [e11]
  have e12 : ∀ (M : mH) Q, V (7 + 1) 146 12 [some (.ref 0), some (.ref 1), none, none] [.ref 145, .ref 145] M Q = Vc 7 50 [.ref 145] M (fun r M' => V (7 + 1) 146 15 [some (.ref 0), some (.ref 1), none, none] (r.toList ++ [.ref 145]) M' Q) := fun M Q => V_call (e := (.invokespecial 12, 15, 50, 1, 0)) rfl rfl rfl
  refine (e12 _ _).mpr ?_
  refine ⟨5000, none, _, c2', ?_⟩
  show V 8 146 15 [some (.ref 0), some (.ref 1), none, none] [.ref 145] (.inr (7, xs.map .int) :: R0) _
  have e15 : ∀ (M : mH) Q, V 8 146 15 [some (.ref 0), some (.ref 1), none, none] [.ref 145] M Q = V 8 146 16 [some (.ref 0), some (.ref 1), some (.ref 145), none] [] M Q := fun M Q => V_eq rfl rfl rfl rfl
  rw [e15, s_146_16, s_146_17]
  exact hfin
theorem slots_le : ∀ (T : mH) (n : Nat), (∀ (a : Nat) (c : mC), T[a]? = some c → msz c ≤ n) → mslots T ≤ n * T.length := by
  intro T n
  induction T with
  | nil => intro _; simp [mslots]
  | cons c T ih =>
    intro h
    have h1 := h 0 c rfl
    have h2 := ih (fun a c' hc => h (a + 1) c' hc)
    simp only [mslots, List.length_cons, Nat.mul_succ]
    omega
theorem law_run : mLaw := by
  intro xs hl
  obtain ⟨n, r, M', h1, rfl, hw, h0⟩ := law_16 hl
  refine ⟨n, M', h1, by rw [hw.1]; decide, ?_⟩
  have hlen := hw.1
  cases M' with
  | nil => cases hlen
  | cons c T =>
    have hc : c = .inr (7, xs.map .int) := Option.some.inj h0
    subst hc
    have hT : T.length = 181 := by rw [List.length_cons] at hlen; omega
    have hs := slots_le T 1000 (fun a c ha => by
      have hlt : a < T.length := by
        by_cases z : a < T.length
        · exact z
        · rw [List.getElem?_eq_none (by omega)] at ha; cases ha
      obtain ⟨c', k1, k2⟩ := hw.2.2.1 (a + 1) (by omega) (by omega)
      rw [List.getElem?_cons_succ, ha] at k1
      cases k1
      have := shp_small (a + 1)
      rw [← k2] at this
      cases c with
      | inl q => exact Nat.le_of_lt this
      | inr q => exact Nat.le_of_lt this)
    simp only [mslots, msz, List.length_map]
    rw [hT] at hs
    omega
