/-! the law loop: a call of each -/
theorem lg_cmp_self (x : Int64) : lg_cmp x x = nI 0 := by
  unfold lg_cmp
  rw [if_neg (Int64.lt_irrefl), if_pos rfl]
  rfl
def LC (Z : Nat) (xs : Nat → Int32) (j : Int32) (pc : Nat) : Prop := ∀ (I : ab_I) (R : ab_R) (L : ab_L), ab_ix (j + nI 1) (al Z 1000) = true → ab_ix (j + nI 2) (al Z 1000) = true → ab_ix (j + nI 3) (al Z 1000) = true → Inv Z xs I R L → ∃ I' R' L', Inv Z xs I' R' L' ∧ ex Z 112 6626 192 pc [some (.ref 1000), some (.ref 0), some (.ref 87), some (.int j)] [] I R L = ex Z 112 6626 192 1130 [some (.ref 1000), some (.ref 0), some (.ref 87), some (.int j)] [] I' R' L'
theorem lc_write {Z : Nat} {xs : Nat → Int32} {j : Int32} : LC Z xs j 180 := by
  intro I R L hx1 hx2 hx3 hi
  have k0 : I 1000 = xs := by
    obtain ⟨_, _, _, _, _, _, h⟩ := hi
    exact h
  obtain ⟨v, I1, R1, L1, I2, L2, e1, k1, e2, hi2⟩ := (B_write (Z := Z) (xs (j + nI 1).toNatClampNeg)).lawI (by decide +kernel) (by decide +kernel) hi
  have f1 : cl Z 58 [.ref 0, .int (xs (j + nI 1).toNatClampNeg)] I R L = some (some (.int v), I1, R1, L1) := e1
  have f2 : cl Z 107 [.ref 87, .int (xs (j + nI 1).toNatClampNeg)] I1 R1 L1 = some (some (.int v), I2, R1, L2) := e2
  refine ⟨I2, R1, L2, hi2, ?_⟩
  rw [e192_180, e192_181, e192_182, e192_183, e192_184, e192_185 hx1, k0, e192_186 (by decide +kernel) (Nat.le_of_ble_eq_true rfl), f1, bI_s, e192_189, e192_190, e192_191, e192_192, e192_193, e192_194 hx1, k1, e192_195 (by decide +kernel) (Nat.le_of_ble_eq_true rfl), f2, bI_s, e192_198, if_pos rfl]
theorem lc_wipe {Z : Nat} {xs : Nat → Int32} {j : Int32} : LC Z xs j 203 := by
  intro I R L hx1 hx2 hx3 hi
  have k0 : I 1000 = xs := by
    obtain ⟨_, _, _, _, _, _, h⟩ := hi
    exact h
  obtain ⟨v, I1, R1, L1, I2, L2, e1, k1, e2, hi2⟩ := (B_wipe (Z := Z)).lawI (by decide +kernel) (by decide +kernel) hi
  have f1 : cl Z 59 [.ref 0] I R L = some (some (.int v), I1, R1, L1) := e1
  have f2 : cl Z 109 [.ref 87] I1 R1 L1 = some (some (.int v), I2, R1, L2) := e2
  refine ⟨I2, R1, L2, hi2, ?_⟩
  rw [e192_203, e192_204 (by decide +kernel) (Nat.le_of_ble_eq_true rfl), f1, bI_s, e192_207, e192_208 (by decide +kernel) (Nat.le_of_ble_eq_true rfl), f2, bI_s, e192_211, if_pos rfl]
theorem lc_fault {Z : Nat} {xs : Nat → Int32} {j : Int32} : LC Z xs j 216 := by
  intro I R L hx1 hx2 hx3 hi
  have k0 : I 1000 = xs := by
    obtain ⟨_, _, _, _, _, _, h⟩ := hi
    exact h
  obtain ⟨v, I1, R1, L1, I2, L2, e1, k1, e2, hi2⟩ := (B_fault (Z := Z)).lawI (by decide +kernel) (by decide +kernel) hi
  have f1 : cl Z 60 [.ref 0] I R L = some (some (.int v), I1, R1, L1) := e1
  have f2 : cl Z 110 [.ref 87] I1 R1 L1 = some (some (.int v), I2, R1, L2) := e2
  refine ⟨I2, R1, L2, hi2, ?_⟩
  rw [e192_216, e192_217 (by decide +kernel) (Nat.le_of_ble_eq_true rfl), f1, bI_s, e192_220, e192_221 (by decide +kernel) (Nat.le_of_ble_eq_true rfl), f2, bI_s, e192_224, if_pos rfl]
theorem lc_coast {Z : Nat} {xs : Nat → Int32} {j : Int32} : LC Z xs j 229 := by
  intro I R L hx1 hx2 hx3 hi
  have k0 : I 1000 = xs := by
    obtain ⟨_, _, _, _, _, _, h⟩ := hi
    exact h
  obtain ⟨v, I1, R1, L1, I2, L2, e1, k1, e2, hi2⟩ := (B_coast (Z := Z)).lawI (by decide +kernel) (by decide +kernel) hi
  have f1 : cl Z 62 [.ref 0] I R L = some (some (.int v), I1, R1, L1) := e1
  have f2 : cl Z 118 [.ref 87] I1 R1 L1 = some (some (.int v), I2, R1, L2) := e2
  refine ⟨I2, R1, L2, hi2, ?_⟩
  rw [e192_229, e192_230 (by decide +kernel) (Nat.le_of_ble_eq_true rfl), f1, bI_s, e192_233, e192_234 (by decide +kernel) (Nat.le_of_ble_eq_true rfl), f2, bI_s, e192_237, if_pos rfl]
theorem lc_house {Z : Nat} {xs : Nat → Int32} {j : Int32} : LC Z xs j 242 := by
  intro I R L hx1 hx2 hx3 hi
  have k0 : I 1000 = xs := by
    obtain ⟨_, _, _, _, _, _, h⟩ := hi
    exact h
  obtain ⟨v, I1, R1, L1, I2, L2, e1, k1, e2, hi2⟩ := (B_house (Z := Z) (xs (j + nI 1).toNatClampNeg) (xs (j + nI 2).toNatClampNeg)).lawI (by decide +kernel) (by decide +kernel) hi
  have f1 : cl Z 63 [.ref 0, .int (xs (j + nI 1).toNatClampNeg), .int (xs (j + nI 2).toNatClampNeg)] I R L = some (some (.int v), I1, R1, L1) := e1
  have f2 : cl Z 119 [.ref 87, .int (xs (j + nI 1).toNatClampNeg), .int (xs (j + nI 2).toNatClampNeg)] I1 R1 L1 = some (some (.int v), I2, R1, L2) := e2
  refine ⟨I2, R1, L2, hi2, ?_⟩
  rw [e192_242, e192_243, e192_244, e192_245, e192_246, e192_247 hx1, k0, e192_248, e192_249, e192_250, e192_251, e192_252 hx2, k0, e192_253 (by decide +kernel) (Nat.le_of_ble_eq_true rfl), f1, bI_s, e192_256, e192_257, e192_258, e192_259, e192_260, e192_261 hx1, k1, e192_262, e192_263, e192_264, e192_265, e192_266 hx2, k1, e192_267 (by decide +kernel) (Nat.le_of_ble_eq_true rfl), f2, bI_s, e192_270, if_pos rfl]
theorem lc_thing {Z : Nat} {xs : Nat → Int32} {j : Int32} : LC Z xs j 275 := by
  intro I R L hx1 hx2 hx3 hi
  have k0 : I 1000 = xs := by
    obtain ⟨_, _, _, _, _, _, h⟩ := hi
    exact h
  obtain ⟨v, I1, R1, L1, I2, L2, e1, k1, e2, hi2⟩ := (B_thing (Z := Z) (xs (j + nI 1).toNatClampNeg) (xs (j + nI 2).toNatClampNeg)).lawI (by decide +kernel) (by decide +kernel) hi
  have f1 : cl Z 64 [.ref 0, .int (xs (j + nI 1).toNatClampNeg), .int (xs (j + nI 2).toNatClampNeg)] I R L = some (some (.int v), I1, R1, L1) := e1
  have f2 : cl Z 125 [.ref 87, .int (xs (j + nI 1).toNatClampNeg), .int (xs (j + nI 2).toNatClampNeg)] I1 R1 L1 = some (some (.int v), I2, R1, L2) := e2
  refine ⟨I2, R1, L2, hi2, ?_⟩
  rw [e192_275, e192_276, e192_277, e192_278, e192_279, e192_280 hx1, k0, e192_281, e192_282, e192_283, e192_284, e192_285 hx2, k0, e192_286 (by decide +kernel) (Nat.le_of_ble_eq_true rfl), f1, bI_s, e192_289, e192_290, e192_291, e192_292, e192_293, e192_294 hx1, k1, e192_295, e192_296, e192_297, e192_298, e192_299 hx2, k1, e192_300 (by decide +kernel) (Nat.le_of_ble_eq_true rfl), f2, bI_s, e192_303, if_pos rfl]
theorem lc_say {Z : Nat} {xs : Nat → Int32} {j : Int32} : LC Z xs j 308 := by
  intro I R L hx1 hx2 hx3 hi
  have k0 : I 1000 = xs := by
    obtain ⟨_, _, _, _, _, _, h⟩ := hi
    exact h
  obtain ⟨v, I1, R1, L1, I2, L2, e1, k1, e2, hi2⟩ := (B_say (Z := Z) (xs (j + nI 1).toNatClampNeg) (xs (j + nI 2).toNatClampNeg)).lawI (by decide +kernel) (by decide +kernel) hi
  have f1 : cl Z 66 [.ref 0, .int (xs (j + nI 1).toNatClampNeg), .int (xs (j + nI 2).toNatClampNeg)] I R L = some (some (.int v), I1, R1, L1) := e1
  have f2 : cl Z 133 [.ref 87, .int (xs (j + nI 1).toNatClampNeg), .int (xs (j + nI 2).toNatClampNeg)] I1 R1 L1 = some (some (.int v), I2, R1, L2) := e2
  refine ⟨I2, R1, L2, hi2, ?_⟩
  rw [e192_308, e192_309, e192_310, e192_311, e192_312, e192_313 hx1, k0, e192_314, e192_315, e192_316, e192_317, e192_318 hx2, k0, e192_319 (by decide +kernel) (Nat.le_of_ble_eq_true rfl), f1, bI_s, e192_322, e192_323, e192_324, e192_325, e192_326, e192_327 hx1, k1, e192_328, e192_329, e192_330, e192_331, e192_332 hx2, k1, e192_333 (by decide +kernel) (Nat.le_of_ble_eq_true rfl), f2, bI_s, e192_336, if_pos rfl]
theorem lc_stone {Z : Nat} {xs : Nat → Int32} {j : Int32} : LC Z xs j 341 := by
  intro I R L hx1 hx2 hx3 hi
  have k0 : I 1000 = xs := by
    obtain ⟨_, _, _, _, _, _, h⟩ := hi
    exact h
  obtain ⟨v, I1, R1, L1, I2, L2, e1, k1, e2, hi2⟩ := (B_stone (Z := Z) (xs (j + nI 1).toNatClampNeg)).lawI (by decide +kernel) (by decide +kernel) hi
  have f1 : cl Z 68 [.ref 0, .int (xs (j + nI 1).toNatClampNeg)] I R L = some (some (.int v), I1, R1, L1) := e1
  have f2 : cl Z 135 [.ref 87, .int (xs (j + nI 1).toNatClampNeg)] I1 R1 L1 = some (some (.int v), I2, R1, L2) := e2
  refine ⟨I2, R1, L2, hi2, ?_⟩
  rw [e192_341, e192_342, e192_343, e192_344, e192_345, e192_346 hx1, k0, e192_347 (by decide +kernel) (Nat.le_of_ble_eq_true rfl), f1, bI_s, e192_350, e192_351, e192_352, e192_353, e192_354, e192_355 hx1, k1, e192_356 (by decide +kernel) (Nat.le_of_ble_eq_true rfl), f2, bI_s, e192_359, if_pos rfl]
theorem lc_pay {Z : Nat} {xs : Nat → Int32} {j : Int32} : LC Z xs j 364 := by
  intro I R L hx1 hx2 hx3 hi
  have k0 : I 1000 = xs := by
    obtain ⟨_, _, _, _, _, _, h⟩ := hi
    exact h
  obtain ⟨v, I1, R1, L1, I2, L2, e1, k1, e2, hi2⟩ := (B_pay (Z := Z) (xs (j + nI 1).toNatClampNeg)).lawI (by decide +kernel) (by decide +kernel) hi
  have f1 : cl Z 69 [.ref 0, .int (xs (j + nI 1).toNatClampNeg)] I R L = some (some (.int v), I1, R1, L1) := e1
  have f2 : cl Z 136 [.ref 87, .int (xs (j + nI 1).toNatClampNeg)] I1 R1 L1 = some (some (.int v), I2, R1, L2) := e2
  refine ⟨I2, R1, L2, hi2, ?_⟩
  rw [e192_364, e192_365, e192_366, e192_367, e192_368, e192_369 hx1, k0, e192_370 (by decide +kernel) (Nat.le_of_ble_eq_true rfl), f1, bI_s, e192_373, e192_374, e192_375, e192_376, e192_377, e192_378 hx1, k1, e192_379 (by decide +kernel) (Nat.le_of_ble_eq_true rfl), f2, bI_s, e192_382, if_pos rfl]
theorem lc_blow {Z : Nat} {xs : Nat → Int32} {j : Int32} : LC Z xs j 387 := by
  intro I R L hx1 hx2 hx3 hi
  have k0 : I 1000 = xs := by
    obtain ⟨_, _, _, _, _, _, h⟩ := hi
    exact h
  obtain ⟨v, I1, R1, L1, I2, L2, e1, k1, e2, hi2⟩ := (B_blow (Z := Z)).lawI (by decide +kernel) (by decide +kernel) hi
  have f1 : cl Z 70 [.ref 0] I R L = some (some (.int v), I1, R1, L1) := e1
  have f2 : cl Z 138 [.ref 87] I1 R1 L1 = some (some (.int v), I2, R1, L2) := e2
  refine ⟨I2, R1, L2, hi2, ?_⟩
  rw [e192_387, e192_388 (by decide +kernel) (Nat.le_of_ble_eq_true rfl), f1, bI_s, e192_391, e192_392 (by decide +kernel) (Nat.le_of_ble_eq_true rfl), f2, bI_s, e192_395, if_pos rfl]
theorem lc_dawn {Z : Nat} {xs : Nat → Int32} {j : Int32} : LC Z xs j 400 := by
  intro I R L hx1 hx2 hx3 hi
  have k0 : I 1000 = xs := by
    obtain ⟨_, _, _, _, _, _, h⟩ := hi
    exact h
  obtain ⟨v, I1, R1, L1, I2, L2, e1, k1, e2, hi2⟩ := (B_dawn (Z := Z)).lawI (by decide +kernel) (by decide +kernel) hi
  have f1 : cl Z 71 [.ref 0] I R L = some (some (.int v), I1, R1, L1) := e1
  have f2 : cl Z 140 [.ref 87] I1 R1 L1 = some (some (.int v), I2, R1, L2) := e2
  refine ⟨I2, R1, L2, hi2, ?_⟩
  rw [e192_400, e192_401 (by decide +kernel) (Nat.le_of_ble_eq_true rfl), f1, bI_s, e192_404, e192_405 (by decide +kernel) (Nat.le_of_ble_eq_true rfl), f2, bI_s, e192_408, if_pos rfl]
theorem lc_undo {Z : Nat} {xs : Nat → Int32} {j : Int32} : LC Z xs j 413 := by
  intro I R L hx1 hx2 hx3 hi
  have k0 : I 1000 = xs := by
    obtain ⟨_, _, _, _, _, _, h⟩ := hi
    exact h
  obtain ⟨v, I1, R1, L1, I2, L2, e1, k1, e2, hi2⟩ := (B_undo (Z := Z)).lawI (by decide +kernel) (by decide +kernel) hi
  have f1 : cl Z 72 [.ref 0] I R L = some (some (.int v), I1, R1, L1) := e1
  have f2 : cl Z 142 [.ref 87] I1 R1 L1 = some (some (.int v), I2, R1, L2) := e2
  refine ⟨I2, R1, L2, hi2, ?_⟩
  rw [e192_413, e192_414 (by decide +kernel) (Nat.le_of_ble_eq_true rfl), f1, bI_s, e192_417, e192_418 (by decide +kernel) (Nat.le_of_ble_eq_true rfl), f2, bI_s, e192_421, if_pos rfl]
theorem lc_judge {Z : Nat} {xs : Nat → Int32} {j : Int32} : LC Z xs j 426 := by
  intro I R L hx1 hx2 hx3 hi
  have k0 : I 1000 = xs := by
    obtain ⟨_, _, _, _, _, _, h⟩ := hi
    exact h
  obtain ⟨v, I1, R1, L1, I2, L2, e1, k1, e2, hi2⟩ := (B_judge (Z := Z) (xs (j + nI 1).toNatClampNeg) ((((xs (j + nI 2).toNatClampNeg).toInt64 <<< ((nI 32).toInt64 &&& 63)) ||| ((xs (j + nI 3).toNatClampNeg).toInt64 &&& (lN 4294967295))))).lawI (by decide +kernel) (by decide +kernel) hi
  have f1 : cl Z 73 [.ref 0, .int (xs (j + nI 1).toNatClampNeg), .long ((((xs (j + nI 2).toNatClampNeg).toInt64 <<< ((nI 32).toInt64 &&& 63)) ||| ((xs (j + nI 3).toNatClampNeg).toInt64 &&& (lN 4294967295))))] I R L = some (some (.int v), I1, R1, L1) := e1
  have f2 : cl Z 143 [.ref 87, .int (xs (j + nI 1).toNatClampNeg), .long ((((xs (j + nI 2).toNatClampNeg).toInt64 <<< ((nI 32).toInt64 &&& 63)) ||| ((xs (j + nI 3).toNatClampNeg).toInt64 &&& (lN 4294967295))))] I1 R1 L1 = some (some (.int v), I2, R1, L2) := e2
  refine ⟨I2, R1, L2, hi2, ?_⟩
  rw [e192_426, e192_427, e192_428, e192_429, e192_430, e192_431 hx1, k0, e192_432, e192_433, e192_434, e192_435, e192_436 hx2, k0, e192_437, e192_438, e192_440, e192_441, e192_442, e192_443, e192_444, e192_445 hx3, k0, e192_446, e192_447, e192_450, e192_451, e192_452 (by decide +kernel) (Nat.le_of_ble_eq_true rfl), f1, bI_s, e192_455, e192_456, e192_457, e192_458, e192_459, e192_460 hx1, k1, e192_461, e192_462, e192_463, e192_464, e192_465 hx2, k1, e192_466, e192_467, e192_469, e192_470, e192_471, e192_472, e192_473, e192_474 hx3, k1, e192_475, e192_476, e192_479, e192_480, e192_481 (by decide +kernel) (Nat.le_of_ble_eq_true rfl), f2, bI_s, e192_484, if_pos rfl]
theorem lc_toKeep {Z : Nat} {xs : Nat → Int32} {j : Int32} : LC Z xs j 489 := by
  intro I R L hx1 hx2 hx3 hi
  have k0 : I 1000 = xs := by
    obtain ⟨_, _, _, _, _, _, h⟩ := hi
    exact h
  obtain ⟨v, I1, R1, L1, I2, L2, e1, k1, e2, hi2⟩ := (B_toKeep (Z := Z) (xs (j + nI 1).toNatClampNeg)).lawI (by decide +kernel) (by decide +kernel) hi
  have f1 : cl Z 76 [.ref 0, .int (xs (j + nI 1).toNatClampNeg)] I R L = some (some (.int v), I1, R1, L1) := e1
  have f2 : cl Z 148 [.ref 87, .int (xs (j + nI 1).toNatClampNeg)] I1 R1 L1 = some (some (.int v), I2, R1, L2) := e2
  refine ⟨I2, R1, L2, hi2, ?_⟩
  rw [e192_489, e192_490, e192_491, e192_492, e192_493, e192_494 hx1, k0, e192_495 (by decide +kernel) (Nat.le_of_ble_eq_true rfl), f1, bI_s, e192_498, e192_499, e192_500, e192_501, e192_502, e192_503 hx1, k1, e192_504 (by decide +kernel) (Nat.le_of_ble_eq_true rfl), f2, bI_s, e192_507, if_pos rfl]
theorem lc_by {Z : Nat} {xs : Nat → Int32} {j : Int32} : LC Z xs j 512 := by
  intro I R L hx1 hx2 hx3 hi
  have k0 : I 1000 = xs := by
    obtain ⟨_, _, _, _, _, _, h⟩ := hi
    exact h
  obtain ⟨v, I1, R1, L1, I2, L2, e1, k1, e2, hi2⟩ := (B_by (Z := Z) (xs (j + nI 1).toNatClampNeg) (xs (j + nI 2).toNatClampNeg)).lawI (by decide +kernel) (by decide +kernel) hi
  have f1 : cl Z 78 [.ref 0, .int (xs (j + nI 1).toNatClampNeg), .int (xs (j + nI 2).toNatClampNeg)] I R L = some (some (.int v), I1, R1, L1) := e1
  have f2 : cl Z 161 [.ref 87, .int (xs (j + nI 1).toNatClampNeg), .int (xs (j + nI 2).toNatClampNeg)] I1 R1 L1 = some (some (.int v), I2, R1, L2) := e2
  refine ⟨I2, R1, L2, hi2, ?_⟩
  rw [e192_512, e192_513, e192_514, e192_515, e192_516, e192_517 hx1, k0, e192_518, e192_519, e192_520, e192_521, e192_522 hx2, k0, e192_523 (by decide +kernel) (Nat.le_of_ble_eq_true rfl), f1, bI_s, e192_526, e192_527, e192_528, e192_529, e192_530, e192_531 hx1, k1, e192_532, e192_533, e192_534, e192_535, e192_536 hx2, k1, e192_537 (by decide +kernel) (Nat.le_of_ble_eq_true rfl), f2, bI_s, e192_540, if_pos rfl]
theorem lc_most {Z : Nat} {xs : Nat → Int32} {j : Int32} : LC Z xs j 545 := by
  intro I R L hx1 hx2 hx3 hi
  have k0 : I 1000 = xs := by
    obtain ⟨_, _, _, _, _, _, h⟩ := hi
    exact h
  obtain ⟨v, I1, R1, L1, I2, L2, e1, k1, e2, hi2⟩ := (B_most (Z := Z)).lawI (by decide +kernel) (by decide +kernel) hi
  have f1 : cl Z 79 [.ref 0] I R L = some (some (.int v), I1, R1, L1) := e1
  have f2 : cl Z 162 [.ref 87] I1 R1 L1 = some (some (.int v), I2, R1, L2) := e2
  refine ⟨I2, R1, L2, hi2, ?_⟩
  rw [e192_545, e192_546 (by decide +kernel) (Nat.le_of_ble_eq_true rfl), f1, bI_s, e192_549, e192_550 (by decide +kernel) (Nat.le_of_ble_eq_true rfl), f2, bI_s, e192_553, if_pos rfl]
theorem lc_share {Z : Nat} {xs : Nat → Int32} {j : Int32} : LC Z xs j 558 := by
  intro I R L hx1 hx2 hx3 hi
  have k0 : I 1000 = xs := by
    obtain ⟨_, _, _, _, _, _, h⟩ := hi
    exact h
  by_cases hb2 : xs (j + nI 2).toNatClampNeg = nI 0
  · obtain ⟨v, I1, R1, L1, I2, L2, e1, k1, e2, hi2⟩ := (B_share (Z := Z) (xs (j + nI 1).toNatClampNeg) (false)).lawI (by decide +kernel) (by decide +kernel) hi
    have f1 : cl Z 80 [.ref 0, .int (xs (j + nI 1).toNatClampNeg), .int (nI 0)] I R L = some (some (.int v), I1, R1, L1) := e1
    have f2 : cl Z 164 [.ref 87, .int (xs (j + nI 1).toNatClampNeg), .int (nI 0)] I1 R1 L1 = some (some (.int v), I2, R1, L2) := e2
    refine ⟨I2, R1, L2, hi2, ?_⟩
    rw [e192_558, e192_559, e192_560, e192_561, e192_562, e192_563 hx1, k0, e192_564, e192_565, e192_566, e192_567, e192_568 hx2, k0, e192_569, if_pos hb2, e192_576, e192_577 (by decide +kernel) (Nat.le_of_ble_eq_true rfl), f1, bI_s, e192_580, e192_581, e192_582, e192_583, e192_584, e192_585 hx1, k1, e192_586, e192_587, e192_588, e192_589, e192_590 hx2, k1, e192_591, if_pos hb2, e192_598, e192_599 (by decide +kernel) (Nat.le_of_ble_eq_true rfl), f2, bI_s, e192_602, if_pos rfl]
  · obtain ⟨v, I1, R1, L1, I2, L2, e1, k1, e2, hi2⟩ := (B_share (Z := Z) (xs (j + nI 1).toNatClampNeg) (true)).lawI (by decide +kernel) (by decide +kernel) hi
    have f1 : cl Z 80 [.ref 0, .int (xs (j + nI 1).toNatClampNeg), .int (nI 1)] I R L = some (some (.int v), I1, R1, L1) := e1
    have f2 : cl Z 164 [.ref 87, .int (xs (j + nI 1).toNatClampNeg), .int (nI 1)] I1 R1 L1 = some (some (.int v), I2, R1, L2) := e2
    refine ⟨I2, R1, L2, hi2, ?_⟩
    rw [e192_558, e192_559, e192_560, e192_561, e192_562, e192_563 hx1, k0, e192_564, e192_565, e192_566, e192_567, e192_568 hx2, k0, e192_569, if_neg hb2, e192_572, e192_573, e192_577 (by decide +kernel) (Nat.le_of_ble_eq_true rfl), f1, bI_s, e192_580, e192_581, e192_582, e192_583, e192_584, e192_585 hx1, k1, e192_586, e192_587, e192_588, e192_589, e192_590 hx2, k1, e192_591, if_neg hb2, e192_594, e192_595, e192_599 (by decide +kernel) (Nat.le_of_ble_eq_true rfl), f2, bI_s, e192_602, if_pos rfl]
theorem lc_rests {Z : Nat} {xs : Nat → Int32} {j : Int32} : LC Z xs j 607 := by
  intro I R L hx1 hx2 hx3 hi
  have k0 : I 1000 = xs := by
    obtain ⟨_, _, _, _, _, _, h⟩ := hi
    exact h
  obtain ⟨v, I1, R1, L1, I2, L2, e1, k1, e2, hi2⟩ := (B_rests (Z := Z) (xs (j + nI 1).toNatClampNeg) (xs (j + nI 2).toNatClampNeg) (xs (j + nI 3).toNatClampNeg)).lawI (by decide +kernel) (by decide +kernel) hi
  have f1 : cl Z 83 [.ref 0, .int (xs (j + nI 1).toNatClampNeg), .int (xs (j + nI 2).toNatClampNeg), .int (xs (j + nI 3).toNatClampNeg)] I R L = some (some (.int v), I1, R1, L1) := e1
  have f2 : cl Z 167 [.ref 87, .int (xs (j + nI 1).toNatClampNeg), .int (xs (j + nI 2).toNatClampNeg), .int (xs (j + nI 3).toNatClampNeg)] I1 R1 L1 = some (some (.int v), I2, R1, L2) := e2
  refine ⟨I2, R1, L2, hi2, ?_⟩
  rw [e192_607, e192_608, e192_609, e192_610, e192_611, e192_612 hx1, k0, e192_613, e192_614, e192_615, e192_616, e192_617 hx2, k0, e192_618, e192_619, e192_620, e192_621, e192_622 hx3, k0, e192_623 (by decide +kernel) (Nat.le_of_ble_eq_true rfl), f1, bI_s, e192_626, e192_627, e192_628, e192_629, e192_630, e192_631 hx1, k1, e192_632, e192_633, e192_634, e192_635, e192_636 hx2, k1, e192_637, e192_638, e192_639, e192_640, e192_641 hx3, k1, e192_642 (by decide +kernel) (Nat.le_of_ble_eq_true rfl), f2, bI_s, e192_645, if_pos rfl]
theorem lc_behind {Z : Nat} {xs : Nat → Int32} {j : Int32} : LC Z xs j 650 := by
  intro I R L hx1 hx2 hx3 hi
  have k0 : I 1000 = xs := by
    obtain ⟨_, _, _, _, _, _, h⟩ := hi
    exact h
  obtain ⟨v, I1, R1, L1, I2, L2, e1, k1, e2, hi2⟩ := (B_behind (Z := Z) (xs (j + nI 1).toNatClampNeg) (xs (j + nI 2).toNatClampNeg)).lawI (by decide +kernel) (by decide +kernel) hi
  have f1 : cl Z 86 [.ref 0, .int (xs (j + nI 1).toNatClampNeg), .int (xs (j + nI 2).toNatClampNeg)] I R L = some (some (.int v), I1, R1, L1) := e1
  have f2 : cl Z 169 [.ref 87, .int (xs (j + nI 1).toNatClampNeg), .int (xs (j + nI 2).toNatClampNeg)] I1 R1 L1 = some (some (.int v), I2, R1, L2) := e2
  refine ⟨I2, R1, L2, hi2, ?_⟩
  rw [e192_650, e192_651, e192_652, e192_653, e192_654, e192_655 hx1, k0, e192_656, e192_657, e192_658, e192_659, e192_660 hx2, k0, e192_661 (by decide +kernel) (Nat.le_of_ble_eq_true rfl), f1, bI_s, e192_664, e192_665, e192_666, e192_667, e192_668, e192_669 hx1, k1, e192_670, e192_671, e192_672, e192_673, e192_674 hx2, k1, e192_675 (by decide +kernel) (Nat.le_of_ble_eq_true rfl), f2, bI_s, e192_678, if_pos rfl]
theorem lc_quay {Z : Nat} {xs : Nat → Int32} {j : Int32} : LC Z xs j 683 := by
  intro I R L hx1 hx2 hx3 hi
  have k0 : I 1000 = xs := by
    obtain ⟨_, _, _, _, _, _, h⟩ := hi
    exact h
  obtain ⟨v, I1, R1, L1, I2, L2, e1, k1, e2, hi2⟩ := (B_quay (Z := Z) (xs (j + nI 1).toNatClampNeg)).lawI (by decide +kernel) (by decide +kernel) hi
  have f1 : cl Z 88 [.ref 0, .int (xs (j + nI 1).toNatClampNeg)] I R L = some (some (.int v), I1, R1, L1) := e1
  have f2 : cl Z 171 [.ref 87, .int (xs (j + nI 1).toNatClampNeg)] I1 R1 L1 = some (some (.int v), I2, R1, L2) := e2
  refine ⟨I2, R1, L2, hi2, ?_⟩
  rw [e192_683, e192_684, e192_685, e192_686, e192_687, e192_688 hx1, k0, e192_689 (by decide +kernel) (Nat.le_of_ble_eq_true rfl), f1, bI_s, e192_692, e192_693, e192_694, e192_695, e192_696, e192_697 hx1, k1, e192_698 (by decide +kernel) (Nat.le_of_ble_eq_true rfl), f2, bI_s, e192_701, if_pos rfl]
theorem lc_learn {Z : Nat} {xs : Nat → Int32} {j : Int32} : LC Z xs j 706 := by
  intro I R L hx1 hx2 hx3 hi
  have k0 : I 1000 = xs := by
    obtain ⟨_, _, _, _, _, _, h⟩ := hi
    exact h
  by_cases hb2 : xs (j + nI 2).toNatClampNeg = nI 0
  · by_cases hb3 : xs (j + nI 3).toNatClampNeg = nI 0
    · obtain ⟨v, I1, R1, L1, I2, L2, e1, k1, e2, hi2⟩ := (B_learn (Z := Z) (xs (j + nI 1).toNatClampNeg) (false) (false)).lawI (by decide +kernel) (by decide +kernel) hi
      have f1 : cl Z 89 [.ref 0, .int (xs (j + nI 1).toNatClampNeg), .int (nI 0), .int (nI 0)] I R L = some (some (.int v), I1, R1, L1) := e1
      have f2 : cl Z 173 [.ref 87, .int (xs (j + nI 1).toNatClampNeg), .int (nI 0), .int (nI 0)] I1 R1 L1 = some (some (.int v), I2, R1, L2) := e2
      refine ⟨I2, R1, L2, hi2, ?_⟩
      rw [e192_706, e192_707, e192_708, e192_709, e192_710, e192_711 hx1, k0, e192_712, e192_713, e192_714, e192_715, e192_716 hx2, k0, e192_717, if_pos hb2, e192_724, e192_725, e192_726, e192_727, e192_728, e192_729 hx3, k0, e192_730, if_pos hb3, e192_737, e192_738 (by decide +kernel) (Nat.le_of_ble_eq_true rfl), f1, bI_s, e192_741, e192_742, e192_743, e192_744, e192_745, e192_746 hx1, k1, e192_747, e192_748, e192_749, e192_750, e192_751 hx2, k1, e192_752, if_pos hb2, e192_759, e192_760, e192_761, e192_762, e192_763, e192_764 hx3, k1, e192_765, if_pos hb3, e192_772, e192_773 (by decide +kernel) (Nat.le_of_ble_eq_true rfl), f2, bI_s, e192_776, if_pos rfl]
    · obtain ⟨v, I1, R1, L1, I2, L2, e1, k1, e2, hi2⟩ := (B_learn (Z := Z) (xs (j + nI 1).toNatClampNeg) (false) (true)).lawI (by decide +kernel) (by decide +kernel) hi
      have f1 : cl Z 89 [.ref 0, .int (xs (j + nI 1).toNatClampNeg), .int (nI 0), .int (nI 1)] I R L = some (some (.int v), I1, R1, L1) := e1
      have f2 : cl Z 173 [.ref 87, .int (xs (j + nI 1).toNatClampNeg), .int (nI 0), .int (nI 1)] I1 R1 L1 = some (some (.int v), I2, R1, L2) := e2
      refine ⟨I2, R1, L2, hi2, ?_⟩
      rw [e192_706, e192_707, e192_708, e192_709, e192_710, e192_711 hx1, k0, e192_712, e192_713, e192_714, e192_715, e192_716 hx2, k0, e192_717, if_pos hb2, e192_724, e192_725, e192_726, e192_727, e192_728, e192_729 hx3, k0, e192_730, if_neg hb3, e192_733, e192_734, e192_738 (by decide +kernel) (Nat.le_of_ble_eq_true rfl), f1, bI_s, e192_741, e192_742, e192_743, e192_744, e192_745, e192_746 hx1, k1, e192_747, e192_748, e192_749, e192_750, e192_751 hx2, k1, e192_752, if_pos hb2, e192_759, e192_760, e192_761, e192_762, e192_763, e192_764 hx3, k1, e192_765, if_neg hb3, e192_768, e192_769, e192_773 (by decide +kernel) (Nat.le_of_ble_eq_true rfl), f2, bI_s, e192_776, if_pos rfl]
  · by_cases hb3 : xs (j + nI 3).toNatClampNeg = nI 0
    · obtain ⟨v, I1, R1, L1, I2, L2, e1, k1, e2, hi2⟩ := (B_learn (Z := Z) (xs (j + nI 1).toNatClampNeg) (true) (false)).lawI (by decide +kernel) (by decide +kernel) hi
      have f1 : cl Z 89 [.ref 0, .int (xs (j + nI 1).toNatClampNeg), .int (nI 1), .int (nI 0)] I R L = some (some (.int v), I1, R1, L1) := e1
      have f2 : cl Z 173 [.ref 87, .int (xs (j + nI 1).toNatClampNeg), .int (nI 1), .int (nI 0)] I1 R1 L1 = some (some (.int v), I2, R1, L2) := e2
      refine ⟨I2, R1, L2, hi2, ?_⟩
      rw [e192_706, e192_707, e192_708, e192_709, e192_710, e192_711 hx1, k0, e192_712, e192_713, e192_714, e192_715, e192_716 hx2, k0, e192_717, if_neg hb2, e192_720, e192_721, e192_725, e192_726, e192_727, e192_728, e192_729 hx3, k0, e192_730, if_pos hb3, e192_737, e192_738 (by decide +kernel) (Nat.le_of_ble_eq_true rfl), f1, bI_s, e192_741, e192_742, e192_743, e192_744, e192_745, e192_746 hx1, k1, e192_747, e192_748, e192_749, e192_750, e192_751 hx2, k1, e192_752, if_neg hb2, e192_755, e192_756, e192_760, e192_761, e192_762, e192_763, e192_764 hx3, k1, e192_765, if_pos hb3, e192_772, e192_773 (by decide +kernel) (Nat.le_of_ble_eq_true rfl), f2, bI_s, e192_776, if_pos rfl]
    · obtain ⟨v, I1, R1, L1, I2, L2, e1, k1, e2, hi2⟩ := (B_learn (Z := Z) (xs (j + nI 1).toNatClampNeg) (true) (true)).lawI (by decide +kernel) (by decide +kernel) hi
      have f1 : cl Z 89 [.ref 0, .int (xs (j + nI 1).toNatClampNeg), .int (nI 1), .int (nI 1)] I R L = some (some (.int v), I1, R1, L1) := e1
      have f2 : cl Z 173 [.ref 87, .int (xs (j + nI 1).toNatClampNeg), .int (nI 1), .int (nI 1)] I1 R1 L1 = some (some (.int v), I2, R1, L2) := e2
      refine ⟨I2, R1, L2, hi2, ?_⟩
      rw [e192_706, e192_707, e192_708, e192_709, e192_710, e192_711 hx1, k0, e192_712, e192_713, e192_714, e192_715, e192_716 hx2, k0, e192_717, if_neg hb2, e192_720, e192_721, e192_725, e192_726, e192_727, e192_728, e192_729 hx3, k0, e192_730, if_neg hb3, e192_733, e192_734, e192_738 (by decide +kernel) (Nat.le_of_ble_eq_true rfl), f1, bI_s, e192_741, e192_742, e192_743, e192_744, e192_745, e192_746 hx1, k1, e192_747, e192_748, e192_749, e192_750, e192_751 hx2, k1, e192_752, if_neg hb2, e192_755, e192_756, e192_760, e192_761, e192_762, e192_763, e192_764 hx3, k1, e192_765, if_neg hb3, e192_768, e192_769, e192_773 (by decide +kernel) (Nat.le_of_ble_eq_true rfl), f2, bI_s, e192_776, if_pos rfl]
theorem lc_unlearn {Z : Nat} {xs : Nat → Int32} {j : Int32} : LC Z xs j 781 := by
  intro I R L hx1 hx2 hx3 hi
  have k0 : I 1000 = xs := by
    obtain ⟨_, _, _, _, _, _, h⟩ := hi
    exact h
  obtain ⟨v, I1, R1, L1, I2, L2, e1, k1, e2, hi2⟩ := (B_unlearn (Z := Z)).lawI (by decide +kernel) (by decide +kernel) hi
  have f1 : cl Z 90 [.ref 0] I R L = some (some (.int v), I1, R1, L1) := e1
  have f2 : cl Z 174 [.ref 87] I1 R1 L1 = some (some (.int v), I2, R1, L2) := e2
  refine ⟨I2, R1, L2, hi2, ?_⟩
  rw [e192_781, e192_782 (by decide +kernel) (Nat.le_of_ble_eq_true rfl), f1, bI_s, e192_785, e192_786 (by decide +kernel) (Nat.le_of_ble_eq_true rfl), f2, bI_s, e192_789, if_pos rfl]
theorem lc_laws {Z : Nat} {xs : Nat → Int32} {j : Int32} : LC Z xs j 794 := by
  intro I R L hx1 hx2 hx3 hi
  have k0 : I 1000 = xs := by
    obtain ⟨_, _, _, _, _, _, h⟩ := hi
    exact h
  obtain ⟨v, I1, R1, L1, I2, L2, e1, k1, e2, hi2⟩ := (B_laws (Z := Z)).lawI (by decide +kernel) (by decide +kernel) hi
  have f1 : cl Z 91 [.ref 0] I R L = some (some (.int v), I1, R1, L1) := e1
  have f2 : cl Z 175 [.ref 87] I1 R1 L1 = some (some (.int v), I2, R1, L2) := e2
  refine ⟨I2, R1, L2, hi2, ?_⟩
  rw [e192_794, e192_795 (by decide +kernel) (Nat.le_of_ble_eq_true rfl), f1, bI_s, e192_798, e192_799 (by decide +kernel) (Nat.le_of_ble_eq_true rfl), f2, bI_s, e192_802, if_pos rfl]
theorem lc_next {Z : Nat} {xs : Nat → Int32} {j : Int32} : LC Z xs j 807 := by
  intro I R L hx1 hx2 hx3 hi
  have k0 : I 1000 = xs := by
    obtain ⟨_, _, _, _, _, _, h⟩ := hi
    exact h
  obtain ⟨v, I1, R1, L1, I2, L2, e1, k1, e2, hi2⟩ := (B_next (Z := Z)).lawI (by decide +kernel) (by decide +kernel) hi
  have f1 : cl Z 93 [.ref 0] I R L = some (some (.int v), I1, R1, L1) := e1
  have f2 : cl Z 177 [.ref 87] I1 R1 L1 = some (some (.int v), I2, R1, L2) := e2
  refine ⟨I2, R1, L2, hi2, ?_⟩
  rw [e192_807, e192_808 (by decide +kernel) (Nat.le_of_ble_eq_true rfl), f1, bI_s, e192_811, e192_812 (by decide +kernel) (Nat.le_of_ble_eq_true rfl), f2, bI_s, e192_815, if_pos rfl]
theorem lc_see {Z : Nat} {xs : Nat → Int32} {j : Int32} : LC Z xs j 820 := by
  intro I R L hx1 hx2 hx3 hi
  have k0 : I 1000 = xs := by
    obtain ⟨_, _, _, _, _, _, h⟩ := hi
    exact h
  by_cases hb2 : xs (j + nI 2).toNatClampNeg = nI 0
  · obtain ⟨v, I1, R1, L1, I2, L2, e1, k1, e2, hi2⟩ := (B_see (Z := Z) (xs (j + nI 1).toNatClampNeg) (false)).lawI (by decide +kernel) (by decide +kernel) hi
    have f1 : cl Z 95 [.ref 0, .int (xs (j + nI 1).toNatClampNeg), .int (nI 0)] I R L = some (some (.int v), I1, R1, L1) := e1
    have f2 : cl Z 178 [.ref 87, .int (xs (j + nI 1).toNatClampNeg), .int (nI 0)] I1 R1 L1 = some (some (.int v), I2, R1, L2) := e2
    refine ⟨I2, R1, L2, hi2, ?_⟩
    rw [e192_820, e192_821, e192_822, e192_823, e192_824, e192_825 hx1, k0, e192_826, e192_827, e192_828, e192_829, e192_830 hx2, k0, e192_831, if_pos hb2, e192_838, e192_839 (by decide +kernel) (Nat.le_of_ble_eq_true rfl), f1, bI_s, e192_842, e192_843, e192_844, e192_845, e192_846, e192_847 hx1, k1, e192_848, e192_849, e192_850, e192_851, e192_852 hx2, k1, e192_853, if_pos hb2, e192_860, e192_861 (by decide +kernel) (Nat.le_of_ble_eq_true rfl), f2, bI_s, e192_864, if_pos rfl]
  · obtain ⟨v, I1, R1, L1, I2, L2, e1, k1, e2, hi2⟩ := (B_see (Z := Z) (xs (j + nI 1).toNatClampNeg) (true)).lawI (by decide +kernel) (by decide +kernel) hi
    have f1 : cl Z 95 [.ref 0, .int (xs (j + nI 1).toNatClampNeg), .int (nI 1)] I R L = some (some (.int v), I1, R1, L1) := e1
    have f2 : cl Z 178 [.ref 87, .int (xs (j + nI 1).toNatClampNeg), .int (nI 1)] I1 R1 L1 = some (some (.int v), I2, R1, L2) := e2
    refine ⟨I2, R1, L2, hi2, ?_⟩
    rw [e192_820, e192_821, e192_822, e192_823, e192_824, e192_825 hx1, k0, e192_826, e192_827, e192_828, e192_829, e192_830 hx2, k0, e192_831, if_neg hb2, e192_834, e192_835, e192_839 (by decide +kernel) (Nat.le_of_ble_eq_true rfl), f1, bI_s, e192_842, e192_843, e192_844, e192_845, e192_846, e192_847 hx1, k1, e192_848, e192_849, e192_850, e192_851, e192_852 hx2, k1, e192_853, if_neg hb2, e192_856, e192_857, e192_861 (by decide +kernel) (Nat.le_of_ble_eq_true rfl), f2, bI_s, e192_864, if_pos rfl]
theorem lc_unsee {Z : Nat} {xs : Nat → Int32} {j : Int32} : LC Z xs j 869 := by
  intro I R L hx1 hx2 hx3 hi
  have k0 : I 1000 = xs := by
    obtain ⟨_, _, _, _, _, _, h⟩ := hi
    exact h
  obtain ⟨v, I1, R1, L1, I2, L2, e1, k1, e2, hi2⟩ := (B_unsee (Z := Z)).lawI (by decide +kernel) (by decide +kernel) hi
  have f1 : cl Z 96 [.ref 0] I R L = some (some (.int v), I1, R1, L1) := e1
  have f2 : cl Z 179 [.ref 87] I1 R1 L1 = some (some (.int v), I2, R1, L2) := e2
  refine ⟨I2, R1, L2, hi2, ?_⟩
  rw [e192_869, e192_870 (by decide +kernel) (Nat.le_of_ble_eq_true rfl), f1, bI_s, e192_873, e192_874 (by decide +kernel) (Nat.le_of_ble_eq_true rfl), f2, bI_s, e192_877, if_pos rfl]
theorem lc_heard {Z : Nat} {xs : Nat → Int32} {j : Int32} : LC Z xs j 882 := by
  intro I R L hx1 hx2 hx3 hi
  have k0 : I 1000 = xs := by
    obtain ⟨_, _, _, _, _, _, h⟩ := hi
    exact h
  obtain ⟨v, I1, R1, L1, I2, L2, e1, k1, e2, hi2⟩ := (B_heard (Z := Z) (xs (j + nI 1).toNatClampNeg) (xs (j + nI 2).toNatClampNeg) (xs (j + nI 3).toNatClampNeg)).lawI (by decide +kernel) (by decide +kernel) hi
  have f1 : cl Z 97 [.ref 0, .int (xs (j + nI 1).toNatClampNeg), .int (xs (j + nI 2).toNatClampNeg), .int (xs (j + nI 3).toNatClampNeg)] I R L = some (some (.int v), I1, R1, L1) := e1
  have f2 : cl Z 180 [.ref 87, .int (xs (j + nI 1).toNatClampNeg), .int (xs (j + nI 2).toNatClampNeg), .int (xs (j + nI 3).toNatClampNeg)] I1 R1 L1 = some (some (.int v), I2, R1, L2) := e2
  refine ⟨I2, R1, L2, hi2, ?_⟩
  rw [e192_882, e192_883, e192_884, e192_885, e192_886, e192_887 hx1, k0, e192_888, e192_889, e192_890, e192_891, e192_892 hx2, k0, e192_893, e192_894, e192_895, e192_896, e192_897 hx3, k0, e192_898 (by decide +kernel) (Nat.le_of_ble_eq_true rfl), f1, bI_s, e192_901, e192_902, e192_903, e192_904, e192_905, e192_906 hx1, k1, e192_907, e192_908, e192_909, e192_910, e192_911 hx2, k1, e192_912, e192_913, e192_914, e192_915, e192_916 hx3, k1, e192_917 (by decide +kernel) (Nat.le_of_ble_eq_true rfl), f2, bI_s, e192_920, if_pos rfl]
theorem lc_forgotten {Z : Nat} {xs : Nat → Int32} {j : Int32} : LC Z xs j 925 := by
  intro I R L hx1 hx2 hx3 hi
  have k0 : I 1000 = xs := by
    obtain ⟨_, _, _, _, _, _, h⟩ := hi
    exact h
  by_cases hb3 : xs (j + nI 3).toNatClampNeg = nI 0
  · obtain ⟨v, I1, R1, L1, I2, L2, e1, k1, e2, hi2⟩ := (B_forgotten (Z := Z) (xs (j + nI 1).toNatClampNeg) (xs (j + nI 2).toNatClampNeg) (false)).lawI (by decide +kernel) (by decide +kernel) hi
    have f1 : cl Z 99 [.ref 0, .int (xs (j + nI 1).toNatClampNeg), .int (xs (j + nI 2).toNatClampNeg), .int (nI 0)] I R L = some (some (.int v), I1, R1, L1) := e1
    have f2 : cl Z 182 [.ref 87, .int (xs (j + nI 1).toNatClampNeg), .int (xs (j + nI 2).toNatClampNeg), .int (nI 0)] I1 R1 L1 = some (some (.int v), I2, R1, L2) := e2
    refine ⟨I2, R1, L2, hi2, ?_⟩
    rw [e192_925, e192_926, e192_927, e192_928, e192_929, e192_930 hx1, k0, e192_931, e192_932, e192_933, e192_934, e192_935 hx2, k0, e192_936, e192_937, e192_938, e192_939, e192_940 hx3, k0, e192_941, if_pos hb3, e192_948, e192_949 (by decide +kernel) (Nat.le_of_ble_eq_true rfl), f1, bI_s, e192_952, e192_953, e192_954, e192_955, e192_956, e192_957 hx1, k1, e192_958, e192_959, e192_960, e192_961, e192_962 hx2, k1, e192_963, e192_964, e192_965, e192_966, e192_967 hx3, k1, e192_968, if_pos hb3, e192_975, e192_976 (by decide +kernel) (Nat.le_of_ble_eq_true rfl), f2, bI_s, e192_979, if_pos rfl]
  · obtain ⟨v, I1, R1, L1, I2, L2, e1, k1, e2, hi2⟩ := (B_forgotten (Z := Z) (xs (j + nI 1).toNatClampNeg) (xs (j + nI 2).toNatClampNeg) (true)).lawI (by decide +kernel) (by decide +kernel) hi
    have f1 : cl Z 99 [.ref 0, .int (xs (j + nI 1).toNatClampNeg), .int (xs (j + nI 2).toNatClampNeg), .int (nI 1)] I R L = some (some (.int v), I1, R1, L1) := e1
    have f2 : cl Z 182 [.ref 87, .int (xs (j + nI 1).toNatClampNeg), .int (xs (j + nI 2).toNatClampNeg), .int (nI 1)] I1 R1 L1 = some (some (.int v), I2, R1, L2) := e2
    refine ⟨I2, R1, L2, hi2, ?_⟩
    rw [e192_925, e192_926, e192_927, e192_928, e192_929, e192_930 hx1, k0, e192_931, e192_932, e192_933, e192_934, e192_935 hx2, k0, e192_936, e192_937, e192_938, e192_939, e192_940 hx3, k0, e192_941, if_neg hb3, e192_944, e192_945, e192_949 (by decide +kernel) (Nat.le_of_ble_eq_true rfl), f1, bI_s, e192_952, e192_953, e192_954, e192_955, e192_956, e192_957 hx1, k1, e192_958, e192_959, e192_960, e192_961, e192_962 hx2, k1, e192_963, e192_964, e192_965, e192_966, e192_967 hx3, k1, e192_968, if_neg hb3, e192_971, e192_972, e192_976 (by decide +kernel) (Nat.le_of_ble_eq_true rfl), f2, bI_s, e192_979, if_pos rfl]
theorem lc_seed {Z : Nat} {xs : Nat → Int32} {j : Int32} : LC Z xs j 984 := by
  intro I R L hx1 hx2 hx3 hi
  have k0 : I 1000 = xs := by
    obtain ⟨_, _, _, _, _, _, h⟩ := hi
    exact h
  obtain ⟨v, I1, R1, L1, I2, L2, e1, k1, e2, hi2⟩ := (B_seed (Z := Z) ((((xs (j + nI 1).toNatClampNeg).toInt64 <<< ((nI 32).toInt64 &&& 63)) ||| ((xs (j + nI 2).toNatClampNeg).toInt64 &&& (lN 4294967295))))).lawL (by decide +kernel) hi
  have f1 : cl Z 101 [.ref 0, .long ((((xs (j + nI 1).toNatClampNeg).toInt64 <<< ((nI 32).toInt64 &&& 63)) ||| ((xs (j + nI 2).toNatClampNeg).toInt64 &&& (lN 4294967295))))] I R L = some (some (.long v), I1, R1, L1) := e1
  have f2 : cl Z 183 [.ref 87, .long ((((xs (j + nI 1).toNatClampNeg).toInt64 <<< ((nI 32).toInt64 &&& 63)) ||| ((xs (j + nI 2).toNatClampNeg).toInt64 &&& (lN 4294967295))))] I1 R1 L1 = some (some (.long v), I2, R1, L2) := e2
  refine ⟨I2, R1, L2, hi2, ?_⟩
  rw [e192_984, e192_985, e192_986, e192_987, e192_988, e192_989 hx1, k0, e192_990, e192_991, e192_993, e192_994, e192_995, e192_996, e192_997, e192_998 hx2, k0, e192_999, e192_1000, e192_1003, e192_1004, e192_1005 (by decide +kernel) (Nat.le_of_ble_eq_true rfl), f1, bL_s, e192_1008, e192_1009, e192_1010, e192_1011, e192_1012, e192_1013 hx1, k1, e192_1014, e192_1015, e192_1017, e192_1018, e192_1019, e192_1020, e192_1021, e192_1022 hx2, k1, e192_1023, e192_1024, e192_1027, e192_1028, e192_1029 (by decide +kernel) (Nat.le_of_ble_eq_true rfl), f2, bL_s, e192_1032, lg_cmp_self, e192_1033, if_pos rfl]
theorem lc_winds {Z : Nat} {xs : Nat → Int32} {j : Int32} : LC Z xs j 1038 := by
  intro I R L hx1 hx2 hx3 hi
  have k0 : I 1000 = xs := by
    obtain ⟨_, _, _, _, _, _, h⟩ := hi
    exact h
  obtain ⟨v, I1, R1, L1, I2, L2, e1, k1, e2, hi2⟩ := (B_winds (Z := Z) (xs (j + nI 1).toNatClampNeg)).lawI (by decide +kernel) (by decide +kernel) hi
  have f1 : cl Z 102 [.ref 0, .int (xs (j + nI 1).toNatClampNeg)] I R L = some (some (.int v), I1, R1, L1) := e1
  have f2 : cl Z 184 [.ref 87, .int (xs (j + nI 1).toNatClampNeg)] I1 R1 L1 = some (some (.int v), I2, R1, L2) := e2
  refine ⟨I2, R1, L2, hi2, ?_⟩
  rw [e192_1038, e192_1039, e192_1040, e192_1041, e192_1042, e192_1043 hx1, k0, e192_1044 (by decide +kernel) (Nat.le_of_ble_eq_true rfl), f1, bI_s, e192_1047, e192_1048, e192_1049, e192_1050, e192_1051, e192_1052 hx1, k1, e192_1053 (by decide +kernel) (Nat.le_of_ble_eq_true rfl), f2, bI_s, e192_1056, if_pos rfl]
theorem lc_keep {Z : Nat} {xs : Nat → Int32} {j : Int32} : LC Z xs j 1061 := by
  intro I R L hx1 hx2 hx3 hi
  have k0 : I 1000 = xs := by
    obtain ⟨_, _, _, _, _, _, h⟩ := hi
    exact h
  obtain ⟨v, I1, R1, L1, I2, L2, e1, k1, e2, hi2⟩ := (B_keep (Z := Z) (xs (j + nI 1).toNatClampNeg)).lawI (by decide +kernel) (by decide +kernel) hi
  have f1 : cl Z 103 [.ref 0, .int (xs (j + nI 1).toNatClampNeg)] I R L = some (some (.int v), I1, R1, L1) := e1
  have f2 : cl Z 185 [.ref 87, .int (xs (j + nI 1).toNatClampNeg)] I1 R1 L1 = some (some (.int v), I2, R1, L2) := e2
  refine ⟨I2, R1, L2, hi2, ?_⟩
  rw [e192_1061, e192_1062, e192_1063, e192_1064, e192_1065, e192_1066 hx1, k0, e192_1067 (by decide +kernel) (Nat.le_of_ble_eq_true rfl), f1, bI_s, e192_1070, e192_1071, e192_1072, e192_1073, e192_1074, e192_1075 hx1, k1, e192_1076 (by decide +kernel) (Nat.le_of_ble_eq_true rfl), f2, bI_s, e192_1079, if_pos rfl]
theorem lc_again {Z : Nat} {xs : Nat → Int32} {j : Int32} : LC Z xs j 1084 := by
  intro I R L hx1 hx2 hx3 hi
  have k0 : I 1000 = xs := by
    obtain ⟨_, _, _, _, _, _, h⟩ := hi
    exact h
  obtain ⟨v, I1, R1, L1, I2, L2, e1, k1, e2, hi2⟩ := (B_again (Z := Z) (xs (j + nI 1).toNatClampNeg)).lawI (by decide +kernel) (by decide +kernel) hi
  have f1 : cl Z 104 [.ref 0, .int (xs (j + nI 1).toNatClampNeg)] I R L = some (some (.int v), I1, R1, L1) := e1
  have f2 : cl Z 186 [.ref 87, .int (xs (j + nI 1).toNatClampNeg)] I1 R1 L1 = some (some (.int v), I2, R1, L2) := e2
  refine ⟨I2, R1, L2, hi2, ?_⟩
  rw [e192_1084, e192_1085, e192_1086, e192_1087, e192_1088, e192_1089 hx1, k0, e192_1090 (by decide +kernel) (Nat.le_of_ble_eq_true rfl), f1, bI_s, e192_1093, e192_1094, e192_1095, e192_1096, e192_1097, e192_1098 hx1, k1, e192_1099 (by decide +kernel) (Nat.le_of_ble_eq_true rfl), f2, bI_s, e192_1102, if_pos rfl]
theorem lc_count {Z : Nat} {xs : Nat → Int32} {j : Int32} : LC Z xs j 1107 := by
  intro I R L hx1 hx2 hx3 hi
  have k0 : I 1000 = xs := by
    obtain ⟨_, _, _, _, _, _, h⟩ := hi
    exact h
  obtain ⟨v, I1, R1, L1, I2, L2, e1, k1, e2, hi2⟩ := (B_count (Z := Z) (xs (j + nI 1).toNatClampNeg)).lawI (by decide +kernel) (by decide +kernel) hi
  have f1 : cl Z 105 [.ref 0, .int (xs (j + nI 1).toNatClampNeg)] I R L = some (some (.int v), I1, R1, L1) := e1
  have f2 : cl Z 187 [.ref 87, .int (xs (j + nI 1).toNatClampNeg)] I1 R1 L1 = some (some (.int v), I2, R1, L2) := e2
  refine ⟨I2, R1, L2, hi2, ?_⟩
  rw [e192_1107, e192_1108, e192_1109, e192_1110, e192_1111, e192_1112 hx1, k0, e192_1113 (by decide +kernel) (Nat.le_of_ble_eq_true rfl), f1, bI_s, e192_1116, e192_1117, e192_1118, e192_1119, e192_1120, e192_1121 hx1, k1, e192_1122 (by decide +kernel) (Nat.le_of_ble_eq_true rfl), f2, bI_s, e192_1125, if_pos rfl]
theorem lc_all {Z : Nat} {xs : Nat → Int32} {j : Int32} {x : Int32} : ∀ (I : ab_I) (R : ab_R) (L : ab_L), ab_ix (j + nI 1) (al Z 1000) = true → ab_ix (j + nI 2) (al Z 1000) = true → ab_ix (j + nI 3) (al Z 1000) = true → Inv Z xs I R L → ∃ I' R' L', Inv Z xs I' R' L' ∧ ex Z 112 6626 192 32 [some (.ref 1000), some (.ref 0), some (.ref 87), some (.int j)] [.int x] I R L = ex Z 112 6626 192 1130 [some (.ref 1000), some (.ref 0), some (.ref 87), some (.int j)] [] I' R' L' := by
  intro I R L h1 h2 h3 hi
  rw [e192_32]
  by_cases q0 : x = nI 0
  · rw [if_pos q0]
    exact lc_write I R L h1 h2 h3 hi
  rw [if_neg q0]
  by_cases q1 : x = nI 1
  · rw [if_pos q1]
    exact lc_wipe I R L h1 h2 h3 hi
  rw [if_neg q1]
  by_cases q2 : x = nI 2
  · rw [if_pos q2]
    exact lc_fault I R L h1 h2 h3 hi
  rw [if_neg q2]
  by_cases q3 : x = nI 3
  · rw [if_pos q3]
    exact lc_coast I R L h1 h2 h3 hi
  rw [if_neg q3]
  by_cases q4 : x = nI 4
  · rw [if_pos q4]
    exact lc_house I R L h1 h2 h3 hi
  rw [if_neg q4]
  by_cases q5 : x = nI 5
  · rw [if_pos q5]
    exact lc_thing I R L h1 h2 h3 hi
  rw [if_neg q5]
  by_cases q6 : x = nI 6
  · rw [if_pos q6]
    exact lc_say I R L h1 h2 h3 hi
  rw [if_neg q6]
  by_cases q7 : x = nI 7
  · rw [if_pos q7]
    exact lc_stone I R L h1 h2 h3 hi
  rw [if_neg q7]
  by_cases q8 : x = nI 8
  · rw [if_pos q8]
    exact lc_pay I R L h1 h2 h3 hi
  rw [if_neg q8]
  by_cases q9 : x = nI 9
  · rw [if_pos q9]
    exact lc_blow I R L h1 h2 h3 hi
  rw [if_neg q9]
  by_cases q10 : x = nI 10
  · rw [if_pos q10]
    exact lc_dawn I R L h1 h2 h3 hi
  rw [if_neg q10]
  by_cases q11 : x = nI 11
  · rw [if_pos q11]
    exact lc_undo I R L h1 h2 h3 hi
  rw [if_neg q11]
  by_cases q12 : x = nI 12
  · rw [if_pos q12]
    exact lc_judge I R L h1 h2 h3 hi
  rw [if_neg q12]
  by_cases q13 : x = nI 13
  · rw [if_pos q13]
    exact lc_toKeep I R L h1 h2 h3 hi
  rw [if_neg q13]
  by_cases q14 : x = nI 14
  · rw [if_pos q14]
    exact lc_by I R L h1 h2 h3 hi
  rw [if_neg q14]
  by_cases q15 : x = nI 15
  · rw [if_pos q15]
    exact lc_most I R L h1 h2 h3 hi
  rw [if_neg q15]
  by_cases q16 : x = nI 16
  · rw [if_pos q16]
    exact lc_share I R L h1 h2 h3 hi
  rw [if_neg q16]
  by_cases q17 : x = nI 17
  · rw [if_pos q17]
    exact lc_rests I R L h1 h2 h3 hi
  rw [if_neg q17]
  by_cases q18 : x = nI 18
  · rw [if_pos q18]
    exact lc_behind I R L h1 h2 h3 hi
  rw [if_neg q18]
  by_cases q19 : x = nI 19
  · rw [if_pos q19]
    exact lc_quay I R L h1 h2 h3 hi
  rw [if_neg q19]
  by_cases q20 : x = nI 20
  · rw [if_pos q20]
    exact lc_learn I R L h1 h2 h3 hi
  rw [if_neg q20]
  by_cases q21 : x = nI 21
  · rw [if_pos q21]
    exact lc_unlearn I R L h1 h2 h3 hi
  rw [if_neg q21]
  by_cases q22 : x = nI 22
  · rw [if_pos q22]
    exact lc_laws I R L h1 h2 h3 hi
  rw [if_neg q22]
  by_cases q23 : x = nI 23
  · rw [if_pos q23]
    exact lc_next I R L h1 h2 h3 hi
  rw [if_neg q23]
  by_cases q24 : x = nI 24
  · rw [if_pos q24]
    exact lc_see I R L h1 h2 h3 hi
  rw [if_neg q24]
  by_cases q25 : x = nI 25
  · rw [if_pos q25]
    exact lc_unsee I R L h1 h2 h3 hi
  rw [if_neg q25]
  by_cases q26 : x = nI 26
  · rw [if_pos q26]
    exact lc_heard I R L h1 h2 h3 hi
  rw [if_neg q26]
  by_cases q27 : x = nI 27
  · rw [if_pos q27]
    exact lc_forgotten I R L h1 h2 h3 hi
  rw [if_neg q27]
  by_cases q28 : x = nI 28
  · rw [if_pos q28]
    exact lc_seed I R L h1 h2 h3 hi
  rw [if_neg q28]
  by_cases q29 : x = nI 29
  · rw [if_pos q29]
    exact lc_winds I R L h1 h2 h3 hi
  rw [if_neg q29]
  by_cases q30 : x = nI 30
  · rw [if_pos q30]
    exact lc_keep I R L h1 h2 h3 hi
  rw [if_neg q30]
  by_cases q31 : x = nI 31
  · rw [if_pos q31]
    exact lc_again I R L h1 h2 h3 hi
  rw [if_neg q31]
  by_cases q32 : x = nI 32
  · rw [if_pos q32]
    exact lc_count I R L h1 h2 h3 hi
  rw [if_neg q32]
  exact ⟨I, R, L, hi, rfl⟩
theorem nI_sub4 {n : Nat} (h : n < 2 ^ 31) : (nI n - nI 4).toInt = (n : Int) - 4 := by
  rw [Int32.toInt_sub, nI_toInt h, nI_toInt (by decide), Int.bmod_eq_of_le (by omega) (by omega)]
  rfl
theorem lawix {Z i k : Nat} (hZ : Z < 2 ^ 31) (h : i + k < Z) : ab_ix (nI i + nI k) (al Z 1000) = true := by
  rw [al_hi, nI_add]
  exact ab_ixN h hZ
theorem law_loop {Z : Nat} (hZ : Z < 2 ^ 31) {xs : Nat → Int32} : ∀ (n i : Nat) (I : ab_I) (R : ab_R) (L : ab_L), Z < i + n → i ≤ Z → Inv Z xs I R L → ∃ I' R' L', ex Z 112 6626 192 18 [some (.ref 1000), some (.ref 0), some (.ref 87), some (.int (nI i))] [] I R L = some (some (.int (nI 1)), I', R', L') := by
  intro n
  induction n with
  | zero =>
    intro i I R L h h'
    omega
  | succ n ih =>
    intro i I R L hn hiZ hi
    have k0 : I 1000 = xs := by
      obtain ⟨_, _, _, _, _, _, h⟩ := hi
      exact h
    have hc : (nI (al Z 1000) - nI 4 < nI i) ↔ Z < i + 4 := by
      rw [al_hi, Int32.lt_iff_toInt_lt, nI_sub4 hZ, nI_toInt (by omega)]
      omega
    rw [e192_18, e192_19, e192_20 (Or.inr rfl), e192_21, e192_22, e192_23]
    by_cases h : Z < i + 4
    · rw [if_pos (hc.mpr h), e192_1136, e192_1137 (by decide : nI 1 = 0 ∨ nI 1 = 1)]
      exact ⟨I, R, L, rfl⟩
    · rw [if_neg (fun a => h (hc.mp a)), e192_26, e192_27, e192_28 (by rw [al_hi]; exact ab_ixN (by omega) hZ), e192_29, e192_31]
      obtain ⟨I', R', L', hi', e⟩ := lc_all (Z := Z) (xs := xs) (j := nI i) (x := I 1000 (nI i).toNatClampNeg &&& nI 63) I R L (lawix hZ (by omega)) (lawix hZ (by omega)) (lawix hZ (by omega)) hi
      rw [e, e192_1130 (nl_a 87), e192_1133, nI_add]
      exact ih (i + 4) I' R' L' (by omega) (by omega) hi'
