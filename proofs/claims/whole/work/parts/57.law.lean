/-! THE LAW: one call after the other -/
def Sc (M0 M : tM) : Prop := M.1 121 = M0.1 121 ∧ M.1 122 = M0.1 122
theorem Sc_C {M0 M M' : tM} (h : Sc M0 M) (hs : SmR M M') : Sc M0 M' := ⟨(hs 121 (by omega)).1.trans h.1, (hs 122 (by omega)).1.trans h.2⟩
theorem i32_rng (x : Int32) : -2147483648 ≤ x.toInt ∧ x.toInt ≤ 2147483647 := ⟨Int32.le_toInt x, by have := Int32.toInt_lt x; omega⟩
theorem lw_row {D : Nat} (hD : 3 ≤ D) (hD2 : 3 ≤ D) {M : tM} {S : tS} (hC : RelC S M) (hR : RelR S M) (hI : sInv S) {n i : Nat} (hl : ∀ N, Sc M N → alen N 121 = n) (hn : n ≤ 100000) (hi : i + 6 ≤ n) : ∃ M' S', rn (exF D) C_L_law 204 [some (.ref 121), some (.ref 88), some (.ref 90), some (.int (iI i))] [] M = rn (exF D) C_L_law 1564 [some (.ref 121), some (.ref 88), some (.ref 90), some (.int (iI i))] [] M' ∧ RelC S' M' ∧ RelR S' M' ∧ sInv S' ∧ Sc M M' := by
  have v1 := i32_rng (M.1 121 (i + 1))
  have v2 := i32_rng (M.1 121 (i + 2))
  have v3 := i32_rng (M.1 121 (i + 3))
  have e : akind 121 = 7 := rfl
  obtain ⟨M1, a1, a2, a3⟩ := c_row (D := D) (by omega) hC hI v1 v2 v3
  obtain ⟨M2, b1, b2, b3⟩ := d_row (D := D) (by omega) (RelR_SmC hR a3) hI v1 v2 v3
  have s1 : Sc M M1 := ⟨(a3 121 (by omega)).1, (a3 122 (by omega)).1⟩
  have s2 : Sc M M2 := Sc_C s1 b3
  simp only [iI_of] at a1 b1
  have l1 := hl M ⟨rfl, rfl⟩
  have l2 := hl M1 s1
  have k1 := s1.1
  refine ⟨M2, _, ?_, RelC_SmR a2 b3, b2, iv_row hI _ _ _, s2⟩
  simp (maxSteps := 4000000) (disch := omega) only [s_L_law_204, s_L_law_205, s_L_law_206, s_L_law_207, s_L_law_208, s_L_law_209, s_L_law_210, s_L_law_211, s_L_law_212, s_L_law_213, s_L_law_214, s_L_law_215, s_L_law_216, s_L_law_217, s_L_law_218, s_L_law_219, s_L_law_220, s_L_law_223, s_L_law_224, s_L_law_225, s_L_law_226, s_L_law_227, s_L_law_228, s_L_law_229, s_L_law_230, s_L_law_231, s_L_law_232, s_L_law_233, s_L_law_234, s_L_law_235, s_L_law_236, s_L_law_237, s_L_law_238, s_L_law_239, s_L_law_242, s_L_law_245, s_L_law_246, e, l1, l2, k1, cls_88, cls_90, tn_add, tn_1, a1, b1, iI_add, iI_sub, iI_mul, iI_neg, iI_lt, iI_le, iI_eq, iI_toInt, tn_n, tn_1, inb_I, Int.reduceEq, Int.reduceLT, Int.reduceLE, Int.reduceAdd, Int.reduceSub, Int.reduceMul, Int.reduceNeg, Int.reduceToNat, Nat.reduceAdd, Nat.reduceMul, Int.reduceNatCast, reduceCtorEq, Int.cast_ofNat_Int, bi_tr, bi_fa, bi_0, bi_1, not_true_eq_false, not_false_eq_true, rnk_v, rnk_n, ↓reduceIte, i00, i11, ibi, or_true, true_or, and_true, true_and, List.cons_append, List.nil_append, Option.toList, nop]
theorem lw_copy {D : Nat} (hD : 5 ≤ D) (hD2 : 3 ≤ D) {M : tM} {S : tS} (hC : RelC S M) (hR : RelR S M) (hI : sInv S) {n i : Nat} (hl : ∀ N, Sc M N → alen N 121 = n) (hn : n ≤ 100000) (hi : i + 6 ≤ n) : ∃ M' S', rn (exF D) C_L_law 320 [some (.ref 121), some (.ref 88), some (.ref 90), some (.int (iI i))] [] M = rn (exF D) C_L_law 1564 [some (.ref 121), some (.ref 88), some (.ref 90), some (.int (iI i))] [] M' ∧ RelC S' M' ∧ RelR S' M' ∧ sInv S' ∧ Sc M M' := by
  have v1 := i32_rng (M.1 121 (i + 1))
  have v2 := i32_rng (M.1 121 (i + 2))
  have v3 := i32_rng (M.1 121 (i + 3))
  have v4 := i32_rng (M.1 121 (i + 4))
  have v5 := i32_rng (M.1 121 (i + 5))
  have e : akind 121 = 7 := rfl
  obtain ⟨M1, a1, a2, a3⟩ := c_copy (D := D) (by omega) hC hI v1 v2 v3 v4 v5
  obtain ⟨M2, b1, b2, b3⟩ := d_copy (D := D) (by omega) (RelR_SmC hR a3) hI v1 v2 v3 v4 v5
  have s1 : Sc M M1 := ⟨(a3 121 (by omega)).1, (a3 122 (by omega)).1⟩
  have s2 : Sc M M2 := Sc_C s1 b3
  simp only [iI_of] at a1 b1
  have l1 := hl M ⟨rfl, rfl⟩
  have l2 := hl M1 s1
  have k1 := s1.1
  refine ⟨M2, _, ?_, RelC_SmR a2 b3, b2, iv_copy hI _ _ _ _ _, s2⟩
  simp (maxSteps := 4000000) (disch := omega) only [s_L_law_320, s_L_law_321, s_L_law_322, s_L_law_323, s_L_law_324, s_L_law_325, s_L_law_326, s_L_law_327, s_L_law_328, s_L_law_329, s_L_law_330, s_L_law_331, s_L_law_332, s_L_law_333, s_L_law_334, s_L_law_335, s_L_law_336, s_L_law_337, s_L_law_338, s_L_law_339, s_L_law_340, s_L_law_341, s_L_law_342, s_L_law_343, s_L_law_344, s_L_law_345, s_L_law_346, s_L_law_349, s_L_law_350, s_L_law_351, s_L_law_352, s_L_law_353, s_L_law_354, s_L_law_355, s_L_law_356, s_L_law_357, s_L_law_358, s_L_law_359, s_L_law_360, s_L_law_361, s_L_law_362, s_L_law_363, s_L_law_364, s_L_law_365, s_L_law_366, s_L_law_367, s_L_law_368, s_L_law_369, s_L_law_370, s_L_law_371, s_L_law_372, s_L_law_373, s_L_law_374, s_L_law_375, s_L_law_378, s_L_law_381, s_L_law_382, e, l1, l2, k1, cls_88, cls_90, tn_add, tn_1, a1, b1, iI_add, iI_sub, iI_mul, iI_neg, iI_lt, iI_le, iI_eq, iI_toInt, tn_n, tn_1, inb_I, Int.reduceEq, Int.reduceLT, Int.reduceLE, Int.reduceAdd, Int.reduceSub, Int.reduceMul, Int.reduceNeg, Int.reduceToNat, Nat.reduceAdd, Nat.reduceMul, Int.reduceNatCast, reduceCtorEq, Int.cast_ofNat_Int, bi_tr, bi_fa, bi_0, bi_1, not_true_eq_false, not_false_eq_true, rnk_v, rnk_n, ↓reduceIte, i00, i11, ibi, or_true, true_or, and_true, true_and, List.cons_append, List.nil_append, Option.toList, nop]
theorem lw_show {D : Nat} (hD : 3 ≤ D) (hD2 : 3 ≤ D) {M : tM} {S : tS} (hC : RelC S M) (hR : RelR S M) (hI : sInv S) {n i : Nat} (hl : ∀ N, Sc M N → alen N 121 = n) (hn : n ≤ 100000) (hi : i + 6 ≤ n) : ∃ M' S', rn (exF D) C_L_law 417 [some (.ref 121), some (.ref 88), some (.ref 90), some (.int (iI i))] [] M = rn (exF D) C_L_law 1564 [some (.ref 121), some (.ref 88), some (.ref 90), some (.int (iI i))] [] M' ∧ RelC S' M' ∧ RelR S' M' ∧ sInv S' ∧ Sc M M' := by
  have v1 := i32_rng (M.1 121 (i + 1))
  have v2 := i32_rng (M.1 121 (i + 2))
  have e : akind 121 = 7 := rfl
  obtain ⟨M1, a1, a2, a3⟩ := c_show (D := D) (by omega) hC hI v1 v2
  obtain ⟨M2, b1, b2, b3⟩ := d_show (D := D) (by omega) (RelR_SmC hR a3) hI v1 v2
  have s1 : Sc M M1 := ⟨(a3 121 (by omega)).1, (a3 122 (by omega)).1⟩
  have s2 : Sc M M2 := Sc_C s1 b3
  simp only [iI_of] at a1 b1
  have l1 := hl M ⟨rfl, rfl⟩
  have l2 := hl M1 s1
  have k1 := s1.1
  refine ⟨M2, _, ?_, RelC_SmR a2 b3, b2, iv_show hI _ _, s2⟩
  simp (maxSteps := 4000000) (disch := omega) only [s_L_law_417, s_L_law_418, s_L_law_419, s_L_law_420, s_L_law_421, s_L_law_422, s_L_law_423, s_L_law_424, s_L_law_425, s_L_law_426, s_L_law_427, s_L_law_428, s_L_law_431, s_L_law_432, s_L_law_433, s_L_law_434, s_L_law_435, s_L_law_436, s_L_law_437, s_L_law_438, s_L_law_439, s_L_law_440, s_L_law_441, s_L_law_442, s_L_law_445, s_L_law_448, s_L_law_449, e, l1, l2, k1, cls_88, cls_90, tn_add, tn_1, a1, b1, iI_add, iI_sub, iI_mul, iI_neg, iI_lt, iI_le, iI_eq, iI_toInt, tn_n, tn_1, inb_I, Int.reduceEq, Int.reduceLT, Int.reduceLE, Int.reduceAdd, Int.reduceSub, Int.reduceMul, Int.reduceNeg, Int.reduceToNat, Nat.reduceAdd, Nat.reduceMul, Int.reduceNatCast, reduceCtorEq, Int.cast_ofNat_Int, bi_tr, bi_fa, bi_0, bi_1, not_true_eq_false, not_false_eq_true, rnk_v, rnk_n, ↓reduceIte, i00, i11, ibi, or_true, true_or, and_true, true_and, List.cons_append, List.nil_append, Option.toList, nop]
theorem lw_holds {D : Nat} (hD : 3 ≤ D) (hD2 : 3 ≤ D) {M : tM} {S : tS} (hC : RelC S M) (hR : RelR S M) (hI : sInv S) {n i : Nat} (hl : ∀ N, Sc M N → alen N 121 = n) (hn : n ≤ 100000) (hi : i + 6 ≤ n) : ∃ M' S', rn (exF D) C_L_law 450 [some (.ref 121), some (.ref 88), some (.ref 90), some (.int (iI i))] [] M = rn (exF D) C_L_law 1564 [some (.ref 121), some (.ref 88), some (.ref 90), some (.int (iI i))] [] M' ∧ RelC S' M' ∧ RelR S' M' ∧ sInv S' ∧ Sc M M' := by
  have v1 := i32_rng (M.1 121 (i + 1))
  have e : akind 121 = 7 := rfl
  obtain ⟨M1, a1, a2, a3⟩ := c_holds (D := D) (by omega) hC hI v1
  obtain ⟨M2, b1, b2, b3⟩ := d_holds (D := D) (by omega) (RelR_SmC hR a3) hI v1
  have s1 : Sc M M1 := ⟨(a3 121 (by omega)).1, (a3 122 (by omega)).1⟩
  have s2 : Sc M M2 := Sc_C s1 b3
  simp only [iI_of] at a1 b1
  have l1 := hl M ⟨rfl, rfl⟩
  have l2 := hl M1 s1
  have k1 := s1.1
  refine ⟨M2, _, ?_, RelC_SmR a2 b3, b2, iv_holds hI _, s2⟩
  simp (maxSteps := 4000000) (disch := omega) only [s_L_law_450, s_L_law_451, s_L_law_452, s_L_law_453, s_L_law_454, s_L_law_455, s_L_law_456, s_L_law_459, s_L_law_460, s_L_law_461, s_L_law_462, s_L_law_463, s_L_law_464, s_L_law_465, s_L_law_468, s_L_law_471, s_L_law_472, e, l1, l2, k1, cls_88, cls_90, tn_add, tn_1, a1, b1, iI_add, iI_sub, iI_mul, iI_neg, iI_lt, iI_le, iI_eq, iI_toInt, tn_n, tn_1, inb_I, Int.reduceEq, Int.reduceLT, Int.reduceLE, Int.reduceAdd, Int.reduceSub, Int.reduceMul, Int.reduceNeg, Int.reduceToNat, Nat.reduceAdd, Nat.reduceMul, Int.reduceNatCast, reduceCtorEq, Int.cast_ofNat_Int, bi_tr, bi_fa, bi_0, bi_1, not_true_eq_false, not_false_eq_true, rnk_v, rnk_n, ↓reduceIte, i00, i11, ibi, or_true, true_or, and_true, true_and, List.cons_append, List.nil_append, Option.toList, nop]
theorem lw_says {D : Nat} (hD : 3 ≤ D) (hD2 : 3 ≤ D) {M : tM} {S : tS} (hC : RelC S M) (hR : RelR S M) (hI : sInv S) {n i : Nat} (hl : ∀ N, Sc M N → alen N 121 = n) (hn : n ≤ 100000) (hi : i + 6 ≤ n) : ∃ M' S', rn (exF D) C_L_law 473 [some (.ref 121), some (.ref 88), some (.ref 90), some (.int (iI i))] [] M = rn (exF D) C_L_law 1564 [some (.ref 121), some (.ref 88), some (.ref 90), some (.int (iI i))] [] M' ∧ RelC S' M' ∧ RelR S' M' ∧ sInv S' ∧ Sc M M' := by
  have v1 := i32_rng (M.1 121 (i + 1))
  have v2 := i32_rng (M.1 121 (i + 2))
  have e : akind 121 = 7 := rfl
  obtain ⟨M1, a1, a2, a3⟩ := c_says (D := D) (by omega) hC hI v1 v2
  obtain ⟨M2, b1, b2, b3⟩ := d_says (D := D) (by omega) (RelR_SmC hR a3) hI v1 v2
  have s1 : Sc M M1 := ⟨(a3 121 (by omega)).1, (a3 122 (by omega)).1⟩
  have s2 : Sc M M2 := Sc_C s1 b3
  simp only [iI_of] at a1 b1
  have l1 := hl M ⟨rfl, rfl⟩
  have l2 := hl M1 s1
  have k1 := s1.1
  refine ⟨M2, _, ?_, RelC_SmR a2 b3, b2, iv_says hI _ _, s2⟩
  simp (maxSteps := 4000000) (disch := omega) only [s_L_law_473, s_L_law_474, s_L_law_475, s_L_law_476, s_L_law_477, s_L_law_478, s_L_law_479, s_L_law_480, s_L_law_481, s_L_law_482, s_L_law_483, s_L_law_484, s_L_law_487, s_L_law_488, s_L_law_489, s_L_law_490, s_L_law_491, s_L_law_492, s_L_law_493, s_L_law_494, s_L_law_495, s_L_law_496, s_L_law_497, s_L_law_498, s_L_law_501, s_L_law_504, s_L_law_505, e, l1, l2, k1, cls_88, cls_90, tn_add, tn_1, a1, b1, iI_add, iI_sub, iI_mul, iI_neg, iI_lt, iI_le, iI_eq, iI_toInt, tn_n, tn_1, inb_I, Int.reduceEq, Int.reduceLT, Int.reduceLE, Int.reduceAdd, Int.reduceSub, Int.reduceMul, Int.reduceNeg, Int.reduceToNat, Nat.reduceAdd, Nat.reduceMul, Int.reduceNatCast, reduceCtorEq, Int.cast_ofNat_Int, bi_tr, bi_fa, bi_0, bi_1, not_true_eq_false, not_false_eq_true, rnk_v, rnk_n, ↓reduceIte, i00, i11, ibi, or_true, true_or, and_true, true_and, List.cons_append, List.nil_append, Option.toList, nop]
theorem lw_desk {D : Nat} (hD : 3 ≤ D) (hD2 : 2 ≤ D) {M : tM} {S : tS} (hC : RelC S M) (hR : RelR S M) (hI : sInv S) {n i : Nat} (hl : ∀ N, Sc M N → alen N 121 = n) (hn : n ≤ 100000) (hi : i + 6 ≤ n) : ∃ M' S', rn (exF D) C_L_law 506 [some (.ref 121), some (.ref 88), some (.ref 90), some (.int (iI i))] [] M = rn (exF D) C_L_law 1564 [some (.ref 121), some (.ref 88), some (.ref 90), some (.int (iI i))] [] M' ∧ RelC S' M' ∧ RelR S' M' ∧ sInv S' ∧ Sc M M' := by
  have e : akind 121 = 7 := rfl
  obtain ⟨M1, a1, a2, a3⟩ := c_desk (D := D) (by omega) hC hI 
  obtain ⟨M2, b1, b2, b3⟩ := d_desk (D := D) (by omega) (RelR_SmC hR a3) hI 
  have s1 : Sc M M1 := ⟨(a3 121 (by omega)).1, (a3 122 (by omega)).1⟩
  have s2 : Sc M M2 := Sc_C s1 b3
  have l1 := hl M ⟨rfl, rfl⟩
  have l2 := hl M1 s1
  have k1 := s1.1
  refine ⟨M2, _, ?_, RelC_SmR a2 b3, b2, iv_desk hI, s2⟩
  simp (maxSteps := 4000000) (disch := omega) only [s_L_law_506, s_L_law_507, s_L_law_510, s_L_law_511, s_L_law_514, s_L_law_517, s_L_law_518, e, l1, l2, k1, cls_88, cls_90, tn_add, tn_1, a1, b1, iI_add, iI_sub, iI_mul, iI_neg, iI_lt, iI_le, iI_eq, iI_toInt, tn_n, tn_1, inb_I, Int.reduceEq, Int.reduceLT, Int.reduceLE, Int.reduceAdd, Int.reduceSub, Int.reduceMul, Int.reduceNeg, Int.reduceToNat, Nat.reduceAdd, Nat.reduceMul, Int.reduceNatCast, reduceCtorEq, Int.cast_ofNat_Int, bi_tr, bi_fa, bi_0, bi_1, not_true_eq_false, not_false_eq_true, rnk_v, rnk_n, ↓reduceIte, i00, i11, ibi, or_true, true_or, and_true, true_and, List.cons_append, List.nil_append, Option.toList, nop]
theorem lw_tube {D : Nat} (hD : 4 ≤ D) (hD2 : 3 ≤ D) {M : tM} {S : tS} (hC : RelC S M) (hR : RelR S M) (hI : sInv S) {n i : Nat} (hl : ∀ N, Sc M N → alen N 121 = n) (hn : n ≤ 100000) (hi : i + 6 ≤ n) : ∃ M' S', rn (exF D) C_L_law 519 [some (.ref 121), some (.ref 88), some (.ref 90), some (.int (iI i))] [] M = rn (exF D) C_L_law 1564 [some (.ref 121), some (.ref 88), some (.ref 90), some (.int (iI i))] [] M' ∧ RelC S' M' ∧ RelR S' M' ∧ sInv S' ∧ Sc M M' := by
  have v1 := i32_rng (M.1 121 (i + 1))
  have v2 := i32_rng (M.1 121 (i + 2))
  have v3 := i32_rng (M.1 121 (i + 3))
  have v4 := i32_rng (M.1 121 (i + 4))
  have e : akind 121 = 7 := rfl
  obtain ⟨M1, a1, a2, a3⟩ := c_tube (D := D) (by omega) hC hI v1 v2 v3 v4
  obtain ⟨M2, b1, b2, b3⟩ := d_tube (D := D) (by omega) (RelR_SmC hR a3) hI v1 v2 v3 v4
  have s1 : Sc M M1 := ⟨(a3 121 (by omega)).1, (a3 122 (by omega)).1⟩
  have s2 : Sc M M2 := Sc_C s1 b3
  simp only [iI_of] at a1 b1
  have l1 := hl M ⟨rfl, rfl⟩
  have l2 := hl M1 s1
  have k1 := s1.1
  refine ⟨M2, _, ?_, RelC_SmR a2 b3, b2, iv_tube hI _ _ _ _, s2⟩
  simp (maxSteps := 4000000) (disch := omega) only [s_L_law_519, s_L_law_520, s_L_law_521, s_L_law_522, s_L_law_523, s_L_law_524, s_L_law_525, s_L_law_526, s_L_law_527, s_L_law_528, s_L_law_529, s_L_law_530, s_L_law_531, s_L_law_532, s_L_law_533, s_L_law_534, s_L_law_535, s_L_law_536, s_L_law_537, s_L_law_538, s_L_law_539, s_L_law_540, s_L_law_543, s_L_law_544, s_L_law_545, s_L_law_546, s_L_law_547, s_L_law_548, s_L_law_549, s_L_law_550, s_L_law_551, s_L_law_552, s_L_law_553, s_L_law_554, s_L_law_555, s_L_law_556, s_L_law_557, s_L_law_558, s_L_law_559, s_L_law_560, s_L_law_561, s_L_law_562, s_L_law_563, s_L_law_564, s_L_law_567, s_L_law_570, s_L_law_571, e, l1, l2, k1, cls_88, cls_90, tn_add, tn_1, a1, b1, iI_add, iI_sub, iI_mul, iI_neg, iI_lt, iI_le, iI_eq, iI_toInt, tn_n, tn_1, inb_I, Int.reduceEq, Int.reduceLT, Int.reduceLE, Int.reduceAdd, Int.reduceSub, Int.reduceMul, Int.reduceNeg, Int.reduceToNat, Nat.reduceAdd, Nat.reduceMul, Int.reduceNatCast, reduceCtorEq, Int.cast_ofNat_Int, bi_tr, bi_fa, bi_0, bi_1, not_true_eq_false, not_false_eq_true, rnk_v, rnk_n, ↓reduceIte, i00, i11, ibi, or_true, true_or, and_true, true_and, List.cons_append, List.nil_append, Option.toList, nop]
theorem lw_capsule {D : Nat} (hD : 3 ≤ D) (hD2 : 3 ≤ D) {M : tM} {S : tS} (hC : RelC S M) (hR : RelR S M) (hI : sInv S) {n i : Nat} (hl : ∀ N, Sc M N → alen N 121 = n) (hn : n ≤ 100000) (hi : i + 6 ≤ n) : ∃ M' S', rn (exF D) C_L_law 572 [some (.ref 121), some (.ref 88), some (.ref 90), some (.int (iI i))] [] M = rn (exF D) C_L_law 1564 [some (.ref 121), some (.ref 88), some (.ref 90), some (.int (iI i))] [] M' ∧ RelC S' M' ∧ RelR S' M' ∧ sInv S' ∧ Sc M M' := by
  have v1 := i32_rng (M.1 121 (i + 1))
  have v2 := i32_rng (M.1 121 (i + 2))
  have v3 := i32_rng (M.1 121 (i + 3))
  have v4 := i32_rng (M.1 121 (i + 4))
  have e : akind 121 = 7 := rfl
  obtain ⟨M1, a1, a2, a3⟩ := c_capsule (D := D) (by omega) hC hI v1 v2 v3 v4
  obtain ⟨M2, b1, b2, b3⟩ := d_capsule (D := D) (by omega) (RelR_SmC hR a3) hI v1 v2 v3 v4
  have s1 : Sc M M1 := ⟨(a3 121 (by omega)).1, (a3 122 (by omega)).1⟩
  have s2 : Sc M M2 := Sc_C s1 b3
  simp only [iI_of] at a1 b1
  have l1 := hl M ⟨rfl, rfl⟩
  have l2 := hl M1 s1
  have k1 := s1.1
  refine ⟨M2, _, ?_, RelC_SmR a2 b3, b2, iv_capsule hI _ _ _ _, s2⟩
  simp (maxSteps := 4000000) (disch := omega) only [s_L_law_572, s_L_law_573, s_L_law_574, s_L_law_575, s_L_law_576, s_L_law_577, s_L_law_578, s_L_law_579, s_L_law_580, s_L_law_581, s_L_law_582, s_L_law_583, s_L_law_584, s_L_law_585, s_L_law_586, s_L_law_587, s_L_law_588, s_L_law_589, s_L_law_590, s_L_law_591, s_L_law_592, s_L_law_593, s_L_law_596, s_L_law_597, s_L_law_598, s_L_law_599, s_L_law_600, s_L_law_601, s_L_law_602, s_L_law_603, s_L_law_604, s_L_law_605, s_L_law_606, s_L_law_607, s_L_law_608, s_L_law_609, s_L_law_610, s_L_law_611, s_L_law_612, s_L_law_613, s_L_law_614, s_L_law_615, s_L_law_616, s_L_law_617, s_L_law_620, s_L_law_623, s_L_law_624, e, l1, l2, k1, cls_88, cls_90, tn_add, tn_1, a1, b1, iI_add, iI_sub, iI_mul, iI_neg, iI_lt, iI_le, iI_eq, iI_toInt, tn_n, tn_1, inb_I, Int.reduceEq, Int.reduceLT, Int.reduceLE, Int.reduceAdd, Int.reduceSub, Int.reduceMul, Int.reduceNeg, Int.reduceToNat, Nat.reduceAdd, Nat.reduceMul, Int.reduceNatCast, reduceCtorEq, Int.cast_ofNat_Int, bi_tr, bi_fa, bi_0, bi_1, not_true_eq_false, not_false_eq_true, rnk_v, rnk_n, ↓reduceIte, i00, i11, ibi, or_true, true_or, and_true, true_and, List.cons_append, List.nil_append, Option.toList, nop]
theorem lw_shut {D : Nat} (hD : 3 ≤ D) (hD2 : 3 ≤ D) {M : tM} {S : tS} (hC : RelC S M) (hR : RelR S M) (hI : sInv S) {n i : Nat} (hl : ∀ N, Sc M N → alen N 121 = n) (hn : n ≤ 100000) (hi : i + 6 ≤ n) : ∃ M' S', rn (exF D) C_L_law 625 [some (.ref 121), some (.ref 88), some (.ref 90), some (.int (iI i))] [] M = rn (exF D) C_L_law 1564 [some (.ref 121), some (.ref 88), some (.ref 90), some (.int (iI i))] [] M' ∧ RelC S' M' ∧ RelR S' M' ∧ sInv S' ∧ Sc M M' := by
  have v1 := i32_rng (M.1 121 (i + 1))
  have e : akind 121 = 7 := rfl
  by_cases z : M.1 121 (i + 2) = iI 0
  · obtain ⟨M1, a1, a2, a3⟩ := c_shut (D := D) (by omega) hC hI v1 False
    obtain ⟨M2, b1, b2, b3⟩ := d_shut (D := D) (by omega) (RelR_SmC hR a3) hI v1 False
    have s1 : Sc M M1 := ⟨(a3 121 (by omega)).1, (a3 122 (by omega)).1⟩
    have s2 : Sc M M2 := Sc_C s1 b3
    simp only [iI_of, bi_tr, bi_fa] at a1 b1
    have l1 := hl M ⟨rfl, rfl⟩
    have l2 := hl M1 s1
    have k1 := s1.1
    refine ⟨M2, _, ?_, RelC_SmR a2 b3, b2, iv_shut hI _ False, s2⟩
    simp (maxSteps := 4000000) (disch := omega) only [s_L_law_625, s_L_law_626, s_L_law_627, s_L_law_628, s_L_law_629, s_L_law_630, s_L_law_631, s_L_law_632, s_L_law_633, s_L_law_634, s_L_law_635, s_L_law_636, s_L_law_639, s_L_law_640, s_L_law_643, s_L_law_644, s_L_law_647, s_L_law_648, s_L_law_649, s_L_law_650, s_L_law_651, s_L_law_652, s_L_law_653, s_L_law_654, s_L_law_655, s_L_law_656, s_L_law_657, s_L_law_658, s_L_law_661, s_L_law_662, s_L_law_665, s_L_law_666, s_L_law_669, s_L_law_672, s_L_law_673, e, l1, l2, k1, cls_88, cls_90, tn_add, tn_1, a1, b1, z, iI_add, iI_sub, iI_mul, iI_neg, iI_lt, iI_le, iI_eq, iI_toInt, tn_n, tn_1, inb_I, Int.reduceEq, Int.reduceLT, Int.reduceLE, Int.reduceAdd, Int.reduceSub, Int.reduceMul, Int.reduceNeg, Int.reduceToNat, Nat.reduceAdd, Nat.reduceMul, Int.reduceNatCast, reduceCtorEq, Int.cast_ofNat_Int, bi_tr, bi_fa, bi_0, bi_1, not_true_eq_false, not_false_eq_true, rnk_v, rnk_n, ↓reduceIte, i00, i11, ibi, or_true, true_or, and_true, true_and, List.cons_append, List.nil_append, Option.toList, nop]
  · obtain ⟨M1, a1, a2, a3⟩ := c_shut (D := D) (by omega) hC hI v1 True
    obtain ⟨M2, b1, b2, b3⟩ := d_shut (D := D) (by omega) (RelR_SmC hR a3) hI v1 True
    have s1 : Sc M M1 := ⟨(a3 121 (by omega)).1, (a3 122 (by omega)).1⟩
    have s2 : Sc M M2 := Sc_C s1 b3
    simp only [iI_of, bi_tr, bi_fa] at a1 b1
    have l1 := hl M ⟨rfl, rfl⟩
    have l2 := hl M1 s1
    have k1 := s1.1
    refine ⟨M2, _, ?_, RelC_SmR a2 b3, b2, iv_shut hI _ True, s2⟩
    simp (maxSteps := 4000000) (disch := omega) only [s_L_law_625, s_L_law_626, s_L_law_627, s_L_law_628, s_L_law_629, s_L_law_630, s_L_law_631, s_L_law_632, s_L_law_633, s_L_law_634, s_L_law_635, s_L_law_636, s_L_law_639, s_L_law_640, s_L_law_643, s_L_law_644, s_L_law_647, s_L_law_648, s_L_law_649, s_L_law_650, s_L_law_651, s_L_law_652, s_L_law_653, s_L_law_654, s_L_law_655, s_L_law_656, s_L_law_657, s_L_law_658, s_L_law_661, s_L_law_662, s_L_law_665, s_L_law_666, s_L_law_669, s_L_law_672, s_L_law_673, e, l1, l2, k1, cls_88, cls_90, tn_add, tn_1, a1, b1, z, iI_add, iI_sub, iI_mul, iI_neg, iI_lt, iI_le, iI_eq, iI_toInt, tn_n, tn_1, inb_I, Int.reduceEq, Int.reduceLT, Int.reduceLE, Int.reduceAdd, Int.reduceSub, Int.reduceMul, Int.reduceNeg, Int.reduceToNat, Nat.reduceAdd, Nat.reduceMul, Int.reduceNatCast, reduceCtorEq, Int.cast_ofNat_Int, bi_tr, bi_fa, bi_0, bi_1, not_true_eq_false, not_false_eq_true, rnk_v, rnk_n, ↓reduceIte, i00, i11, ibi, or_true, true_or, and_true, true_and, List.cons_append, List.nil_append, Option.toList, nop]
theorem lw_ask {D : Nat} (hD : 2 ≤ D) (hD2 : 2 ≤ D) {M : tM} {S : tS} (hC : RelC S M) (hR : RelR S M) (hI : sInv S) {n i : Nat} (hl : ∀ N, Sc M N → alen N 121 = n) (hn : n ≤ 100000) (hi : i + 6 ≤ n) : ∃ M' S', rn (exF D) C_L_law 674 [some (.ref 121), some (.ref 88), some (.ref 90), some (.int (iI i))] [] M = rn (exF D) C_L_law 1564 [some (.ref 121), some (.ref 88), some (.ref 90), some (.int (iI i))] [] M' ∧ RelC S' M' ∧ RelR S' M' ∧ sInv S' ∧ Sc M M' := by
  have v1 := i32_rng (M.1 121 (i + 1))
  have e : akind 121 = 7 := rfl
  obtain ⟨M1, a1, a2, a3⟩ := c_ask (D := D) (by omega) hC hI v1
  obtain ⟨M2, b1, b2, b3⟩ := d_ask (D := D) (by omega) (RelR_SmC hR a3) hI v1
  have s1 : Sc M M1 := ⟨(a3 121 (by omega)).1, (a3 122 (by omega)).1⟩
  have s2 : Sc M M2 := Sc_C s1 b3
  simp only [iI_of] at a1 b1
  have l1 := hl M ⟨rfl, rfl⟩
  have l2 := hl M1 s1
  have k1 := s1.1
  refine ⟨M2, _, ?_, RelC_SmR a2 b3, b2, iv_ask hI _, s2⟩
  simp (maxSteps := 4000000) (disch := omega) only [s_L_law_674, s_L_law_675, s_L_law_676, s_L_law_677, s_L_law_678, s_L_law_679, s_L_law_680, s_L_law_683, s_L_law_684, s_L_law_685, s_L_law_686, s_L_law_687, s_L_law_688, s_L_law_689, s_L_law_692, s_L_law_695, s_L_law_696, e, l1, l2, k1, cls_88, cls_90, tn_add, tn_1, a1, b1, iI_add, iI_sub, iI_mul, iI_neg, iI_lt, iI_le, iI_eq, iI_toInt, tn_n, tn_1, inb_I, Int.reduceEq, Int.reduceLT, Int.reduceLE, Int.reduceAdd, Int.reduceSub, Int.reduceMul, Int.reduceNeg, Int.reduceToNat, Nat.reduceAdd, Nat.reduceMul, Int.reduceNatCast, reduceCtorEq, Int.cast_ofNat_Int, bi_tr, bi_fa, bi_0, bi_1, not_true_eq_false, not_false_eq_true, rnk_v, rnk_n, ↓reduceIte, i00, i11, ibi, or_true, true_or, and_true, true_and, List.cons_append, List.nil_append, Option.toList, nop]
theorem lw_capsuleOf {D : Nat} (hD : 2 ≤ D) (hD2 : 3 ≤ D) {M : tM} {S : tS} (hC : RelC S M) (hR : RelR S M) (hI : sInv S) {n i : Nat} (hl : ∀ N, Sc M N → alen N 121 = n) (hn : n ≤ 100000) (hi : i + 6 ≤ n) : ∃ M' S', rn (exF D) C_L_law 697 [some (.ref 121), some (.ref 88), some (.ref 90), some (.int (iI i))] [] M = rn (exF D) C_L_law 1564 [some (.ref 121), some (.ref 88), some (.ref 90), some (.int (iI i))] [] M' ∧ RelC S' M' ∧ RelR S' M' ∧ sInv S' ∧ Sc M M' := by
  have v1 := i32_rng (M.1 121 (i + 1))
  have v2 := i32_rng (M.1 121 (i + 2))
  have e : akind 121 = 7 := rfl
  obtain ⟨M1, a1, a2, a3⟩ := c_capsuleOf (D := D) (by omega) hC hI v1 v2
  obtain ⟨M2, b1, b2, b3⟩ := d_capsuleOf (D := D) (by omega) (RelR_SmC hR a3) hI v1 v2
  have s1 : Sc M M1 := ⟨(a3 121 (by omega)).1, (a3 122 (by omega)).1⟩
  have s2 : Sc M M2 := Sc_C s1 b3
  simp only [iI_of] at a1 b1
  have l1 := hl M ⟨rfl, rfl⟩
  have l2 := hl M1 s1
  have k1 := s1.1
  refine ⟨M2, _, ?_, RelC_SmR a2 b3, b2, iv_capsuleOf hI _ _, s2⟩
  simp (maxSteps := 4000000) (disch := omega) only [s_L_law_697, s_L_law_698, s_L_law_699, s_L_law_700, s_L_law_701, s_L_law_702, s_L_law_703, s_L_law_704, s_L_law_705, s_L_law_706, s_L_law_707, s_L_law_708, s_L_law_711, s_L_law_712, s_L_law_713, s_L_law_714, s_L_law_715, s_L_law_716, s_L_law_717, s_L_law_718, s_L_law_719, s_L_law_720, s_L_law_721, s_L_law_722, s_L_law_725, s_L_law_728, s_L_law_729, e, l1, l2, k1, cls_88, cls_90, tn_add, tn_1, a1, b1, iI_add, iI_sub, iI_mul, iI_neg, iI_lt, iI_le, iI_eq, iI_toInt, tn_n, tn_1, inb_I, Int.reduceEq, Int.reduceLT, Int.reduceLE, Int.reduceAdd, Int.reduceSub, Int.reduceMul, Int.reduceNeg, Int.reduceToNat, Nat.reduceAdd, Nat.reduceMul, Int.reduceNatCast, reduceCtorEq, Int.cast_ofNat_Int, bi_tr, bi_fa, bi_0, bi_1, not_true_eq_false, not_false_eq_true, rnk_v, rnk_n, ↓reduceIte, i00, i11, ibi, or_true, true_or, and_true, true_and, List.cons_append, List.nil_append, Option.toList, nop]
theorem lw_tubeOf {D : Nat} (hD : 3 ≤ D) (hD2 : 3 ≤ D) {M : tM} {S : tS} (hC : RelC S M) (hR : RelR S M) (hI : sInv S) {n i : Nat} (hl : ∀ N, Sc M N → alen N 121 = n) (hn : n ≤ 100000) (hi : i + 6 ≤ n) : ∃ M' S', rn (exF D) C_L_law 730 [some (.ref 121), some (.ref 88), some (.ref 90), some (.int (iI i))] [] M = rn (exF D) C_L_law 1564 [some (.ref 121), some (.ref 88), some (.ref 90), some (.int (iI i))] [] M' ∧ RelC S' M' ∧ RelR S' M' ∧ sInv S' ∧ Sc M M' := by
  have v1 := i32_rng (M.1 121 (i + 1))
  have v2 := i32_rng (M.1 121 (i + 2))
  have e : akind 121 = 7 := rfl
  obtain ⟨M1, a1, a2, a3⟩ := c_tubeOf (D := D) (by omega) hC hI v1 v2
  obtain ⟨M2, b1, b2, b3⟩ := d_tubeOf (D := D) (by omega) (RelR_SmC hR a3) hI v1 v2
  have s1 : Sc M M1 := ⟨(a3 121 (by omega)).1, (a3 122 (by omega)).1⟩
  have s2 : Sc M M2 := Sc_C s1 b3
  simp only [iI_of] at a1 b1
  have l1 := hl M ⟨rfl, rfl⟩
  have l2 := hl M1 s1
  have k1 := s1.1
  refine ⟨M2, _, ?_, RelC_SmR a2 b3, b2, iv_tubeOf hI _ _, s2⟩
  simp (maxSteps := 4000000) (disch := omega) only [s_L_law_730, s_L_law_731, s_L_law_732, s_L_law_733, s_L_law_734, s_L_law_735, s_L_law_736, s_L_law_737, s_L_law_738, s_L_law_739, s_L_law_740, s_L_law_741, s_L_law_744, s_L_law_745, s_L_law_746, s_L_law_747, s_L_law_748, s_L_law_749, s_L_law_750, s_L_law_751, s_L_law_752, s_L_law_753, s_L_law_754, s_L_law_755, s_L_law_758, s_L_law_761, s_L_law_762, e, l1, l2, k1, cls_88, cls_90, tn_add, tn_1, a1, b1, iI_add, iI_sub, iI_mul, iI_neg, iI_lt, iI_le, iI_eq, iI_toInt, tn_n, tn_1, inb_I, Int.reduceEq, Int.reduceLT, Int.reduceLE, Int.reduceAdd, Int.reduceSub, Int.reduceMul, Int.reduceNeg, Int.reduceToNat, Nat.reduceAdd, Nat.reduceMul, Int.reduceNatCast, reduceCtorEq, Int.cast_ofNat_Int, bi_tr, bi_fa, bi_0, bi_1, not_true_eq_false, not_false_eq_true, rnk_v, rnk_n, ↓reduceIte, i00, i11, ibi, or_true, true_or, and_true, true_and, List.cons_append, List.nil_append, Option.toList, nop]
theorem lw_signed {D : Nat} (hD : 2 ≤ D) (hD2 : 3 ≤ D) {M : tM} {S : tS} (hC : RelC S M) (hR : RelR S M) (hI : sInv S) {n i : Nat} (hl : ∀ N, Sc M N → alen N 121 = n) (hn : n ≤ 100000) (hi : i + 6 ≤ n) : ∃ M' S', rn (exF D) C_L_law 763 [some (.ref 121), some (.ref 88), some (.ref 90), some (.int (iI i))] [] M = rn (exF D) C_L_law 1564 [some (.ref 121), some (.ref 88), some (.ref 90), some (.int (iI i))] [] M' ∧ RelC S' M' ∧ RelR S' M' ∧ sInv S' ∧ Sc M M' := by
  have v1 := i32_rng (M.1 121 (i + 1))
  have e : akind 121 = 7 := rfl
  obtain ⟨M1, a1, a2, a3⟩ := c_signed (D := D) (by omega) hC hI v1
  obtain ⟨M2, b1, b2, b3⟩ := d_signed (D := D) (by omega) (RelR_SmC hR a3) hI v1
  have s1 : Sc M M1 := ⟨(a3 121 (by omega)).1, (a3 122 (by omega)).1⟩
  have s2 : Sc M M2 := Sc_C s1 b3
  simp only [iI_of] at a1 b1
  have l1 := hl M ⟨rfl, rfl⟩
  have l2 := hl M1 s1
  have k1 := s1.1
  refine ⟨M2, _, ?_, RelC_SmR a2 b3, b2, iv_signed hI _, s2⟩
  simp (maxSteps := 4000000) (disch := omega) only [s_L_law_763, s_L_law_764, s_L_law_765, s_L_law_766, s_L_law_767, s_L_law_768, s_L_law_769, s_L_law_772, s_L_law_773, s_L_law_774, s_L_law_775, s_L_law_776, s_L_law_777, s_L_law_778, s_L_law_781, s_L_law_784, s_L_law_785, e, l1, l2, k1, cls_88, cls_90, tn_add, tn_1, a1, b1, iI_add, iI_sub, iI_mul, iI_neg, iI_lt, iI_le, iI_eq, iI_toInt, tn_n, tn_1, inb_I, Int.reduceEq, Int.reduceLT, Int.reduceLE, Int.reduceAdd, Int.reduceSub, Int.reduceMul, Int.reduceNeg, Int.reduceToNat, Nat.reduceAdd, Nat.reduceMul, Int.reduceNatCast, reduceCtorEq, Int.cast_ofNat_Int, bi_tr, bi_fa, bi_0, bi_1, not_true_eq_false, not_false_eq_true, rnk_v, rnk_n, ↓reduceIte, i00, i11, ibi, or_true, true_or, and_true, true_and, List.cons_append, List.nil_append, Option.toList, nop]
theorem lw_plan {D : Nat} (hD : 10 ≤ D) (hD2 : 9 ≤ D) {M : tM} {S : tS} (hC : RelC S M) (hR : RelR S M) (hI : sInv S) {n i : Nat} (hl : ∀ N, Sc M N → alen N 121 = n) (hn : n ≤ 100000) (hi : i + 6 ≤ n) : ∃ M' S', rn (exF D) C_L_law 786 [some (.ref 121), some (.ref 88), some (.ref 90), some (.int (iI i))] [] M = rn (exF D) C_L_law 1564 [some (.ref 121), some (.ref 88), some (.ref 90), some (.int (iI i))] [] M' ∧ RelC S' M' ∧ RelR S' M' ∧ sInv S' ∧ Sc M M' := by
  have v1 := i32_rng (M.1 121 (i + 1))
  have e : akind 121 = 7 := rfl
  obtain ⟨M1, a1, a2, a3⟩ := c_plan (D := D) (by omega) hC hI v1
  obtain ⟨M2, b1, b2, b3⟩ := d_plan (D := D) (by omega) (RelR_SmC hR a3) hI v1
  have s1 : Sc M M1 := ⟨(a3 121 (by omega)).1, (a3 122 (by omega)).1⟩
  have s2 : Sc M M2 := Sc_C s1 b3
  simp only [iI_of] at a1 b1
  have l1 := hl M ⟨rfl, rfl⟩
  have l2 := hl M1 s1
  have k1 := s1.1
  refine ⟨M2, _, ?_, RelC_SmR a2 b3, b2, iv_plan hI _, s2⟩
  simp (maxSteps := 4000000) (disch := omega) only [s_L_law_786, s_L_law_787, s_L_law_788, s_L_law_789, s_L_law_790, s_L_law_791, s_L_law_792, s_L_law_795, s_L_law_796, s_L_law_797, s_L_law_798, s_L_law_799, s_L_law_800, s_L_law_801, s_L_law_804, s_L_law_807, s_L_law_808, e, l1, l2, k1, cls_88, cls_90, tn_add, tn_1, a1, b1, iI_add, iI_sub, iI_mul, iI_neg, iI_lt, iI_le, iI_eq, iI_toInt, tn_n, tn_1, inb_I, Int.reduceEq, Int.reduceLT, Int.reduceLE, Int.reduceAdd, Int.reduceSub, Int.reduceMul, Int.reduceNeg, Int.reduceToNat, Nat.reduceAdd, Nat.reduceMul, Int.reduceNatCast, reduceCtorEq, Int.cast_ofNat_Int, bi_tr, bi_fa, bi_0, bi_1, not_true_eq_false, not_false_eq_true, rnk_v, rnk_n, ↓reduceIte, i00, i11, ibi, or_true, true_or, and_true, true_and, List.cons_append, List.nil_append, Option.toList, nop]
theorem lw_fault {D : Nat} (hD : 1 ≤ D) (hD2 : 1 ≤ D) {M : tM} {S : tS} (hC : RelC S M) (hR : RelR S M) (hI : sInv S) {n i : Nat} (hl : ∀ N, Sc M N → alen N 121 = n) (hn : n ≤ 100000) (hi : i + 6 ≤ n) : ∃ M' S', rn (exF D) C_L_law 809 [some (.ref 121), some (.ref 88), some (.ref 90), some (.int (iI i))] [] M = rn (exF D) C_L_law 1564 [some (.ref 121), some (.ref 88), some (.ref 90), some (.int (iI i))] [] M' ∧ RelC S' M' ∧ RelR S' M' ∧ sInv S' ∧ Sc M M' := by
  have e : akind 121 = 7 := rfl
  obtain ⟨M1, a1, a2, a3⟩ := c_fault (D := D) (by omega) hC hI 
  obtain ⟨M2, b1, b2, b3⟩ := d_fault (D := D) (by omega) (RelR_SmC hR a3) hI 
  have s1 : Sc M M1 := ⟨(a3 121 (by omega)).1, (a3 122 (by omega)).1⟩
  have s2 : Sc M M2 := Sc_C s1 b3
  have l1 := hl M ⟨rfl, rfl⟩
  have l2 := hl M1 s1
  have k1 := s1.1
  refine ⟨M2, _, ?_, RelC_SmR a2 b3, b2, hI, s2⟩
  simp (maxSteps := 4000000) (disch := omega) only [s_L_law_809, s_L_law_810, s_L_law_813, s_L_law_814, s_L_law_817, s_L_law_820, s_L_law_821, e, l1, l2, k1, cls_88, cls_90, tn_add, tn_1, a1, b1, iI_add, iI_sub, iI_mul, iI_neg, iI_lt, iI_le, iI_eq, iI_toInt, tn_n, tn_1, inb_I, Int.reduceEq, Int.reduceLT, Int.reduceLE, Int.reduceAdd, Int.reduceSub, Int.reduceMul, Int.reduceNeg, Int.reduceToNat, Nat.reduceAdd, Nat.reduceMul, Int.reduceNatCast, reduceCtorEq, Int.cast_ofNat_Int, bi_tr, bi_fa, bi_0, bi_1, not_true_eq_false, not_false_eq_true, rnk_v, rnk_n, ↓reduceIte, i00, i11, ibi, or_true, true_or, and_true, true_and, List.cons_append, List.nil_append, Option.toList, nop]
theorem lw_time {D : Nat} (hD : 3 ≤ D) (hD2 : 3 ≤ D) {M : tM} {S : tS} (hC : RelC S M) (hR : RelR S M) (hI : sInv S) {n i : Nat} (hl : ∀ N, Sc M N → alen N 121 = n) (hn : n ≤ 100000) (hi : i + 6 ≤ n) : ∃ M' S', rn (exF D) C_L_law 822 [some (.ref 121), some (.ref 88), some (.ref 90), some (.int (iI i))] [] M = rn (exF D) C_L_law 1564 [some (.ref 121), some (.ref 88), some (.ref 90), some (.int (iI i))] [] M' ∧ RelC S' M' ∧ RelR S' M' ∧ sInv S' ∧ Sc M M' := by
  have v1 := i32_rng (M.1 121 (i + 1))
  have v2 := i32_rng (M.1 121 (i + 2))
  have e : akind 121 = 7 := rfl
  obtain ⟨M1, a1, a2, a3⟩ := c_time (D := D) (by omega) hC hI v1 v2
  obtain ⟨M2, b1, b2, b3⟩ := d_time (D := D) (by omega) (RelR_SmC hR a3) hI v1 v2
  have s1 : Sc M M1 := ⟨(a3 121 (by omega)).1, (a3 122 (by omega)).1⟩
  have s2 : Sc M M2 := Sc_C s1 b3
  simp only [iI_of] at a1 b1
  have l1 := hl M ⟨rfl, rfl⟩
  have l2 := hl M1 s1
  have k1 := s1.1
  refine ⟨M2, _, ?_, RelC_SmR a2 b3, b2, iv_time hI _ _, s2⟩
  simp (maxSteps := 4000000) (disch := omega) only [s_L_law_822, s_L_law_823, s_L_law_824, s_L_law_825, s_L_law_826, s_L_law_827, s_L_law_828, s_L_law_829, s_L_law_830, s_L_law_831, s_L_law_832, s_L_law_833, s_L_law_836, s_L_law_837, s_L_law_838, s_L_law_839, s_L_law_840, s_L_law_841, s_L_law_842, s_L_law_843, s_L_law_844, s_L_law_845, s_L_law_846, s_L_law_847, s_L_law_850, s_L_law_853, s_L_law_854, e, l1, l2, k1, cls_88, cls_90, tn_add, tn_1, a1, b1, iI_add, iI_sub, iI_mul, iI_neg, iI_lt, iI_le, iI_eq, iI_toInt, tn_n, tn_1, inb_I, Int.reduceEq, Int.reduceLT, Int.reduceLE, Int.reduceAdd, Int.reduceSub, Int.reduceMul, Int.reduceNeg, Int.reduceToNat, Nat.reduceAdd, Nat.reduceMul, Int.reduceNatCast, reduceCtorEq, Int.cast_ofNat_Int, bi_tr, bi_fa, bi_0, bi_1, not_true_eq_false, not_false_eq_true, rnk_v, rnk_n, ↓reduceIte, i00, i11, ibi, or_true, true_or, and_true, true_and, List.cons_append, List.nil_append, Option.toList, nop]
theorem lw_way {D : Nat} (hD : 6 ≤ D) (hD2 : 4 ≤ D) {M : tM} {S : tS} (hC : RelC S M) (hR : RelR S M) (hI : sInv S) {n i : Nat} (hl : ∀ N, Sc M N → alen N 121 = n) (hn : n ≤ 100000) (hi : i + 6 ≤ n) : ∃ M' S', rn (exF D) C_L_law 855 [some (.ref 121), some (.ref 88), some (.ref 90), some (.int (iI i))] [] M = rn (exF D) C_L_law 1564 [some (.ref 121), some (.ref 88), some (.ref 90), some (.int (iI i))] [] M' ∧ RelC S' M' ∧ RelR S' M' ∧ sInv S' ∧ Sc M M' := by
  have v1 := i32_rng (M.1 121 (i + 1))
  have v2 := i32_rng (M.1 121 (i + 2))
  have v3 := i32_rng (M.1 121 (i + 3))
  have e : akind 121 = 7 := rfl
  obtain ⟨M1, a1, a2, a3⟩ := c_way (D := D) (by omega) hC hI v1 v2 v3
  obtain ⟨M2, b1, b2, b3⟩ := d_way (D := D) (by omega) (RelR_SmC hR a3) hI v1 v2 v3
  have s1 : Sc M M1 := ⟨(a3 121 (by omega)).1, (a3 122 (by omega)).1⟩
  have s2 : Sc M M2 := Sc_C s1 b3
  simp only [iI_of] at a1 b1
  have l1 := hl M ⟨rfl, rfl⟩
  have l2 := hl M1 s1
  have k1 := s1.1
  refine ⟨M2, _, ?_, RelC_SmR a2 b3, b2, iv_way hI _ _ _, s2⟩
  simp (maxSteps := 4000000) (disch := omega) only [s_L_law_855, s_L_law_856, s_L_law_857, s_L_law_858, s_L_law_859, s_L_law_860, s_L_law_861, s_L_law_862, s_L_law_863, s_L_law_864, s_L_law_865, s_L_law_866, s_L_law_867, s_L_law_868, s_L_law_869, s_L_law_870, s_L_law_871, s_L_law_874, s_L_law_875, s_L_law_876, s_L_law_877, s_L_law_878, s_L_law_879, s_L_law_880, s_L_law_881, s_L_law_882, s_L_law_883, s_L_law_884, s_L_law_885, s_L_law_886, s_L_law_887, s_L_law_888, s_L_law_889, s_L_law_890, s_L_law_893, s_L_law_896, s_L_law_897, e, l1, l2, k1, cls_88, cls_90, tn_add, tn_1, a1, b1, iI_add, iI_sub, iI_mul, iI_neg, iI_lt, iI_le, iI_eq, iI_toInt, tn_n, tn_1, inb_I, Int.reduceEq, Int.reduceLT, Int.reduceLE, Int.reduceAdd, Int.reduceSub, Int.reduceMul, Int.reduceNeg, Int.reduceToNat, Nat.reduceAdd, Nat.reduceMul, Int.reduceNatCast, reduceCtorEq, Int.cast_ofNat_Int, bi_tr, bi_fa, bi_0, bi_1, not_true_eq_false, not_false_eq_true, rnk_v, rnk_n, ↓reduceIte, i00, i11, ibi, or_true, true_or, and_true, true_and, List.cons_append, List.nil_append, Option.toList, nop]
theorem lw_within {D : Nat} (hD : 4 ≤ D) (hD2 : 4 ≤ D) {M : tM} {S : tS} (hC : RelC S M) (hR : RelR S M) (hI : sInv S) {n i : Nat} (hl : ∀ N, Sc M N → alen N 121 = n) (hn : n ≤ 100000) (hi : i + 6 ≤ n) : ∃ M' S', rn (exF D) C_L_law 898 [some (.ref 121), some (.ref 88), some (.ref 90), some (.int (iI i))] [] M = rn (exF D) C_L_law 1564 [some (.ref 121), some (.ref 88), some (.ref 90), some (.int (iI i))] [] M' ∧ RelC S' M' ∧ RelR S' M' ∧ sInv S' ∧ Sc M M' := by
  have v1 := i32_rng (M.1 121 (i + 1))
  have v2 := i32_rng (M.1 121 (i + 2))
  have e : akind 121 = 7 := rfl
  obtain ⟨M1, a1, a2, a3⟩ := c_within (D := D) (by omega) hC hI v1 v2
  obtain ⟨M2, b1, b2, b3⟩ := d_within (D := D) (by omega) (RelR_SmC hR a3) hI v1 v2
  have s1 : Sc M M1 := ⟨(a3 121 (by omega)).1, (a3 122 (by omega)).1⟩
  have s2 : Sc M M2 := Sc_C s1 b3
  simp only [iI_of] at a1 b1
  have l1 := hl M ⟨rfl, rfl⟩
  have l2 := hl M1 s1
  have k1 := s1.1
  refine ⟨M2, _, ?_, RelC_SmR a2 b3, b2, iv_within hI _ _, s2⟩
  simp (maxSteps := 4000000) (disch := omega) only [s_L_law_898, s_L_law_899, s_L_law_900, s_L_law_901, s_L_law_902, s_L_law_903, s_L_law_904, s_L_law_905, s_L_law_906, s_L_law_907, s_L_law_908, s_L_law_909, s_L_law_912, s_L_law_913, s_L_law_914, s_L_law_915, s_L_law_916, s_L_law_917, s_L_law_918, s_L_law_919, s_L_law_920, s_L_law_921, s_L_law_922, s_L_law_923, s_L_law_926, s_L_law_929, s_L_law_930, e, l1, l2, k1, cls_88, cls_90, tn_add, tn_1, a1, b1, iI_add, iI_sub, iI_mul, iI_neg, iI_lt, iI_le, iI_eq, iI_toInt, tn_n, tn_1, inb_I, Int.reduceEq, Int.reduceLT, Int.reduceLE, Int.reduceAdd, Int.reduceSub, Int.reduceMul, Int.reduceNeg, Int.reduceToNat, Nat.reduceAdd, Nat.reduceMul, Int.reduceNatCast, reduceCtorEq, Int.cast_ofNat_Int, bi_tr, bi_fa, bi_0, bi_1, not_true_eq_false, not_false_eq_true, rnk_v, rnk_n, ↓reduceIte, i00, i11, ibi, or_true, true_or, and_true, true_and, List.cons_append, List.nil_append, Option.toList, nop]
theorem lw_round {D : Nat} (hD : 6 ≤ D) (hD2 : 4 ≤ D) {M : tM} {S : tS} (hC : RelC S M) (hR : RelR S M) (hI : sInv S) {n i : Nat} (hl : ∀ N, Sc M N → alen N 121 = n) (hn : n ≤ 100000) (hi : i + 6 ≤ n) : ∃ M' S', rn (exF D) C_L_law 931 [some (.ref 121), some (.ref 88), some (.ref 90), some (.int (iI i))] [] M = rn (exF D) C_L_law 1564 [some (.ref 121), some (.ref 88), some (.ref 90), some (.int (iI i))] [] M' ∧ RelC S' M' ∧ RelR S' M' ∧ sInv S' ∧ Sc M M' := by
  have v1 := i32_rng (M.1 121 (i + 1))
  have v2 := i32_rng (M.1 121 (i + 2))
  have v3 := i32_rng (M.1 121 (i + 3))
  have v4 := i32_rng (M.1 121 (i + 4))
  have e : akind 121 = 7 := rfl
  obtain ⟨M1, a1, a2, a3⟩ := c_round (D := D) (by omega) hC hI v1 v2 v3 v4
  obtain ⟨M2, b1, b2, b3⟩ := d_round (D := D) (by omega) (RelR_SmC hR a3) hI v1 v2 v3 v4
  have s1 : Sc M M1 := ⟨(a3 121 (by omega)).1, (a3 122 (by omega)).1⟩
  have s2 : Sc M M2 := Sc_C s1 b3
  simp only [iI_of] at a1 b1
  have l1 := hl M ⟨rfl, rfl⟩
  have l2 := hl M1 s1
  have k1 := s1.1
  refine ⟨M2, _, ?_, RelC_SmR a2 b3, b2, iv_round hI _ _ _ _, s2⟩
  simp (maxSteps := 4000000) (disch := omega) only [s_L_law_931, s_L_law_932, s_L_law_933, s_L_law_934, s_L_law_935, s_L_law_936, s_L_law_937, s_L_law_938, s_L_law_939, s_L_law_940, s_L_law_941, s_L_law_942, s_L_law_943, s_L_law_944, s_L_law_945, s_L_law_946, s_L_law_947, s_L_law_948, s_L_law_949, s_L_law_950, s_L_law_951, s_L_law_952, s_L_law_955, s_L_law_956, s_L_law_957, s_L_law_958, s_L_law_959, s_L_law_960, s_L_law_961, s_L_law_962, s_L_law_963, s_L_law_964, s_L_law_965, s_L_law_966, s_L_law_967, s_L_law_968, s_L_law_969, s_L_law_970, s_L_law_971, s_L_law_972, s_L_law_973, s_L_law_974, s_L_law_975, s_L_law_976, s_L_law_979, s_L_law_982, s_L_law_983, e, l1, l2, k1, cls_88, cls_90, tn_add, tn_1, a1, b1, iI_add, iI_sub, iI_mul, iI_neg, iI_lt, iI_le, iI_eq, iI_toInt, tn_n, tn_1, inb_I, Int.reduceEq, Int.reduceLT, Int.reduceLE, Int.reduceAdd, Int.reduceSub, Int.reduceMul, Int.reduceNeg, Int.reduceToNat, Nat.reduceAdd, Nat.reduceMul, Int.reduceNatCast, reduceCtorEq, Int.cast_ofNat_Int, bi_tr, bi_fa, bi_0, bi_1, not_true_eq_false, not_false_eq_true, rnk_v, rnk_n, ↓reduceIte, i00, i11, ibi, or_true, true_or, and_true, true_and, List.cons_append, List.nil_append, Option.toList, nop]
theorem lw_meet {D : Nat} (hD : 4 ≤ D) (hD2 : 4 ≤ D) {M : tM} {S : tS} (hC : RelC S M) (hR : RelR S M) (hI : sInv S) {n i : Nat} (hl : ∀ N, Sc M N → alen N 121 = n) (hn : n ≤ 100000) (hi : i + 6 ≤ n) : ∃ M' S', rn (exF D) C_L_law 984 [some (.ref 121), some (.ref 88), some (.ref 90), some (.int (iI i))] [] M = rn (exF D) C_L_law 1564 [some (.ref 121), some (.ref 88), some (.ref 90), some (.int (iI i))] [] M' ∧ RelC S' M' ∧ RelR S' M' ∧ sInv S' ∧ Sc M M' := by
  have v1 := i32_rng (M.1 121 (i + 1))
  have v2 := i32_rng (M.1 121 (i + 2))
  have v3 := i32_rng (M.1 121 (i + 3))
  have e : akind 121 = 7 := rfl
  obtain ⟨M1, a1, a2, a3⟩ := c_meet (D := D) (by omega) hC hI v1 v2 v3
  obtain ⟨M2, b1, b2, b3⟩ := d_meet (D := D) (by omega) (RelR_SmC hR a3) hI v1 v2 v3
  have s1 : Sc M M1 := ⟨(a3 121 (by omega)).1, (a3 122 (by omega)).1⟩
  have s2 : Sc M M2 := Sc_C s1 b3
  simp only [iI_of] at a1 b1
  have l1 := hl M ⟨rfl, rfl⟩
  have l2 := hl M1 s1
  have k1 := s1.1
  refine ⟨M2, _, ?_, RelC_SmR a2 b3, b2, iv_meet hI _ _ _, s2⟩
  simp (maxSteps := 4000000) (disch := omega) only [s_L_law_984, s_L_law_985, s_L_law_986, s_L_law_987, s_L_law_988, s_L_law_989, s_L_law_990, s_L_law_991, s_L_law_992, s_L_law_993, s_L_law_994, s_L_law_995, s_L_law_996, s_L_law_997, s_L_law_998, s_L_law_999, s_L_law_1000, s_L_law_1003, s_L_law_1004, s_L_law_1005, s_L_law_1006, s_L_law_1007, s_L_law_1008, s_L_law_1009, s_L_law_1010, s_L_law_1011, s_L_law_1012, s_L_law_1013, s_L_law_1014, s_L_law_1015, s_L_law_1016, s_L_law_1017, s_L_law_1018, s_L_law_1019, s_L_law_1022, s_L_law_1025, s_L_law_1026, e, l1, l2, k1, cls_88, cls_90, tn_add, tn_1, a1, b1, iI_add, iI_sub, iI_mul, iI_neg, iI_lt, iI_le, iI_eq, iI_toInt, tn_n, tn_1, inb_I, Int.reduceEq, Int.reduceLT, Int.reduceLE, Int.reduceAdd, Int.reduceSub, Int.reduceMul, Int.reduceNeg, Int.reduceToNat, Nat.reduceAdd, Nat.reduceMul, Int.reduceNatCast, reduceCtorEq, Int.cast_ofNat_Int, bi_tr, bi_fa, bi_0, bi_1, not_true_eq_false, not_false_eq_true, rnk_v, rnk_n, ↓reduceIte, i00, i11, ibi, or_true, true_or, and_true, true_and, List.cons_append, List.nil_append, Option.toList, nop]
theorem lw_cut {D : Nat} (hD : 5 ≤ D) (hD2 : 16 ≤ D) {M : tM} {S : tS} (hC : RelC S M) (hR : RelR S M) (hI : sInv S) {n i : Nat} (hl : ∀ N, Sc M N → alen N 121 = n) (hn : n ≤ 100000) (hi : i + 6 ≤ n) : ∃ M' S', rn (exF D) C_L_law 1027 [some (.ref 121), some (.ref 88), some (.ref 90), some (.int (iI i))] [] M = rn (exF D) C_L_law 1564 [some (.ref 121), some (.ref 88), some (.ref 90), some (.int (iI i))] [] M' ∧ RelC S' M' ∧ RelR S' M' ∧ sInv S' ∧ Sc M M' := by
  have v1 := i32_rng (M.1 121 (i + 1))
  have v2 := i32_rng (M.1 121 (i + 2))
  have v3 := i32_rng (M.1 121 (i + 3))
  have e : akind 121 = 7 := rfl
  obtain ⟨M1, a1, a2, a3⟩ := c_cut (D := D) (by omega) hC hI v1 v2 v3
  obtain ⟨M2, b1, b2, b3⟩ := d_cut (D := D) (by omega) (RelR_SmC hR a3) hI v1 v2 v3
  have s1 : Sc M M1 := ⟨(a3 121 (by omega)).1, (a3 122 (by omega)).1⟩
  have s2 : Sc M M2 := Sc_C s1 b3
  simp only [iI_of] at a1 b1
  have l1 := hl M ⟨rfl, rfl⟩
  have l2 := hl M1 s1
  have k1 := s1.1
  refine ⟨M2, _, ?_, RelC_SmR a2 b3, b2, iv_cut hI _ _ _, s2⟩
  simp (maxSteps := 4000000) (disch := omega) only [s_L_law_1027, s_L_law_1028, s_L_law_1029, s_L_law_1030, s_L_law_1031, s_L_law_1032, s_L_law_1033, s_L_law_1034, s_L_law_1035, s_L_law_1036, s_L_law_1037, s_L_law_1038, s_L_law_1039, s_L_law_1040, s_L_law_1041, s_L_law_1042, s_L_law_1043, s_L_law_1046, s_L_law_1047, s_L_law_1048, s_L_law_1049, s_L_law_1050, s_L_law_1051, s_L_law_1052, s_L_law_1053, s_L_law_1054, s_L_law_1055, s_L_law_1056, s_L_law_1057, s_L_law_1058, s_L_law_1059, s_L_law_1060, s_L_law_1061, s_L_law_1062, s_L_law_1065, s_L_law_1068, s_L_law_1069, e, l1, l2, k1, cls_88, cls_90, tn_add, tn_1, a1, b1, iI_add, iI_sub, iI_mul, iI_neg, iI_lt, iI_le, iI_eq, iI_toInt, tn_n, tn_1, inb_I, Int.reduceEq, Int.reduceLT, Int.reduceLE, Int.reduceAdd, Int.reduceSub, Int.reduceMul, Int.reduceNeg, Int.reduceToNat, Nat.reduceAdd, Nat.reduceMul, Int.reduceNatCast, reduceCtorEq, Int.cast_ofNat_Int, bi_tr, bi_fa, bi_0, bi_1, not_true_eq_false, not_false_eq_true, rnk_v, rnk_n, ↓reduceIte, i00, i11, ibi, or_true, true_or, and_true, true_and, List.cons_append, List.nil_append, Option.toList, nop]
theorem lw_stuck {D : Nat} (hD : 7 ≤ D) (hD2 : 5 ≤ D) {M : tM} {S : tS} (hC : RelC S M) (hR : RelR S M) (hI : sInv S) {n i : Nat} (hl : ∀ N, Sc M N → alen N 121 = n) (hn : n ≤ 100000) (hi : i + 6 ≤ n) : ∃ M' S', rn (exF D) C_L_law 1070 [some (.ref 121), some (.ref 88), some (.ref 90), some (.int (iI i))] [] M = rn (exF D) C_L_law 1564 [some (.ref 121), some (.ref 88), some (.ref 90), some (.int (iI i))] [] M' ∧ RelC S' M' ∧ RelR S' M' ∧ sInv S' ∧ Sc M M' := by
  have v1 := i32_rng (M.1 121 (i + 1))
  have v2 := i32_rng (M.1 121 (i + 2))
  have e : akind 121 = 7 := rfl
  obtain ⟨M1, a1, a2, a3⟩ := c_stuck (D := D) (by omega) hC hI v1 v2
  obtain ⟨M2, b1, b2, b3⟩ := d_stuck (D := D) (by omega) (RelR_SmC hR a3) hI v1 v2
  have s1 : Sc M M1 := ⟨(a3 121 (by omega)).1, (a3 122 (by omega)).1⟩
  have s2 : Sc M M2 := Sc_C s1 b3
  simp only [iI_of] at a1 b1
  have l1 := hl M ⟨rfl, rfl⟩
  have l2 := hl M1 s1
  have k1 := s1.1
  refine ⟨M2, _, ?_, RelC_SmR a2 b3, b2, iv_stuck hI _ _, s2⟩
  simp (maxSteps := 4000000) (disch := omega) only [s_L_law_1070, s_L_law_1071, s_L_law_1072, s_L_law_1073, s_L_law_1074, s_L_law_1075, s_L_law_1076, s_L_law_1077, s_L_law_1078, s_L_law_1079, s_L_law_1080, s_L_law_1081, s_L_law_1084, s_L_law_1085, s_L_law_1086, s_L_law_1087, s_L_law_1088, s_L_law_1089, s_L_law_1090, s_L_law_1091, s_L_law_1092, s_L_law_1093, s_L_law_1094, s_L_law_1095, s_L_law_1098, s_L_law_1101, s_L_law_1102, e, l1, l2, k1, cls_88, cls_90, tn_add, tn_1, a1, b1, iI_add, iI_sub, iI_mul, iI_neg, iI_lt, iI_le, iI_eq, iI_toInt, tn_n, tn_1, inb_I, Int.reduceEq, Int.reduceLT, Int.reduceLE, Int.reduceAdd, Int.reduceSub, Int.reduceMul, Int.reduceNeg, Int.reduceToNat, Nat.reduceAdd, Nat.reduceMul, Int.reduceNatCast, reduceCtorEq, Int.cast_ofNat_Int, bi_tr, bi_fa, bi_0, bi_1, not_true_eq_false, not_false_eq_true, rnk_v, rnk_n, ↓reduceIte, i00, i11, ibi, or_true, true_or, and_true, true_and, List.cons_append, List.nil_append, Option.toList, nop]
theorem lw_listen {D : Nat} (hD : 7 ≤ D) (hD2 : 5 ≤ D) {M : tM} {S : tS} (hC : RelC S M) (hR : RelR S M) (hI : sInv S) {n i : Nat} (hl : ∀ N, Sc M N → alen N 121 = n) (hn : n ≤ 100000) (hi : i + 6 ≤ n) : ∃ M' S', rn (exF D) C_L_law 1103 [some (.ref 121), some (.ref 88), some (.ref 90), some (.int (iI i))] [] M = rn (exF D) C_L_law 1564 [some (.ref 121), some (.ref 88), some (.ref 90), some (.int (iI i))] [] M' ∧ RelC S' M' ∧ RelR S' M' ∧ sInv S' ∧ Sc M M' := by
  have v1 := i32_rng (M.1 121 (i + 1))
  have v2 := i32_rng (M.1 121 (i + 2))
  have e : akind 121 = 7 := rfl
  obtain ⟨M1, a1, a2, a3⟩ := c_listen (D := D) (by omega) hC hI v1 v2
  obtain ⟨M2, b1, b2, b3⟩ := d_listen (D := D) (by omega) (RelR_SmC hR a3) hI v1 v2
  have s1 : Sc M M1 := ⟨(a3 121 (by omega)).1, (a3 122 (by omega)).1⟩
  have s2 : Sc M M2 := Sc_C s1 b3
  simp only [iI_of] at a1 b1
  have l1 := hl M ⟨rfl, rfl⟩
  have l2 := hl M1 s1
  have k1 := s1.1
  refine ⟨M2, _, ?_, RelC_SmR a2 b3, b2, iv_listen hI _ _, s2⟩
  simp (maxSteps := 4000000) (disch := omega) only [s_L_law_1103, s_L_law_1104, s_L_law_1105, s_L_law_1106, s_L_law_1107, s_L_law_1108, s_L_law_1109, s_L_law_1110, s_L_law_1111, s_L_law_1112, s_L_law_1113, s_L_law_1114, s_L_law_1117, s_L_law_1118, s_L_law_1119, s_L_law_1120, s_L_law_1121, s_L_law_1122, s_L_law_1123, s_L_law_1124, s_L_law_1125, s_L_law_1126, s_L_law_1127, s_L_law_1128, s_L_law_1131, s_L_law_1134, s_L_law_1135, e, l1, l2, k1, cls_88, cls_90, tn_add, tn_1, a1, b1, iI_add, iI_sub, iI_mul, iI_neg, iI_lt, iI_le, iI_eq, iI_toInt, tn_n, tn_1, inb_I, Int.reduceEq, Int.reduceLT, Int.reduceLE, Int.reduceAdd, Int.reduceSub, Int.reduceMul, Int.reduceNeg, Int.reduceToNat, Nat.reduceAdd, Nat.reduceMul, Int.reduceNatCast, reduceCtorEq, Int.cast_ofNat_Int, bi_tr, bi_fa, bi_0, bi_1, not_true_eq_false, not_false_eq_true, rnk_v, rnk_n, ↓reduceIte, i00, i11, ibi, or_true, true_or, and_true, true_and, List.cons_append, List.nil_append, Option.toList, nop]
theorem lw_enough {D : Nat} (hD : 5 ≤ D) (hD2 : 4 ≤ D) {M : tM} {S : tS} (hC : RelC S M) (hR : RelR S M) (hI : sInv S) {n i : Nat} (hl : ∀ N, Sc M N → alen N 121 = n) (hn : n ≤ 100000) (hi : i + 6 ≤ n) : ∃ M' S', rn (exF D) C_L_law 1136 [some (.ref 121), some (.ref 88), some (.ref 90), some (.int (iI i))] [] M = rn (exF D) C_L_law 1564 [some (.ref 121), some (.ref 88), some (.ref 90), some (.int (iI i))] [] M' ∧ RelC S' M' ∧ RelR S' M' ∧ sInv S' ∧ Sc M M' := by
  have v1 := i32_rng (M.1 121 (i + 1))
  have v2 := i32_rng (M.1 121 (i + 2))
  have v3 := i32_rng (M.1 121 (i + 3))
  have e : akind 121 = 7 := rfl
  obtain ⟨M1, a1, a2, a3⟩ := c_enough (D := D) (by omega) hC hI v1 v2 v3
  obtain ⟨M2, b1, b2, b3⟩ := d_enough (D := D) (by omega) (RelR_SmC hR a3) hI v1 v2 v3
  have s1 : Sc M M1 := ⟨(a3 121 (by omega)).1, (a3 122 (by omega)).1⟩
  have s2 : Sc M M2 := Sc_C s1 b3
  simp only [iI_of] at a1 b1
  have l1 := hl M ⟨rfl, rfl⟩
  have l2 := hl M1 s1
  have k1 := s1.1
  refine ⟨M2, _, ?_, RelC_SmR a2 b3, b2, iv_enough hI _ _ _, s2⟩
  simp (maxSteps := 4000000) (disch := omega) only [s_L_law_1136, s_L_law_1137, s_L_law_1138, s_L_law_1139, s_L_law_1140, s_L_law_1141, s_L_law_1142, s_L_law_1143, s_L_law_1144, s_L_law_1145, s_L_law_1146, s_L_law_1147, s_L_law_1148, s_L_law_1149, s_L_law_1150, s_L_law_1151, s_L_law_1152, s_L_law_1155, s_L_law_1156, s_L_law_1157, s_L_law_1158, s_L_law_1159, s_L_law_1160, s_L_law_1161, s_L_law_1162, s_L_law_1163, s_L_law_1164, s_L_law_1165, s_L_law_1166, s_L_law_1167, s_L_law_1168, s_L_law_1169, s_L_law_1170, s_L_law_1171, s_L_law_1174, s_L_law_1177, s_L_law_1178, e, l1, l2, k1, cls_88, cls_90, tn_add, tn_1, a1, b1, iI_add, iI_sub, iI_mul, iI_neg, iI_lt, iI_le, iI_eq, iI_toInt, tn_n, tn_1, inb_I, Int.reduceEq, Int.reduceLT, Int.reduceLE, Int.reduceAdd, Int.reduceSub, Int.reduceMul, Int.reduceNeg, Int.reduceToNat, Nat.reduceAdd, Nat.reduceMul, Int.reduceNatCast, reduceCtorEq, Int.cast_ofNat_Int, bi_tr, bi_fa, bi_0, bi_1, not_true_eq_false, not_false_eq_true, rnk_v, rnk_n, ↓reduceIte, i00, i11, ibi, or_true, true_or, and_true, true_and, List.cons_append, List.nil_append, Option.toList, nop]
theorem lw_tree {D : Nat} (hD : 4 ≤ D) (hD2 : 3 ≤ D) {M : tM} {S : tS} (hC : RelC S M) (hR : RelR S M) (hI : sInv S) {n i : Nat} (hl : ∀ N, Sc M N → alen N 121 = n) (hn : n ≤ 100000) (hi : i + 6 ≤ n) : ∃ M' S', rn (exF D) C_L_law 1179 [some (.ref 121), some (.ref 88), some (.ref 90), some (.int (iI i))] [] M = rn (exF D) C_L_law 1564 [some (.ref 121), some (.ref 88), some (.ref 90), some (.int (iI i))] [] M' ∧ RelC S' M' ∧ RelR S' M' ∧ sInv S' ∧ Sc M M' := by
  have v1 := i32_rng (M.1 121 (i + 1))
  have e : akind 121 = 7 := rfl
  obtain ⟨M1, a1, a2, a3⟩ := c_tree (D := D) (by omega) hC hI v1
  obtain ⟨M2, b1, b2, b3⟩ := d_tree (D := D) (by omega) (RelR_SmC hR a3) hI v1
  have s1 : Sc M M1 := ⟨(a3 121 (by omega)).1, (a3 122 (by omega)).1⟩
  have s2 : Sc M M2 := Sc_C s1 b3
  simp only [iI_of] at a1 b1
  have l1 := hl M ⟨rfl, rfl⟩
  have l2 := hl M1 s1
  have k1 := s1.1
  refine ⟨M2, _, ?_, RelC_SmR a2 b3, b2, iv_tree hI _, s2⟩
  simp (maxSteps := 4000000) (disch := omega) only [s_L_law_1179, s_L_law_1180, s_L_law_1181, s_L_law_1182, s_L_law_1183, s_L_law_1184, s_L_law_1185, s_L_law_1188, s_L_law_1189, s_L_law_1190, s_L_law_1191, s_L_law_1192, s_L_law_1193, s_L_law_1194, s_L_law_1197, s_L_law_1200, s_L_law_1201, e, l1, l2, k1, cls_88, cls_90, tn_add, tn_1, a1, b1, iI_add, iI_sub, iI_mul, iI_neg, iI_lt, iI_le, iI_eq, iI_toInt, tn_n, tn_1, inb_I, Int.reduceEq, Int.reduceLT, Int.reduceLE, Int.reduceAdd, Int.reduceSub, Int.reduceMul, Int.reduceNeg, Int.reduceToNat, Nat.reduceAdd, Nat.reduceMul, Int.reduceNatCast, reduceCtorEq, Int.cast_ofNat_Int, bi_tr, bi_fa, bi_0, bi_1, not_true_eq_false, not_false_eq_true, rnk_v, rnk_n, ↓reduceIte, i00, i11, ibi, or_true, true_or, and_true, true_and, List.cons_append, List.nil_append, Option.toList, nop]
theorem lw_seat {D : Nat} (hD : 5 ≤ D) (hD2 : 4 ≤ D) {M : tM} {S : tS} (hC : RelC S M) (hR : RelR S M) (hI : sInv S) {n i : Nat} (hl : ∀ N, Sc M N → alen N 121 = n) (hn : n ≤ 100000) (hi : i + 6 ≤ n) : ∃ M' S', rn (exF D) C_L_law 1202 [some (.ref 121), some (.ref 88), some (.ref 90), some (.int (iI i))] [] M = rn (exF D) C_L_law 1564 [some (.ref 121), some (.ref 88), some (.ref 90), some (.int (iI i))] [] M' ∧ RelC S' M' ∧ RelR S' M' ∧ sInv S' ∧ Sc M M' := by
  have v1 := i32_rng (M.1 121 (i + 1))
  have v2 := i32_rng (M.1 121 (i + 2))
  have e : akind 121 = 7 := rfl
  obtain ⟨M1, a1, a2, a3⟩ := c_seat (D := D) (by omega) hC hI v1 v2
  obtain ⟨M2, b1, b2, b3⟩ := d_seat (D := D) (by omega) (RelR_SmC hR a3) hI v1 v2
  have s1 : Sc M M1 := ⟨(a3 121 (by omega)).1, (a3 122 (by omega)).1⟩
  have s2 : Sc M M2 := Sc_C s1 b3
  simp only [iI_of] at a1 b1
  have l1 := hl M ⟨rfl, rfl⟩
  have l2 := hl M1 s1
  have k1 := s1.1
  refine ⟨M2, _, ?_, RelC_SmR a2 b3, b2, iv_seat hI _ _, s2⟩
  simp (maxSteps := 4000000) (disch := omega) only [s_L_law_1202, s_L_law_1203, s_L_law_1204, s_L_law_1205, s_L_law_1206, s_L_law_1207, s_L_law_1208, s_L_law_1209, s_L_law_1210, s_L_law_1211, s_L_law_1212, s_L_law_1213, s_L_law_1216, s_L_law_1217, s_L_law_1218, s_L_law_1219, s_L_law_1220, s_L_law_1221, s_L_law_1222, s_L_law_1223, s_L_law_1224, s_L_law_1225, s_L_law_1226, s_L_law_1227, s_L_law_1230, s_L_law_1233, s_L_law_1234, e, l1, l2, k1, cls_88, cls_90, tn_add, tn_1, a1, b1, iI_add, iI_sub, iI_mul, iI_neg, iI_lt, iI_le, iI_eq, iI_toInt, tn_n, tn_1, inb_I, Int.reduceEq, Int.reduceLT, Int.reduceLE, Int.reduceAdd, Int.reduceSub, Int.reduceMul, Int.reduceNeg, Int.reduceToNat, Nat.reduceAdd, Nat.reduceMul, Int.reduceNatCast, reduceCtorEq, Int.cast_ofNat_Int, bi_tr, bi_fa, bi_0, bi_1, not_true_eq_false, not_false_eq_true, rnk_v, rnk_n, ↓reduceIte, i00, i11, ibi, or_true, true_or, and_true, true_and, List.cons_append, List.nil_append, Option.toList, nop]
theorem lw_judge {D : Nat} (hD : 7 ≤ D) (hD2 : 6 ≤ D) {M : tM} {S : tS} (hC : RelC S M) (hR : RelR S M) (hI : sInv S) {n i : Nat} (hl : ∀ N, Sc M N → alen N 121 = n) (hn : n ≤ 100000) (hi : i + 6 ≤ n) : ∃ M' S', rn (exF D) C_L_law 1235 [some (.ref 121), some (.ref 88), some (.ref 90), some (.int (iI i))] [] M = rn (exF D) C_L_law 1564 [some (.ref 121), some (.ref 88), some (.ref 90), some (.int (iI i))] [] M' ∧ RelC S' M' ∧ RelR S' M' ∧ sInv S' ∧ Sc M M' := by
  have v1 := i32_rng (M.1 121 (i + 1))
  have v2 := i32_rng (M.1 121 (i + 2))
  have e : akind 121 = 7 := rfl
  obtain ⟨M1, a1, a2, a3⟩ := c_judge (D := D) (by omega) hC hI v1 v2
  obtain ⟨M2, b1, b2, b3⟩ := d_judge (D := D) (by omega) (RelR_SmC hR a3) hI v1 v2
  have s1 : Sc M M1 := ⟨(a3 121 (by omega)).1, (a3 122 (by omega)).1⟩
  have s2 : Sc M M2 := Sc_C s1 b3
  simp only [iI_of] at a1 b1
  have l1 := hl M ⟨rfl, rfl⟩
  have l2 := hl M1 s1
  have k1 := s1.1
  refine ⟨M2, _, ?_, RelC_SmR a2 b3, b2, iv_judge hI _ _, s2⟩
  simp (maxSteps := 4000000) (disch := omega) only [s_L_law_1235, s_L_law_1236, s_L_law_1237, s_L_law_1238, s_L_law_1239, s_L_law_1240, s_L_law_1241, s_L_law_1242, s_L_law_1243, s_L_law_1244, s_L_law_1245, s_L_law_1246, s_L_law_1249, s_L_law_1250, s_L_law_1251, s_L_law_1252, s_L_law_1253, s_L_law_1254, s_L_law_1255, s_L_law_1256, s_L_law_1257, s_L_law_1258, s_L_law_1259, s_L_law_1260, s_L_law_1263, s_L_law_1266, s_L_law_1267, e, l1, l2, k1, cls_88, cls_90, tn_add, tn_1, a1, b1, iI_add, iI_sub, iI_mul, iI_neg, iI_lt, iI_le, iI_eq, iI_toInt, tn_n, tn_1, inb_I, Int.reduceEq, Int.reduceLT, Int.reduceLE, Int.reduceAdd, Int.reduceSub, Int.reduceMul, Int.reduceNeg, Int.reduceToNat, Nat.reduceAdd, Nat.reduceMul, Int.reduceNatCast, reduceCtorEq, Int.cast_ofNat_Int, bi_tr, bi_fa, bi_0, bi_1, not_true_eq_false, not_false_eq_true, rnk_v, rnk_n, ↓reduceIte, i00, i11, ibi, or_true, true_or, and_true, true_and, List.cons_append, List.nil_append, Option.toList, nop]
theorem lw_behind {D : Nat} (hD : 8 ≤ D) (hD2 : 7 ≤ D) {M : tM} {S : tS} (hC : RelC S M) (hR : RelR S M) (hI : sInv S) {n i : Nat} (hl : ∀ N, Sc M N → alen N 121 = n) (hn : n ≤ 100000) (hi : i + 6 ≤ n) : ∃ M' S', rn (exF D) C_L_law 1268 [some (.ref 121), some (.ref 88), some (.ref 90), some (.int (iI i))] [] M = rn (exF D) C_L_law 1564 [some (.ref 121), some (.ref 88), some (.ref 90), some (.int (iI i))] [] M' ∧ RelC S' M' ∧ RelR S' M' ∧ sInv S' ∧ Sc M M' := by
  have v1 := i32_rng (M.1 121 (i + 1))
  have v2 := i32_rng (M.1 121 (i + 2))
  have v3 := i32_rng (M.1 121 (i + 3))
  have e : akind 121 = 7 := rfl
  obtain ⟨M1, a1, a2, a3⟩ := c_behind (D := D) (by omega) hC hI v1 v2 v3
  obtain ⟨M2, b1, b2, b3⟩ := d_behind (D := D) (by omega) (RelR_SmC hR a3) hI v1 v2 v3
  have s1 : Sc M M1 := ⟨(a3 121 (by omega)).1, (a3 122 (by omega)).1⟩
  have s2 : Sc M M2 := Sc_C s1 b3
  simp only [iI_of] at a1 b1
  have l1 := hl M ⟨rfl, rfl⟩
  have l2 := hl M1 s1
  have k1 := s1.1
  refine ⟨M2, _, ?_, RelC_SmR a2 b3, b2, iv_behind hI _ _ _, s2⟩
  simp (maxSteps := 4000000) (disch := omega) only [s_L_law_1268, s_L_law_1269, s_L_law_1270, s_L_law_1271, s_L_law_1272, s_L_law_1273, s_L_law_1274, s_L_law_1275, s_L_law_1276, s_L_law_1277, s_L_law_1278, s_L_law_1279, s_L_law_1280, s_L_law_1281, s_L_law_1282, s_L_law_1283, s_L_law_1284, s_L_law_1287, s_L_law_1288, s_L_law_1289, s_L_law_1290, s_L_law_1291, s_L_law_1292, s_L_law_1293, s_L_law_1294, s_L_law_1295, s_L_law_1296, s_L_law_1297, s_L_law_1298, s_L_law_1299, s_L_law_1300, s_L_law_1301, s_L_law_1302, s_L_law_1303, s_L_law_1306, s_L_law_1309, s_L_law_1310, e, l1, l2, k1, cls_88, cls_90, tn_add, tn_1, a1, b1, iI_add, iI_sub, iI_mul, iI_neg, iI_lt, iI_le, iI_eq, iI_toInt, tn_n, tn_1, inb_I, Int.reduceEq, Int.reduceLT, Int.reduceLE, Int.reduceAdd, Int.reduceSub, Int.reduceMul, Int.reduceNeg, Int.reduceToNat, Nat.reduceAdd, Nat.reduceMul, Int.reduceNatCast, reduceCtorEq, Int.cast_ofNat_Int, bi_tr, bi_fa, bi_0, bi_1, not_true_eq_false, not_false_eq_true, rnk_v, rnk_n, ↓reduceIte, i00, i11, ibi, or_true, true_or, and_true, true_and, List.cons_append, List.nil_append, Option.toList, nop]
theorem lw_done {D : Nat} (hD : 8 ≤ D) (hD2 : 6 ≤ D) {M : tM} {S : tS} (hC : RelC S M) (hR : RelR S M) (hI : sInv S) {n i : Nat} (hl : ∀ N, Sc M N → alen N 121 = n) (hn : n ≤ 100000) (hi : i + 6 ≤ n) : ∃ M' S', rn (exF D) C_L_law 1311 [some (.ref 121), some (.ref 88), some (.ref 90), some (.int (iI i))] [] M = rn (exF D) C_L_law 1564 [some (.ref 121), some (.ref 88), some (.ref 90), some (.int (iI i))] [] M' ∧ RelC S' M' ∧ RelR S' M' ∧ sInv S' ∧ Sc M M' := by
  have v1 := i32_rng (M.1 121 (i + 1))
  have v2 := i32_rng (M.1 121 (i + 2))
  have e : akind 121 = 7 := rfl
  obtain ⟨M1, a1, a2, a3⟩ := c_done (D := D) (by omega) hC hI v1 v2
  obtain ⟨M2, b1, b2, b3⟩ := d_done (D := D) (by omega) (RelR_SmC hR a3) hI v1 v2
  have s1 : Sc M M1 := ⟨(a3 121 (by omega)).1, (a3 122 (by omega)).1⟩
  have s2 : Sc M M2 := Sc_C s1 b3
  simp only [iI_of] at a1 b1
  have l1 := hl M ⟨rfl, rfl⟩
  have l2 := hl M1 s1
  have k1 := s1.1
  refine ⟨M2, _, ?_, RelC_SmR a2 b3, b2, iv_done hI _ _, s2⟩
  simp (maxSteps := 4000000) (disch := omega) only [s_L_law_1311, s_L_law_1312, s_L_law_1313, s_L_law_1314, s_L_law_1315, s_L_law_1316, s_L_law_1317, s_L_law_1318, s_L_law_1319, s_L_law_1320, s_L_law_1321, s_L_law_1322, s_L_law_1325, s_L_law_1326, s_L_law_1327, s_L_law_1328, s_L_law_1329, s_L_law_1330, s_L_law_1331, s_L_law_1332, s_L_law_1333, s_L_law_1334, s_L_law_1335, s_L_law_1336, s_L_law_1339, s_L_law_1342, s_L_law_1343, e, l1, l2, k1, cls_88, cls_90, tn_add, tn_1, a1, b1, iI_add, iI_sub, iI_mul, iI_neg, iI_lt, iI_le, iI_eq, iI_toInt, tn_n, tn_1, inb_I, Int.reduceEq, Int.reduceLT, Int.reduceLE, Int.reduceAdd, Int.reduceSub, Int.reduceMul, Int.reduceNeg, Int.reduceToNat, Nat.reduceAdd, Nat.reduceMul, Int.reduceNatCast, reduceCtorEq, Int.cast_ofNat_Int, bi_tr, bi_fa, bi_0, bi_1, not_true_eq_false, not_false_eq_true, rnk_v, rnk_n, ↓reduceIte, i00, i11, ibi, or_true, true_or, and_true, true_and, List.cons_append, List.nil_append, Option.toList, nop]
theorem lw_send {D : Nat} (hD : 5 ≤ D) (hD2 : 5 ≤ D) {M : tM} {S : tS} (hC : RelC S M) (hR : RelR S M) (hI : sInv S) {n i : Nat} (hl : ∀ N, Sc M N → alen N 121 = n) (hn : n ≤ 100000) (hi : i + 6 ≤ n) : ∃ M' S', rn (exF D) C_L_law 1344 [some (.ref 121), some (.ref 88), some (.ref 90), some (.int (iI i))] [] M = rn (exF D) C_L_law 1564 [some (.ref 121), some (.ref 88), some (.ref 90), some (.int (iI i))] [] M' ∧ RelC S' M' ∧ RelR S' M' ∧ sInv S' ∧ Sc M M' := by
  have v1 := i32_rng (M.1 121 (i + 1))
  have v2 := i32_rng (M.1 121 (i + 2))
  have e : akind 121 = 7 := rfl
  by_cases z : M.1 121 (i + 3) = iI 0
  · obtain ⟨M1, a1, a2, a3⟩ := c_send (D := D) (by omega) hC hI v1 v2 False
    obtain ⟨M2, b1, b2, b3⟩ := d_send (D := D) (by omega) (RelR_SmC hR a3) hI v1 v2 False
    have s1 : Sc M M1 := ⟨(a3 121 (by omega)).1, (a3 122 (by omega)).1⟩
    have s2 : Sc M M2 := Sc_C s1 b3
    simp only [iI_of, bi_tr, bi_fa] at a1 b1
    have l1 := hl M ⟨rfl, rfl⟩
    have l2 := hl M1 s1
    have k1 := s1.1
    refine ⟨M2, _, ?_, RelC_SmR a2 b3, b2, iv_send hI _ _ False, s2⟩
    simp (maxSteps := 4000000) (disch := omega) only [s_L_law_1344, s_L_law_1345, s_L_law_1346, s_L_law_1347, s_L_law_1348, s_L_law_1349, s_L_law_1350, s_L_law_1351, s_L_law_1352, s_L_law_1353, s_L_law_1354, s_L_law_1355, s_L_law_1356, s_L_law_1357, s_L_law_1358, s_L_law_1359, s_L_law_1360, s_L_law_1363, s_L_law_1364, s_L_law_1367, s_L_law_1368, s_L_law_1371, s_L_law_1372, s_L_law_1373, s_L_law_1374, s_L_law_1375, s_L_law_1376, s_L_law_1377, s_L_law_1378, s_L_law_1379, s_L_law_1380, s_L_law_1381, s_L_law_1382, s_L_law_1383, s_L_law_1384, s_L_law_1385, s_L_law_1386, s_L_law_1387, s_L_law_1390, s_L_law_1391, s_L_law_1394, s_L_law_1395, s_L_law_1398, s_L_law_1401, s_L_law_1402, e, l1, l2, k1, cls_88, cls_90, tn_add, tn_1, a1, b1, z, iI_add, iI_sub, iI_mul, iI_neg, iI_lt, iI_le, iI_eq, iI_toInt, tn_n, tn_1, inb_I, Int.reduceEq, Int.reduceLT, Int.reduceLE, Int.reduceAdd, Int.reduceSub, Int.reduceMul, Int.reduceNeg, Int.reduceToNat, Nat.reduceAdd, Nat.reduceMul, Int.reduceNatCast, reduceCtorEq, Int.cast_ofNat_Int, bi_tr, bi_fa, bi_0, bi_1, not_true_eq_false, not_false_eq_true, rnk_v, rnk_n, ↓reduceIte, i00, i11, ibi, or_true, true_or, and_true, true_and, List.cons_append, List.nil_append, Option.toList, nop]
  · obtain ⟨M1, a1, a2, a3⟩ := c_send (D := D) (by omega) hC hI v1 v2 True
    obtain ⟨M2, b1, b2, b3⟩ := d_send (D := D) (by omega) (RelR_SmC hR a3) hI v1 v2 True
    have s1 : Sc M M1 := ⟨(a3 121 (by omega)).1, (a3 122 (by omega)).1⟩
    have s2 : Sc M M2 := Sc_C s1 b3
    simp only [iI_of, bi_tr, bi_fa] at a1 b1
    have l1 := hl M ⟨rfl, rfl⟩
    have l2 := hl M1 s1
    have k1 := s1.1
    refine ⟨M2, _, ?_, RelC_SmR a2 b3, b2, iv_send hI _ _ True, s2⟩
    simp (maxSteps := 4000000) (disch := omega) only [s_L_law_1344, s_L_law_1345, s_L_law_1346, s_L_law_1347, s_L_law_1348, s_L_law_1349, s_L_law_1350, s_L_law_1351, s_L_law_1352, s_L_law_1353, s_L_law_1354, s_L_law_1355, s_L_law_1356, s_L_law_1357, s_L_law_1358, s_L_law_1359, s_L_law_1360, s_L_law_1363, s_L_law_1364, s_L_law_1367, s_L_law_1368, s_L_law_1371, s_L_law_1372, s_L_law_1373, s_L_law_1374, s_L_law_1375, s_L_law_1376, s_L_law_1377, s_L_law_1378, s_L_law_1379, s_L_law_1380, s_L_law_1381, s_L_law_1382, s_L_law_1383, s_L_law_1384, s_L_law_1385, s_L_law_1386, s_L_law_1387, s_L_law_1390, s_L_law_1391, s_L_law_1394, s_L_law_1395, s_L_law_1398, s_L_law_1401, s_L_law_1402, e, l1, l2, k1, cls_88, cls_90, tn_add, tn_1, a1, b1, z, iI_add, iI_sub, iI_mul, iI_neg, iI_lt, iI_le, iI_eq, iI_toInt, tn_n, tn_1, inb_I, Int.reduceEq, Int.reduceLT, Int.reduceLE, Int.reduceAdd, Int.reduceSub, Int.reduceMul, Int.reduceNeg, Int.reduceToNat, Nat.reduceAdd, Nat.reduceMul, Int.reduceNatCast, reduceCtorEq, Int.cast_ofNat_Int, bi_tr, bi_fa, bi_0, bi_1, not_true_eq_false, not_false_eq_true, rnk_v, rnk_n, ↓reduceIte, i00, i11, ibi, or_true, true_or, and_true, true_and, List.cons_append, List.nil_append, Option.toList, nop]
theorem lw_months {D : Nat} (hD : 6 ≤ D) (hD2 : 5 ≤ D) {M : tM} {S : tS} (hC : RelC S M) (hR : RelR S M) (hI : sInv S) {n i : Nat} (hl : ∀ N, Sc M N → alen N 121 = n) (hn : n ≤ 100000) (hi : i + 6 ≤ n) : ∃ M' S', rn (exF D) C_L_law 1403 [some (.ref 121), some (.ref 88), some (.ref 90), some (.int (iI i))] [] M = rn (exF D) C_L_law 1564 [some (.ref 121), some (.ref 88), some (.ref 90), some (.int (iI i))] [] M' ∧ RelC S' M' ∧ RelR S' M' ∧ sInv S' ∧ Sc M M' := by
  have v1 := i32_rng (M.1 121 (i + 1))
  have e : akind 121 = 7 := rfl
  obtain ⟨M1, a1, a2, a3⟩ := c_months (D := D) (by omega) hC hI v1
  obtain ⟨M2, b1, b2, b3⟩ := d_months (D := D) (by omega) (RelR_SmC hR a3) hI v1
  have s1 : Sc M M1 := ⟨(a3 121 (by omega)).1, (a3 122 (by omega)).1⟩
  have s2 : Sc M M2 := Sc_C s1 b3
  simp only [iI_of] at a1 b1
  have l1 := hl M ⟨rfl, rfl⟩
  have l2 := hl M1 s1
  have k1 := s1.1
  refine ⟨M2, _, ?_, RelC_SmR a2 b3, b2, iv_months hI _, s2⟩
  simp (maxSteps := 4000000) (disch := omega) only [s_L_law_1403, s_L_law_1404, s_L_law_1405, s_L_law_1406, s_L_law_1407, s_L_law_1408, s_L_law_1409, s_L_law_1412, s_L_law_1413, s_L_law_1414, s_L_law_1415, s_L_law_1416, s_L_law_1417, s_L_law_1418, s_L_law_1421, s_L_law_1424, s_L_law_1425, e, l1, l2, k1, cls_88, cls_90, tn_add, tn_1, a1, b1, iI_add, iI_sub, iI_mul, iI_neg, iI_lt, iI_le, iI_eq, iI_toInt, tn_n, tn_1, inb_I, Int.reduceEq, Int.reduceLT, Int.reduceLE, Int.reduceAdd, Int.reduceSub, Int.reduceMul, Int.reduceNeg, Int.reduceToNat, Nat.reduceAdd, Nat.reduceMul, Int.reduceNatCast, reduceCtorEq, Int.cast_ofNat_Int, bi_tr, bi_fa, bi_0, bi_1, not_true_eq_false, not_false_eq_true, rnk_v, rnk_n, ↓reduceIte, i00, i11, ibi, or_true, true_or, and_true, true_and, List.cons_append, List.nil_append, Option.toList, nop]
theorem lw_seed {D : Nat} (hD : 1 ≤ D) (hD2 : 1 ≤ D) {M : tM} {S : tS} (hC : RelC S M) (hR : RelR S M) (hI : sInv S) {n i : Nat} (hl : ∀ N, Sc M N → alen N 121 = n) (hn : n ≤ 100000) (hi : i + 6 ≤ n) : ∃ M' S', rn (exF D) C_L_law 1426 [some (.ref 121), some (.ref 88), some (.ref 90), some (.int (iI i))] [] M = rn (exF D) C_L_law 1564 [some (.ref 121), some (.ref 88), some (.ref 90), some (.int (iI i))] [] M' ∧ RelC S' M' ∧ RelR S' M' ∧ sInv S' ∧ Sc M M' := by
  have v1 := i32_rng (M.1 121 (i + 1))
  have e : akind 121 = 7 := rfl
  obtain ⟨M1, a1, a2, a3⟩ := c_seed (D := D) (by omega) hC hI (v := (M.1 121 (i + 1)).toInt) 
  obtain ⟨M2, b1, b2, b3⟩ := d_seed (D := D) (by omega) (RelR_SmC hR a3) hI (v := (M.1 121 (i + 1)).toInt) 
  have s1 : Sc M M1 := ⟨(a3 121 (by omega)).1, (a3 122 (by omega)).1⟩
  have s2 : Sc M M2 := Sc_C s1 b3
  simp only [iI_of] at a1 b1
  have l1 := hl M ⟨rfl, rfl⟩
  have l2 := hl M1 s1
  have k1 := s1.1
  refine ⟨M2, _, ?_, RelC_SmR a2 b3, b2, iv_seed hI _, s2⟩
  simp (maxSteps := 4000000) (disch := omega) only [s_L_law_1426, s_L_law_1427, s_L_law_1428, s_L_law_1429, s_L_law_1430, s_L_law_1431, s_L_law_1432, s_L_law_1435, s_L_law_1436, s_L_law_1437, s_L_law_1438, s_L_law_1439, s_L_law_1440, s_L_law_1441, s_L_law_1444, s_L_law_1447, s_L_law_1448, e, l1, l2, k1, cls_88, cls_90, tn_add, tn_1, a1, b1, iI_add, iI_sub, iI_mul, iI_neg, iI_lt, iI_le, iI_eq, iI_toInt, tn_n, tn_1, inb_I, Int.reduceEq, Int.reduceLT, Int.reduceLE, Int.reduceAdd, Int.reduceSub, Int.reduceMul, Int.reduceNeg, Int.reduceToNat, Nat.reduceAdd, Nat.reduceMul, Int.reduceNatCast, reduceCtorEq, Int.cast_ofNat_Int, bi_tr, bi_fa, bi_0, bi_1, not_true_eq_false, not_false_eq_true, rnk_v, rnk_n, ↓reduceIte, i00, i11, ibi, or_true, true_or, and_true, true_and, List.cons_append, List.nil_append, Option.toList, nop]
theorem lw_act {D : Nat} (hD : 18 ≤ D) (hD2 : 21 ≤ D) {M : tM} {S : tS} (hC : RelC S M) (hR : RelR S M) (hI : sInv S) {n i : Nat} (hl : ∀ N, Sc M N → alen N 121 = n) (hn : n ≤ 100000) (hi : i + 6 ≤ n) : ∃ M' S', rn (exF D) C_L_law 1449 [some (.ref 121), some (.ref 88), some (.ref 90), some (.int (iI i))] [] M = rn (exF D) C_L_law 1564 [some (.ref 121), some (.ref 88), some (.ref 90), some (.int (iI i))] [] M' ∧ RelC S' M' ∧ RelR S' M' ∧ sInv S' ∧ Sc M M' := by
  have v1 := i32_rng (M.1 121 (i + 1))
  have v2 := i32_rng (M.1 121 (i + 2))
  have v3 := i32_rng (M.1 121 (i + 3))
  have e : akind 121 = 7 := rfl
  obtain ⟨M1, a1, a2, a3⟩ := c_act (D := D) (by omega) hC hI (x := (M.1 121 (i + 3)).toInt) v1 v2
  obtain ⟨M2, b1, b2, b3⟩ := d_act (D := D) (by omega) (RelR_SmC hR a3) hI (x := (M.1 121 (i + 3)).toInt) v1 v2
  have s1 : Sc M M1 := ⟨(a3 121 (by omega)).1, (a3 122 (by omega)).1⟩
  have s2 : Sc M M2 := Sc_C s1 b3
  simp only [iI_of] at a1 b1
  have l1 := hl M ⟨rfl, rfl⟩
  have l2 := hl M1 s1
  have k1 := s1.1
  refine ⟨M2, _, ?_, RelC_SmR a2 b3, b2, iv_act hI _ _ _, s2⟩
  simp (maxSteps := 4000000) (disch := omega) only [s_L_law_1449, s_L_law_1450, s_L_law_1451, s_L_law_1452, s_L_law_1453, s_L_law_1454, s_L_law_1455, s_L_law_1456, s_L_law_1457, s_L_law_1458, s_L_law_1459, s_L_law_1460, s_L_law_1461, s_L_law_1462, s_L_law_1463, s_L_law_1464, s_L_law_1465, s_L_law_1468, s_L_law_1469, s_L_law_1470, s_L_law_1471, s_L_law_1472, s_L_law_1473, s_L_law_1474, s_L_law_1475, s_L_law_1476, s_L_law_1477, s_L_law_1478, s_L_law_1479, s_L_law_1480, s_L_law_1481, s_L_law_1482, s_L_law_1483, s_L_law_1484, s_L_law_1487, s_L_law_1490, s_L_law_1491, e, l1, l2, k1, cls_88, cls_90, tn_add, tn_1, a1, b1, iI_add, iI_sub, iI_mul, iI_neg, iI_lt, iI_le, iI_eq, iI_toInt, tn_n, tn_1, inb_I, Int.reduceEq, Int.reduceLT, Int.reduceLE, Int.reduceAdd, Int.reduceSub, Int.reduceMul, Int.reduceNeg, Int.reduceToNat, Nat.reduceAdd, Nat.reduceMul, Int.reduceNatCast, reduceCtorEq, Int.cast_ofNat_Int, bi_tr, bi_fa, bi_0, bi_1, not_true_eq_false, not_false_eq_true, rnk_v, rnk_n, ↓reduceIte, i00, i11, ibi, or_true, true_or, and_true, true_and, List.cons_append, List.nil_append, Option.toList, nop]
theorem lw_trace {D : Nat} (hD : 2 ≤ D) (hD2 : 2 ≤ D) {M : tM} {S : tS} (hC : RelC S M) (hR : RelR S M) (hI : sInv S) {n i : Nat} (hl : ∀ N, Sc M N → alen N 121 = n) (hn : n ≤ 100000) (hi : i + 6 ≤ n) : ∃ M' S', rn (exF D) C_L_law 1492 [some (.ref 121), some (.ref 88), some (.ref 90), some (.int (iI i))] [] M = rn (exF D) C_L_law 1564 [some (.ref 121), some (.ref 88), some (.ref 90), some (.int (iI i))] [] M' ∧ RelC S' M' ∧ RelR S' M' ∧ sInv S' ∧ Sc M M' := by
  have v1 := i32_rng (M.1 121 (i + 1))
  have e : akind 121 = 7 := rfl
  obtain ⟨M1, a1, a2, a3⟩ := c_trace (D := D) (by omega) hC hI v1
  obtain ⟨M2, b1, b2, b3⟩ := d_trace (D := D) (by omega) (RelR_SmC hR a3) hI v1
  have s1 : Sc M M1 := ⟨(a3 121 (by omega)).1, (a3 122 (by omega)).1⟩
  have s2 : Sc M M2 := Sc_C s1 b3
  simp only [iI_of] at a1 b1
  have l1 := hl M ⟨rfl, rfl⟩
  have l2 := hl M1 s1
  have k1 := s1.1
  refine ⟨M2, _, ?_, RelC_SmR a2 b3, b2, iv_trace hI _, s2⟩
  simp (maxSteps := 4000000) (disch := omega) only [s_L_law_1492, s_L_law_1493, s_L_law_1494, s_L_law_1495, s_L_law_1496, s_L_law_1497, s_L_law_1498, s_L_law_1501, s_L_law_1502, s_L_law_1503, s_L_law_1504, s_L_law_1505, s_L_law_1506, s_L_law_1507, s_L_law_1510, s_L_law_1513, s_L_law_1514, e, l1, l2, k1, cls_88, cls_90, tn_add, tn_1, a1, b1, iI_add, iI_sub, iI_mul, iI_neg, iI_lt, iI_le, iI_eq, iI_toInt, tn_n, tn_1, inb_I, Int.reduceEq, Int.reduceLT, Int.reduceLE, Int.reduceAdd, Int.reduceSub, Int.reduceMul, Int.reduceNeg, Int.reduceToNat, Nat.reduceAdd, Nat.reduceMul, Int.reduceNatCast, reduceCtorEq, Int.cast_ofNat_Int, bi_tr, bi_fa, bi_0, bi_1, not_true_eq_false, not_false_eq_true, rnk_v, rnk_n, ↓reduceIte, i00, i11, ibi, or_true, true_or, and_true, true_and, List.cons_append, List.nil_append, Option.toList, nop]
theorem lw_image {D : Nat} (hD : 2 ≤ D) (hD2 : 2 ≤ D) {M : tM} {S : tS} (hC : RelC S M) (hR : RelR S M) (hI : sInv S) {n i : Nat} (hl : ∀ N, Sc M N → alen N 121 = n) (hn : n ≤ 100000) (hi : i + 6 ≤ n) : ∃ M' S', rn (exF D) C_L_law 1515 [some (.ref 121), some (.ref 88), some (.ref 90), some (.int (iI i))] [] M = rn (exF D) C_L_law 1564 [some (.ref 121), some (.ref 88), some (.ref 90), some (.int (iI i))] [] M' ∧ RelC S' M' ∧ RelR S' M' ∧ sInv S' ∧ Sc M M' := by
  have e : akind 121 = 7 := rfl
  obtain ⟨M1, a1, a2, a3⟩ := c_image (D := D) (by omega) hC hI 
  obtain ⟨M2, b1, b2, b3⟩ := d_image (D := D) (by omega) (RelR_SmC hR a3) hI 
  have s1 : Sc M M1 := ⟨(a3 121 (by omega)).1, (a3 122 (by omega)).1⟩
  have s2 : Sc M M2 := Sc_C s1 b3
  have l1 := hl M ⟨rfl, rfl⟩
  have l2 := hl M1 s1
  have k1 := s1.1
  refine ⟨M2, _, ?_, RelC_SmR a2 b3, b2, iv_image hI, s2⟩
  simp (maxSteps := 4000000) (disch := omega) only [s_L_law_1515, s_L_law_1516, s_L_law_1519, s_L_law_1520, s_L_law_1523, s_L_law_1526, s_L_law_1527, e, l1, l2, k1, cls_88, cls_90, tn_add, tn_1, a1, b1, iI_add, iI_sub, iI_mul, iI_neg, iI_lt, iI_le, iI_eq, iI_toInt, tn_n, tn_1, inb_I, Int.reduceEq, Int.reduceLT, Int.reduceLE, Int.reduceAdd, Int.reduceSub, Int.reduceMul, Int.reduceNeg, Int.reduceToNat, Nat.reduceAdd, Nat.reduceMul, Int.reduceNatCast, reduceCtorEq, Int.cast_ofNat_Int, bi_tr, bi_fa, bi_0, bi_1, not_true_eq_false, not_false_eq_true, rnk_v, rnk_n, ↓reduceIte, i00, i11, ibi, or_true, true_or, and_true, true_and, List.cons_append, List.nil_append, Option.toList, nop]
theorem lw_restore {D : Nat} (hD : 2 ≤ D) (hD2 : 3 ≤ D) {M : tM} {S : tS} (hC : RelC S M) (hR : RelR S M) (hI : sInv S) {n i : Nat} (hl : ∀ N, Sc M N → alen N 121 = n) (hn : n ≤ 100000) (hi : i + 6 ≤ n) : ∃ M' S', rn (exF D) C_L_law 1528 [some (.ref 121), some (.ref 88), some (.ref 90), some (.int (iI i))] [] M = rn (exF D) C_L_law 1564 [some (.ref 121), some (.ref 88), some (.ref 90), some (.int (iI i))] [] M' ∧ RelC S' M' ∧ RelR S' M' ∧ sInv S' ∧ Sc M M' := by
  have e : akind 121 = 7 := rfl
  obtain ⟨M1, a1, a2, a3⟩ := c_restore (D := D) (by omega) hC hI 
  obtain ⟨M2, b1, b2, b3⟩ := d_restore (D := D) (by omega) (RelR_SmC hR a3) hI 
  have s1 : Sc M M1 := ⟨(a3 121 (by omega)).1, (a3 122 (by omega)).1⟩
  have s2 : Sc M M2 := Sc_C s1 b3
  have l1 := hl M ⟨rfl, rfl⟩
  have l2 := hl M1 s1
  have k1 := s1.1
  refine ⟨M2, _, ?_, RelC_SmR a2 b3, b2, iv_restore hI, s2⟩
  simp (maxSteps := 4000000) (disch := omega) only [s_L_law_1528, s_L_law_1529, s_L_law_1532, s_L_law_1533, s_L_law_1536, s_L_law_1539, s_L_law_1540, e, l1, l2, k1, cls_88, cls_90, tn_add, tn_1, a1, b1, iI_add, iI_sub, iI_mul, iI_neg, iI_lt, iI_le, iI_eq, iI_toInt, tn_n, tn_1, inb_I, Int.reduceEq, Int.reduceLT, Int.reduceLE, Int.reduceAdd, Int.reduceSub, Int.reduceMul, Int.reduceNeg, Int.reduceToNat, Nat.reduceAdd, Nat.reduceMul, Int.reduceNatCast, reduceCtorEq, Int.cast_ofNat_Int, bi_tr, bi_fa, bi_0, bi_1, not_true_eq_false, not_false_eq_true, rnk_v, rnk_n, ↓reduceIte, i00, i11, ibi, or_true, true_or, and_true, true_and, List.cons_append, List.nil_append, Option.toList, nop]
theorem lw_status {D : Nat} (hD : 3 ≤ D) (hD2 : 2 ≤ D) {M : tM} {S : tS} (hC : RelC S M) (hR : RelR S M) (hI : sInv S) {n i : Nat} (hl : ∀ N, Sc M N → alen N 121 = n) (hn : n ≤ 100000) (hi : i + 6 ≤ n) : ∃ M' S', rn (exF D) C_L_law 1541 [some (.ref 121), some (.ref 88), some (.ref 90), some (.int (iI i))] [] M = rn (exF D) C_L_law 1564 [some (.ref 121), some (.ref 88), some (.ref 90), some (.int (iI i))] [] M' ∧ RelC S' M' ∧ RelR S' M' ∧ sInv S' ∧ Sc M M' := by
  have v1 := i32_rng (M.1 121 (i + 1))
  have e : akind 121 = 7 := rfl
  obtain ⟨M1, a1, a2, a3⟩ := c_status (D := D) (by omega) hC hI v1
  obtain ⟨M2, b1, b2, b3⟩ := d_status (D := D) (by omega) (RelR_SmC hR a3) hI v1
  have s1 : Sc M M1 := ⟨(a3 121 (by omega)).1, (a3 122 (by omega)).1⟩
  have s2 : Sc M M2 := Sc_C s1 b3
  simp only [iI_of] at a1 b1
  have l1 := hl M ⟨rfl, rfl⟩
  have l2 := hl M1 s1
  have k1 := s1.1
  refine ⟨M2, _, ?_, RelC_SmR a2 b3, b2, iv_status hI _, s2⟩
  simp (maxSteps := 4000000) (disch := omega) only [s_L_law_1541, s_L_law_1542, s_L_law_1543, s_L_law_1544, s_L_law_1545, s_L_law_1546, s_L_law_1547, s_L_law_1550, s_L_law_1551, s_L_law_1552, s_L_law_1553, s_L_law_1554, s_L_law_1555, s_L_law_1556, s_L_law_1559, s_L_law_1562, s_L_law_1563, e, l1, l2, k1, cls_88, cls_90, tn_add, tn_1, a1, b1, iI_add, iI_sub, iI_mul, iI_neg, iI_lt, iI_le, iI_eq, iI_toInt, tn_n, tn_1, inb_I, Int.reduceEq, Int.reduceLT, Int.reduceLE, Int.reduceAdd, Int.reduceSub, Int.reduceMul, Int.reduceNeg, Int.reduceToNat, Nat.reduceAdd, Nat.reduceMul, Int.reduceNatCast, reduceCtorEq, Int.cast_ofNat_Int, bi_tr, bi_fa, bi_0, bi_1, not_true_eq_false, not_false_eq_true, rnk_v, rnk_n, ↓reduceIte, i00, i11, ibi, or_true, true_or, and_true, true_and, List.cons_append, List.nil_append, Option.toList, nop]
