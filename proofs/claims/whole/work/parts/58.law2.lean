theorem lw_element {D : Nat} (hD : 5 ≤ D) (hD2 : 4 ≤ D) {M : tM} {S : tS} (hC : RelC S M) (hR : RelR S M) (hI : sInv S) {n i : Nat} (hl : ∀ N, Sc M N → alen N 121 = n) (hn : n ≤ 100000) (hi : i + 6 ≤ n) : ∃ M' S', rn (exF D) C_L_law 383 [some (.ref 121), some (.ref 88), some (.ref 90), some (.int (iI i))] [] M = rn (exF D) C_L_law 1564 [some (.ref 121), some (.ref 88), some (.ref 90), some (.int (iI i))] [] M' ∧ RelC S' M' ∧ RelR S' M' ∧ sInv S' ∧ Sc M M' := by
  have v1 := i32_rng (M.1 121 (i + 1))
  have v2 := i32_rng (M.1 121 (i + 2))
  have e : akind 121 = 7 := rfl
  have a1 := c_element (D := D) (by omega) hC hI v1 v2
  have b1 := d_element (D := D) (by omega) hR hI v1 v2
  simp only [iI_of] at a1 b1
  have l1 := hl M ⟨rfl, rfl⟩
  refine ⟨M, S, ?_, hC, hR, hI, ⟨rfl, rfl⟩⟩
  have c : ∀ x : Int64, lg_cmp x x = iI 0 := fun x => by unfold lg_cmp; simp; rfl
  simp (maxSteps := 4000000) (disch := omega) only [s_L_law_383, s_L_law_384, s_L_law_385, s_L_law_386, s_L_law_387, s_L_law_388, s_L_law_389, s_L_law_390, s_L_law_391, s_L_law_392, s_L_law_393, s_L_law_394, s_L_law_397, s_L_law_398, s_L_law_399, s_L_law_400, s_L_law_401, s_L_law_402, s_L_law_403, s_L_law_404, s_L_law_405, s_L_law_406, s_L_law_407, s_L_law_408, s_L_law_411, s_L_law_412, s_L_law_415, s_L_law_416, e, l1, cls_88, cls_90, tn_add, tn_1, a1, b1, c, iI_add, iI_sub, iI_mul, iI_neg, iI_lt, iI_le, iI_eq, iI_toInt, tn_n, tn_1, inb_I, Int.reduceEq, Int.reduceLT, Int.reduceLE, Int.reduceAdd, Int.reduceSub, Int.reduceMul, Int.reduceNeg, Int.reduceToNat, Nat.reduceAdd, Nat.reduceMul, Int.reduceNatCast, reduceCtorEq, Int.cast_ofNat_Int, bi_tr, bi_fa, bi_0, bi_1, not_true_eq_false, not_false_eq_true, rnk_v, rnk_n, ↓reduceIte, i00, i11, ibi, or_true, true_or, and_true, true_and, List.cons_append, List.nil_append, Option.toList, nop]
theorem lw_set {D : Nat} (hD : 5 ≤ D) (hD2 : 4 ≤ D) {M : tM} {S : tS} (hC : RelC S M) (hR : RelR S M) (hI : sInv S) {n i : Nat} (hl : ∀ N, Sc M N → alen N 121 = n) (hn : n ≤ 100000) (hi : i + 6 ≤ n) : ∃ M' S', rn (exF D) C_L_law 247 [some (.ref 121), some (.ref 88), some (.ref 90), some (.int (iI i))] [] M = rn (exF D) C_L_law 1564 [some (.ref 121), some (.ref 88), some (.ref 90), some (.int (iI i))] [] M' ∧ RelC S' M' ∧ RelR S' M' ∧ sInv S' ∧ Sc M M' := by
  have v1 := i32_rng (M.1 121 (i + 1))
  have v2 := i32_rng (M.1 121 (i + 2))
  have e : akind 121 = 7 := rfl
  obtain ⟨v, hv⟩ : ∃ v : Int64, (M.1 121 (i + 3)).toInt64 <<< ((iI 32).toInt64 &&& 63) ||| (M.1 121 (i + 4)).toInt64 &&& jJ 4294967295 = v := ⟨_, rfl⟩
  obtain ⟨M1, a1, a2, a3⟩ := c_set (D := D) (by omega) hC hI v1 v2 (v := v)
  obtain ⟨M2, b1, b2, b3⟩ := d_set (D := D) (by omega) (RelR_SmC hR a3) hI v1 v2 (v := v)
  have s1 : Sc M M1 := ⟨(a3 121 (by omega)).1, (a3 122 (by omega)).1⟩
  have s2 : Sc M M2 := Sc_C s1 b3
  simp only [iI_of] at a1 b1
  have l1 := hl M ⟨rfl, rfl⟩
  have l2 := hl M1 s1
  have k1 := s1.1
  refine ⟨M2, _, ?_, RelC_SmR a2 b3, b2, iv_set hI _ _ _, s2⟩
  simp (maxSteps := 4000000) (disch := omega) only [s_L_law_247, s_L_law_248, s_L_law_249, s_L_law_250, s_L_law_251, s_L_law_252, s_L_law_253, s_L_law_254, s_L_law_255, s_L_law_256, s_L_law_257, s_L_law_258, s_L_law_259, s_L_law_260, s_L_law_261, s_L_law_262, s_L_law_263, s_L_law_264, s_L_law_266, s_L_law_267, s_L_law_268, s_L_law_269, s_L_law_270, s_L_law_271, s_L_law_272, s_L_law_273, s_L_law_276, s_L_law_277, s_L_law_278, s_L_law_281, s_L_law_282, s_L_law_283, s_L_law_284, s_L_law_285, s_L_law_286, s_L_law_287, s_L_law_288, s_L_law_289, s_L_law_290, s_L_law_291, s_L_law_292, s_L_law_293, s_L_law_294, s_L_law_295, s_L_law_296, s_L_law_297, s_L_law_298, s_L_law_300, s_L_law_301, s_L_law_302, s_L_law_303, s_L_law_304, s_L_law_305, s_L_law_306, s_L_law_307, s_L_law_310, s_L_law_311, s_L_law_312, s_L_law_315, s_L_law_318, s_L_law_319, e, l1, l2, k1, cls_88, cls_90, tn_add, tn_1, hv, a1, b1, iI_add, iI_sub, iI_mul, iI_neg, iI_lt, iI_le, iI_eq, iI_toInt, tn_n, tn_1, inb_I, Int.reduceEq, Int.reduceLT, Int.reduceLE, Int.reduceAdd, Int.reduceSub, Int.reduceMul, Int.reduceNeg, Int.reduceToNat, Nat.reduceAdd, Nat.reduceMul, Int.reduceNatCast, reduceCtorEq, Int.cast_ofNat_Int, bi_tr, bi_fa, bi_0, bi_1, not_true_eq_false, not_false_eq_true, rnk_v, rnk_n, ↓reduceIte, i00, i11, ibi, or_true, true_or, and_true, true_and, List.cons_append, List.nil_append, Option.toList, nop]
