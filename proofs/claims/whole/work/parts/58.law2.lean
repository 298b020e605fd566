theorem lw_element {D : Nat} (hD : 6 ≤ D) (hD2 : 4 ≤ D) {M : tM} {S : tS} (hC : RelC S M) (hR : RelR S M) (hI : sInv S) {n i : Nat} (hl : ∀ N, Sc M N → alen N 121 = n) (hn : n ≤ 100000) (hi : i + 6 ≤ n) : ∃ M' S', rn (exF D) C_L_law 383 [some (.ref 121), some (.ref 88), some (.ref 90), some (.int (iI i))] [] M = rn (exF D) C_L_law 1564 [some (.ref 121), some (.ref 88), some (.ref 90), some (.int (iI i))] [] M' ∧ RelC S' M' ∧ RelR S' M' ∧ sInv S' ∧ Sc M M' := by
  have v1 := i32_rng (M.1 121 (i + 1))
  have v2 := i32_rng (M.1 121 (i + 2))
  have e : akind 121 = 7 := rfl
  have a1 := c_element (D := D) (by omega) hC hI v1 v2
  have b1 := d_element (D := D) (by omega) hR hI v1 v2
  simp only [iI_of] at a1 b1
  have l1 := hl M ⟨rfl, rfl⟩
  refine ⟨M, S, ?_, hC, hR, hI, ⟨rfl, rfl⟩⟩
  have c : ∀ x : Int64, lg_cmp x x = iI 0 := fun x => by unfold lg_cmp; simp; rfl
  simp (maxSteps := 4000000) (disch := omega) only [s_L_law_383, s_L_law_384, s_L_law_385, s_L_law_386, s_L_law_387, s_L_law_388, s_L_law_389, s_L_law_390, s_L_law_391, s_L_law_392, s_L_law_393, s_L_law_394, s_L_law_397, s_L_law_398, s_L_law_399, s_L_law_400, s_L_law_401, s_L_law_402, s_L_law_403, s_L_law_404, s_L_law_405, s_L_law_406, s_L_law_407, s_L_law_408, s_L_law_411, s_L_law_412, s_L_law_415, s_L_law_416, e, l1, cls_88, cls_90, tn_add, tn_1, a1, b1, c, iI_add, iI_sub, iI_mul, iI_neg, iI_lt, iI_le, iI_eq, iI_toInt, tn_n, tn_1, inb_I, Int.reduceEq, Int.reduceLT, Int.reduceLE, Int.reduceAdd, Int.reduceSub, Int.reduceMul, Int.reduceNeg, Int.reduceToNat, Nat.reduceAdd, Nat.reduceMul, Int.reduceNatCast, reduceCtorEq, Int.cast_ofNat_Int, bi_tr, bi_fa, bi_0, bi_1, not_true_eq_false, not_false_eq_true, rnk_v, rnk_n, ↓reduceIte, i00, i11, ibi, or_true, true_or, and_true, true_and, List.cons_append, List.nil_append, Option.toList, nop]
