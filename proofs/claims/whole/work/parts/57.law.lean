/-! THE LAW: one call after the other -/
def Sc (M0 M : tM) : Prop := M.1 121 = M0.1 121 ∧ M.1 122 = M0.1 122
theorem Sc_C {M0 M M' : tM} (h : Sc M0 M) (hs : SmR M M') : Sc M0 M' := ⟨(hs 121 (by omega)).1.trans h.1, (hs 122 (by omega)).1.trans h.2⟩
theorem i32_rng (x : Int32) : -2147483648 ≤ x.toInt ∧ x.toInt ≤ 2147483647 := ⟨Int32.le_toInt x, by have := Int32.toInt_lt x; omega⟩
theorem l_row {D : Nat} (hD : 3 ≤ D) (hD2 : 3 ≤ D) {M : tM} {S : tS} (hC : RelC S M) (hR : RelR S M) (hI : sInv S) {n i : Nat} (hl : ∀ N, Sc M N → alen N 121 = n) (hn : n ≤ 100000) (hi : i + 6 ≤ n) : ∃ M' S', rn (exF D) C_L_law 204 [some (.ref 121), some (.ref 88), some (.ref 90), some (.int (iI i))] [] M = rn (exF D) C_L_law 1564 [some (.ref 121), some (.ref 88), some (.ref 90), some (.int (iI i))] [] M' ∧ RelC S' M' ∧ RelR S' M' ∧ sInv S' ∧ Sc M M' := by
  have v1 := i32_rng (M.1 121 (i + 1))
  have v2 := i32_rng (M.1 121 (i + 2))
  have v3 := i32_rng (M.1 121 (i + 3))
  obtain ⟨M1, a1, a2, a3⟩ := c_row (D := D) (by omega) hC hI v1 v2 v3
  obtain ⟨M2, b1, b2, b3⟩ := d_row (D := D) (by omega) (RelR_SmC hR a3) hI v1 v2 v3
  have s1 : Sc M M1 := ⟨(a3 121 (by omega)).1, (a3 122 (by omega)).1⟩
  have s2 : Sc M M2 := Sc_C s1 b3
  rw [iI_of, iI_of, iI_of] at a1 b1
  have l1 := hl M ⟨rfl, rfl⟩
  have l2 := hl M1 s1
  have k1 := s1.1
  refine ⟨M2, _, ?_, RelC_SmR a2 b3, b2, iv_row hI _ _ _, s2⟩
  have e : akind 121 = 7 := rfl
  simp (maxSteps := 4000000) (disch := omega) only [s_L_law_204, s_L_law_205, s_L_law_206, s_L_law_207, s_L_law_208, s_L_law_209, s_L_law_210, s_L_law_211, s_L_law_212, s_L_law_213, s_L_law_214, s_L_law_215, s_L_law_216, s_L_law_217, s_L_law_218, s_L_law_219, s_L_law_220, s_L_law_223, s_L_law_224, s_L_law_225, s_L_law_226, s_L_law_227, s_L_law_228, s_L_law_229, s_L_law_230, s_L_law_231, s_L_law_232, s_L_law_233, s_L_law_234, s_L_law_235, s_L_law_236, s_L_law_237, s_L_law_238, s_L_law_239, s_L_law_242, s_L_law_245, s_L_law_246, e, l1, l2, k1, cls_88, cls_90, tn_add, tn_1, a1, b1, iI_add, iI_sub, iI_mul, iI_neg, iI_lt, iI_le, iI_eq, iI_toInt, tn_n, tn_1, inb_I, Int.reduceEq, Int.reduceLT, Int.reduceLE, Int.reduceAdd, Int.reduceSub, Int.reduceMul, Int.reduceNeg, Int.reduceToNat, Nat.reduceAdd, Nat.reduceMul, Int.reduceNatCast, reduceCtorEq, Int.cast_ofNat_Int, bi_tr, bi_fa, bi_0, bi_1, not_true_eq_false, not_false_eq_true, rnk_v, rnk_n, ↓reduceIte, i00, i11, ibi, or_true, true_or, and_true, true_and, List.cons_append, List.nil_append, Option.toList, nop]
