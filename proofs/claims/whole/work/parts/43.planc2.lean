/-! PLANS: THE CLASS reads -/
theorem k_X6_readNumber {D : Nat} (hD : 4 ≤ D) {M : tM} {a : Nat → Int} {n p : Nat} (ha : aR a) (hR : RdC M a n (p + 1)) (hn : n ≤ 160) (hp : p ≤ 500) (hs : lt a n p = 32) {K : tK} (hK : Rep M 20 K) (hI : kInv K) {k i : Nat} (hk : k < 6) (hi : i < nNum k) {x : Int} (hx0 : -1 ≤ x ∧ x ≤ 99) (hx : 0 < i → M.1 84 0 = iI x) : ∃ M', exF D m_X6_readNumber [.ref 82, .int (iI k), .int (iI i), .ref 20] M = some (some (.int (bi ((rdN a n p (loN k i) (hiN K k i) (noN k i x)).1 ≠ -1))), M') ∧ ((rdN a n p (loN k i) (hiN K k i) (noN k i x)).1 ≠ -1 → RdC M' a n (rdN a n p (loN k i) (hiN K k i) (noN k i x)).2 ∧ M'.1 84 i = iI (rdN a n p (loN k i) (hiN K k i) (noN k i x)).1) ∧ ((rdN a n p (loN k i) (hiN K k i) (noN k i x)).1 = -1 → M'.1 82 4 = iI (rdN a n p (loN k i) (hiN K k i) (noN k i x)).2) ∧ (∀ j, j ≠ i → M'.1 84 j = M.1 84 j) ∧ Sm [82, 84] M M' ∧ M'.1 82 5 = M.1 82 5 := by
  obtain ⟨D, rfl⟩ : ∃ D0, D = D0 + 1 := ⟨D - 1, by omega⟩
  have hi4 : i < 4 := by unfold nNum at hi; (repeat' split at hi) <;> omega
  have h1 := k_X6_isDigitHere (D := D) (by omega) ha hR hn (by omega)
  have h2 := k_X6_letterHere (D := D) (by omega) hR hn (by omega)
  have h3 := hR.2.2
  have r1 := lt_rng ha n (p + 1)
  by_cases q1 : dgt a n (p + 1) = true
  rotate_left
  · have e : rdN a n p (loN k i) (hiN K k i) (noN k i x) = (-1, p + 1) := by
      unfold rdN
      rw [if_neg (fun h => h hs), if_pos q1]
    rw [e, bi_f (fun h => h rfl)]
    rw [bi_f q1] at h1
    refine ⟨sI M 82 4 (iI (p + 1 : Nat)), ?_, fun h => absurd rfl h, fun _ => by rw [sI_s], fun j _ => by rw [sI_a _ _ (by omega)], Sm_sI (by simp), by rw [sI_k _ _ (by omega)]⟩
    simp (maxSteps := 4000000) (disch := omega) only [en_X6_readNumber, s_X6_readNumber_0, s_X6_readNumber_1, s_X6_readNumber_4, s_X6_readNumber_6, s_X6_readNumber_7, s_X6_readNumber_10, s_X6_readNumber_13, s_X6_readNumber_14, s_X6_readNumber_15, s_X6_readNumber_18, s_X6_readNumber_21, s_X6_readNumber_22, s_X6_readNumber_23, s_X6_readNumber_26, s_X6_readNumber_28, s_X6_readNumber_29, s_X6_readNumber_31, s_X6_readNumber_32, s_X6_readNumber_32b, s_X6_readNumber_33, s_X6_readNumber_36, s_X6_readNumber_37, s_X6_readNumber_38, s_X6_readNumber_41, s_X6_readNumber_42, s_X6_readNumber_45, s_X6_readNumber_48, s_X6_readNumber_50, s_X6_readNumber_52, s_X6_readNumber_53, s_X6_readNumber_54, s_X6_readNumber_57, s_X6_readNumber_58, s_X6_readNumber_60, s_X6_readNumber_61, s_X6_readNumber_63, s_X6_readNumber_64, s_X6_readNumber_64b, s_X6_readNumber_65, s_X6_readNumber_68, s_X6_readNumber_69, s_X6_readNumber_70, s_X6_readNumber_73, s_X6_readNumber_74, s_X6_readNumber_75, s_X6_readNumber_76, s_X6_readNumber_78, s_X6_readNumber_79, s_X6_readNumber_82, s_X6_readNumber_85, s_X6_readNumber_86, s_X6_readNumber_88, s_X6_readNumber_91, s_X6_readNumber_92, s_X6_readNumber_93, s_X6_readNumber_96, s_X6_readNumber_97, s_X6_readNumber_99, s_X6_readNumber_100, s_X6_readNumber_101, cls_82, fv_82_0, fv_82_1, fv_82_2, fv_82_3, fv_82_4, fv_82_5, h1, h3, k_X6_failAt (show _ ≤ D by omega), iI_add, iI_sub, iI_mul, iI_neg, iI_lt, iI_le, iI_eq, iI_toInt, tn_n, tn_1, inb_I, Int.reduceEq, Int.reduceLT, Int.reduceLE, Int.reduceAdd, Int.reduceSub, Int.reduceMul, Int.reduceNeg, Int.reduceToNat, Nat.reduceAdd, Nat.reduceMul, Int.reduceNatCast, reduceCtorEq, Int.cast_ofNat_Int, bi_tr, bi_fa, bi_0, bi_1, not_true_eq_false, not_false_eq_true, rnk_v, rnk_n, ↓reduceIte, i00, i11, ibi, or_true, true_or, and_true, true_and, List.cons_append, List.nil_append, Option.toList, nop]
  have hv := vl_rng q1
  have d1 := of_decide_eq_true q1
  -- the place after the number
  obtain ⟨M1, m1, m2, m3, m4, m5⟩ : ∃ M1, (∀ L6, rn (exF D) C_X6_readNumber 22 [some (.ref 82), some (.int (iI k)), some (.int (iI i)), some (.ref 20), some (.int (iI (p + 1 : Nat))), L6] [] M = rn (exF D) C_X6_readNumber 73 [some (.ref 82), some (.int (iI k)), some (.int (iI i)), some (.ref 20), some (.int (iI (p + 1 : Nat))), some (.int (iI (vl a n (p + 1))))] [] M1) ∧ RdC M1 a n (if dgt a n (p + 2) = true then p + 3 else p + 2) ∧ (∀ j, M1.1 84 j = M.1 84 j) ∧ Sm [82, 84] M M1 ∧ M1.1 82 5 = M.1 82 5 := by
    have w1 : RdC (sI M 82 3 (iI (p + 2 : Nat))) a n (p + 2) := RdC_at hR _
    have h5 := k_X6_isDigitHere (D := D) (by omega) ha w1 hn (by omega)
    have h6 := k_X6_letterHere (D := D) (by omega) w1 hn (by omega)
    have e2 : iI (((p + 1 : Nat) : Int) + 1) = iI (p + 2 : Nat) := rfl
    have e3 : iI (((p + 2 : Nat) : Int) + 1) = iI (p + 3 : Nat) := rfl
    have r2 := lt_rng ha n (p + 2)
    by_cases q2 : dgt a n (p + 2) = true
    · rw [if_pos q2]
      rw [bi_t q2] at h5
      refine ⟨sI (sI M 82 3 (iI (p + 2 : Nat))) 82 3 (iI (p + 3 : Nat)), ?_, RdC_at w1 _, fun j => by simp (disch := omega) only [sI_a], Sm_tr (Sm_sI (by simp)) (Sm_sI (by simp)), by simp (disch := omega) only [sI_k]⟩
      intro L6
      have ev : vl a n (p + 1) = (lt a n (p + 1) - 48) * 10 + lt a n (p + 2) - 48 := by unfold vl; rw [if_pos q2]
      have d2 := of_decide_eq_true q2
      rw [ev]
      simp (maxSteps := 4000000) (disch := omega) only [s_X6_readNumber_22, s_X6_readNumber_23, s_X6_readNumber_26, s_X6_readNumber_28, s_X6_readNumber_29, s_X6_readNumber_31, s_X6_readNumber_32, s_X6_readNumber_32b, s_X6_readNumber_33, s_X6_readNumber_36, s_X6_readNumber_37, s_X6_readNumber_38, s_X6_readNumber_41, s_X6_readNumber_42, s_X6_readNumber_45, s_X6_readNumber_48, s_X6_readNumber_50, s_X6_readNumber_52, s_X6_readNumber_53, s_X6_readNumber_54, s_X6_readNumber_57, s_X6_readNumber_58, s_X6_readNumber_60, s_X6_readNumber_61, s_X6_readNumber_63, s_X6_readNumber_64, s_X6_readNumber_64b, s_X6_readNumber_65, s_X6_readNumber_68, s_X6_readNumber_69, s_X6_readNumber_70, cls_82, fv_82_0, fv_82_1, fv_82_2, fv_82_3, fv_82_4, fv_82_5, h2, h3, h5, h6, e2, sI_s, e3, iI_add, iI_sub, iI_mul, iI_neg, iI_lt, iI_le, iI_eq, iI_toInt, tn_n, tn_1, inb_I, Int.reduceEq, Int.reduceLT, Int.reduceLE, Int.reduceAdd, Int.reduceSub, Int.reduceMul, Int.reduceNeg, Int.reduceToNat, Nat.reduceAdd, Nat.reduceMul, Int.reduceNatCast, reduceCtorEq, Int.cast_ofNat_Int, bi_tr, bi_fa, bi_0, bi_1, not_true_eq_false, not_false_eq_true, rnk_v, rnk_n, ↓reduceIte, i00, i11, ibi, or_true, true_or, and_true, true_and, List.cons_append, List.nil_append, Option.toList, nop]
    · rw [if_neg q2]
      rw [bi_f q2] at h5
      refine ⟨sI M 82 3 (iI (p + 2 : Nat)), ?_, w1, fun j => by simp (disch := omega) only [sI_a], Sm_sI (by simp), by rw [sI_k _ _ (by omega)]⟩
      intro L6
      have ev : vl a n (p + 1) = lt a n (p + 1) - 48 := by unfold vl; rw [if_neg q2]
      rw [ev]
      simp (maxSteps := 4000000) (disch := omega) only [s_X6_readNumber_22, s_X6_readNumber_23, s_X6_readNumber_26, s_X6_readNumber_28, s_X6_readNumber_29, s_X6_readNumber_31, s_X6_readNumber_32, s_X6_readNumber_32b, s_X6_readNumber_33, s_X6_readNumber_36, s_X6_readNumber_37, s_X6_readNumber_38, s_X6_readNumber_41, s_X6_readNumber_42, s_X6_readNumber_45, s_X6_readNumber_48, s_X6_readNumber_50, s_X6_readNumber_52, s_X6_readNumber_53, s_X6_readNumber_54, s_X6_readNumber_57, s_X6_readNumber_58, s_X6_readNumber_60, s_X6_readNumber_61, s_X6_readNumber_63, s_X6_readNumber_64, s_X6_readNumber_64b, s_X6_readNumber_65, s_X6_readNumber_68, s_X6_readNumber_69, s_X6_readNumber_70, cls_82, fv_82_0, fv_82_1, fv_82_2, fv_82_3, fv_82_4, fv_82_5, h2, h3, h5, e2, iI_add, iI_sub, iI_mul, iI_neg, iI_lt, iI_le, iI_eq, iI_toInt, tn_n, tn_1, inb_I, Int.reduceEq, Int.reduceLT, Int.reduceLE, Int.reduceAdd, Int.reduceSub, Int.reduceMul, Int.reduceNeg, Int.reduceToNat, Nat.reduceAdd, Nat.reduceMul, Int.reduceNatCast, reduceCtorEq, Int.cast_ofNat_Int, bi_tr, bi_fa, bi_0, bi_1, not_true_eq_false, not_false_eq_true, rnk_v, rnk_n, ↓reduceIte, i00, i11, ibi, or_true, true_or, and_true, true_and, List.cons_append, List.nil_append, Option.toList, nop]
  rw [bi_t q1] at h1
  have w2 : Rep M1 20 K := Rep_o h20 hK m4 (by simp)
  have ms := k_X6_mayStand (D := D) (by omega) w2 hI hk hi hv hx0 (fun h => by rw [m3]; exact hx h)
  by_cases q3 : (loN k i ≤ vl a n (p + 1) ∧ vl a n (p + 1) ≤ hiN K k i) ∧ vl a n (p + 1) ≠ noN k i x
  · have e : rdN a n p (loN k i) (hiN K k i) (noN k i x) = (vl a n (p + 1), if dgt a n (p + 2) = true then p + 3 else p + 2) := by
      unfold rdN
      rw [if_neg (fun h => h hs), if_neg (fun h => h q1), if_pos q3]
    rw [e, bi_t (show vl a n (p + 1) ≠ -1 by omega)]
    rw [bi_t q3] at ms
    refine ⟨sI M1 84 i (iI (vl a n (p + 1))), ?_, fun _ => ⟨RdC_w m2 _ _, by rw [sI_s]⟩, fun h => absurd (show vl a n (p + 1) = -1 from h) (by omega), fun j hj => by rw [sI_k _ _ hj, m3], Sm_tr m4 (Sm_sI (by simp)), by rw [sI_a _ _ (by omega), m5]⟩
    simp (maxSteps := 4000000) (disch := omega) only [en_X6_readNumber, s_X6_readNumber_0, s_X6_readNumber_1, s_X6_readNumber_4, s_X6_readNumber_6, s_X6_readNumber_7, s_X6_readNumber_10, s_X6_readNumber_13, s_X6_readNumber_14, s_X6_readNumber_15, s_X6_readNumber_18, s_X6_readNumber_21, cls_82, fv_82_0, fv_82_1, fv_82_2, fv_82_3, fv_82_4, fv_82_5, h1, h3, iI_add, iI_sub, iI_mul, iI_neg, iI_lt, iI_le, iI_eq, iI_toInt, tn_n, tn_1, inb_I, Int.reduceEq, Int.reduceLT, Int.reduceLE, Int.reduceAdd, Int.reduceSub, Int.reduceMul, Int.reduceNeg, Int.reduceToNat, Nat.reduceAdd, Nat.reduceMul, Int.reduceNatCast, reduceCtorEq, Int.cast_ofNat_Int, bi_tr, bi_fa, bi_0, bi_1, not_true_eq_false, not_false_eq_true, rnk_v, rnk_n, ↓reduceIte, i00, i11, ibi, or_true, true_or, and_true, true_and, List.cons_append, List.nil_append, Option.toList, nop]
    refine (m1 _).trans ?_
    simp (maxSteps := 4000000) (disch := omega) only [s_X6_readNumber_73, s_X6_readNumber_74, s_X6_readNumber_75, s_X6_readNumber_76, s_X6_readNumber_78, s_X6_readNumber_79, s_X6_readNumber_82, s_X6_readNumber_85, s_X6_readNumber_86, s_X6_readNumber_88, s_X6_readNumber_91, s_X6_readNumber_92, s_X6_readNumber_93, s_X6_readNumber_96, s_X6_readNumber_97, s_X6_readNumber_99, s_X6_readNumber_100, s_X6_readNumber_101, cls_82, fv_82_0, fv_82_1, fv_82_2, fv_82_3, fv_82_4, fv_82_5, ak_83, al_83, ak_84, al_84, ms, iI_add, iI_sub, iI_mul, iI_neg, iI_lt, iI_le, iI_eq, iI_toInt, tn_n, tn_1, inb_I, Int.reduceEq, Int.reduceLT, Int.reduceLE, Int.reduceAdd, Int.reduceSub, Int.reduceMul, Int.reduceNeg, Int.reduceToNat, Nat.reduceAdd, Nat.reduceMul, Int.reduceNatCast, reduceCtorEq, Int.cast_ofNat_Int, bi_tr, bi_fa, bi_0, bi_1, not_true_eq_false, not_false_eq_true, rnk_v, rnk_n, ↓reduceIte, i00, i11, ibi, or_true, true_or, and_true, true_and, List.cons_append, List.nil_append, Option.toList, nop]
  · have e : rdN a n p (loN k i) (hiN K k i) (noN k i x) = (-1, p + 1) := by
      unfold rdN
      rw [if_neg (fun h => h hs), if_neg (fun h => h q1), if_neg q3]
    rw [e, bi_f (fun h => h rfl)]
    rw [bi_f q3] at ms
    refine ⟨sI M1 82 4 (iI (p + 1 : Nat)), ?_, fun h => absurd rfl h, fun _ => by rw [sI_s], fun j _ => by rw [sI_a _ _ (by omega), m3], Sm_tr m4 (Sm_sI (by simp)), by rw [sI_k _ _ (by omega), m5]⟩
    simp (maxSteps := 4000000) (disch := omega) only [en_X6_readNumber, s_X6_readNumber_0, s_X6_readNumber_1, s_X6_readNumber_4, s_X6_readNumber_6, s_X6_readNumber_7, s_X6_readNumber_10, s_X6_readNumber_13, s_X6_readNumber_14, s_X6_readNumber_15, s_X6_readNumber_18, s_X6_readNumber_21, cls_82, fv_82_0, fv_82_1, fv_82_2, fv_82_3, fv_82_4, fv_82_5, h1, h3, iI_add, iI_sub, iI_mul, iI_neg, iI_lt, iI_le, iI_eq, iI_toInt, tn_n, tn_1, inb_I, Int.reduceEq, Int.reduceLT, Int.reduceLE, Int.reduceAdd, Int.reduceSub, Int.reduceMul, Int.reduceNeg, Int.reduceToNat, Nat.reduceAdd, Nat.reduceMul, Int.reduceNatCast, reduceCtorEq, Int.cast_ofNat_Int, bi_tr, bi_fa, bi_0, bi_1, not_true_eq_false, not_false_eq_true, rnk_v, rnk_n, ↓reduceIte, i00, i11, ibi, or_true, true_or, and_true, true_and, List.cons_append, List.nil_append, Option.toList, nop]
    refine (m1 _).trans ?_
    simp (maxSteps := 4000000) (disch := omega) only [s_X6_readNumber_73, s_X6_readNumber_74, s_X6_readNumber_75, s_X6_readNumber_76, s_X6_readNumber_78, s_X6_readNumber_79, s_X6_readNumber_82, s_X6_readNumber_85, s_X6_readNumber_86, s_X6_readNumber_88, s_X6_readNumber_91, s_X6_readNumber_92, s_X6_readNumber_93, s_X6_readNumber_96, s_X6_readNumber_97, s_X6_readNumber_99, s_X6_readNumber_100, s_X6_readNumber_101, cls_82, fv_82_0, fv_82_1, fv_82_2, fv_82_3, fv_82_4, fv_82_5, ak_83, al_83, ak_84, al_84, ms, k_X6_failAt (show _ ≤ D by omega), iI_add, iI_sub, iI_mul, iI_neg, iI_lt, iI_le, iI_eq, iI_toInt, tn_n, tn_1, inb_I, Int.reduceEq, Int.reduceLT, Int.reduceLE, Int.reduceAdd, Int.reduceSub, Int.reduceMul, Int.reduceNeg, Int.reduceToNat, Nat.reduceAdd, Nat.reduceMul, Int.reduceNatCast, reduceCtorEq, Int.cast_ofNat_Int, bi_tr, bi_fa, bi_0, bi_1, not_true_eq_false, not_false_eq_true, rnk_v, rnk_n, ↓reduceIte, i00, i11, ibi, or_true, true_or, and_true, true_and, List.cons_append, List.nil_append, Option.toList, nop]
theorem k_X6_tell {D : Nat} (hD : 4 ≤ D) {M : tM} {K : tK} (hR : Rep M 20 K) (hI : kInv K) {k : Nat} (hk : k < 6) {x : Nat → Int} (hx : ∀ j, j < nNum k → M.1 84 j = iI (x j)) (hr : rmK K k = true) (hv : ∀ j, j < nNum k → (loN k j ≤ x j ∧ x j ≤ hiN K k j) ∧ 0 ≤ x j ∧ x j ≤ 99 ∧ x j ≠ noN k j (x 0)) : ∃ M', exF D m_X6_tell [.ref 82, .int (iI k), .ref 20] M = some (none, M') ∧ Rep M' 20 (tlK K k x) ∧ Sm [20, 21, 22, 23, 24, 25, 26, 27, 28, 29] M M' := by
  obtain ⟨D, rfl⟩ : ∃ D0, D = D0 + 1 := ⟨D - 1, by omega⟩
  have nat : ∀ j, j < nNum k → M.1 84 j = iI ((x j).toNat : Nat) := fun j hj => by
    rw [hx j hj]
    have := (hv j hj).2.1
    rw [show ((x j).toNat : Int) = x j by omega]
  have hc : k = 0 ∨ k = 1 ∨ k = 2 ∨ k = 3 ∨ k = 4 ∨ k = 5 := by omega
  rcases hc with rfl | rfl | rfl | rfl | rfl | rfl
  · obtain ⟨M', a1, a2, a3⟩ := k_X4_addDesk (D := D) (by omega) h20 hR hI (of_decide_eq_true hr)
    refine ⟨M', ?_, a2, Sm_mono (by simp) a3⟩
    simp (maxSteps := 4000000) (disch := omega) only [en_X6_tell, s_X6_tell_0, s_X6_tell_1, s_X6_tell_40, s_X6_tell_41, s_X6_tell_44, s_X6_tell_47, s_X6_tell_48, s_X6_tell_49, s_X6_tell_52, s_X6_tell_53, s_X6_tell_54, s_X6_tell_55, s_X6_tell_58, s_X6_tell_59, s_X6_tell_60, s_X6_tell_61, s_X6_tell_64, s_X6_tell_65, s_X6_tell_66, s_X6_tell_67, s_X6_tell_70, s_X6_tell_71, s_X6_tell_72, s_X6_tell_75, s_X6_tell_78, s_X6_tell_79, s_X6_tell_80, s_X6_tell_83, s_X6_tell_84, s_X6_tell_85, s_X6_tell_86, s_X6_tell_89, s_X6_tell_90, s_X6_tell_91, s_X6_tell_92, s_X6_tell_95, s_X6_tell_96, s_X6_tell_97, s_X6_tell_98, s_X6_tell_101, s_X6_tell_102, s_X6_tell_103, s_X6_tell_106, s_X6_tell_109, s_X6_tell_110, s_X6_tell_111, s_X6_tell_114, s_X6_tell_115, s_X6_tell_116, s_X6_tell_119, s_X6_tell_122, s_X6_tell_123, s_X6_tell_124, s_X6_tell_127, s_X6_tell_128, s_X6_tell_129, s_X6_tell_130, s_X6_tell_131, s_X6_tell_134, s_X6_tell_135, s_X6_tell_138, s_X6_tell_139, s_X6_tell_142, cls_82, cls_20, a1, iI_add, iI_sub, iI_mul, iI_neg, iI_lt, iI_le, iI_eq, iI_toInt, tn_n, tn_1, inb_I, Int.reduceEq, Int.reduceLT, Int.reduceLE, Int.reduceAdd, Int.reduceSub, Int.reduceMul, Int.reduceNeg, Int.reduceToNat, Nat.reduceAdd, Nat.reduceMul, Int.reduceNatCast, reduceCtorEq, Int.cast_ofNat_Int, bi_tr, bi_fa, bi_0, bi_1, not_true_eq_false, not_false_eq_true, rnk_v, rnk_n, ↓reduceIte, i00, i11, ibi, or_true, true_or, and_true, true_and, List.cons_append, List.nil_append, Option.toList, nop]
  · have n0 := nat 0 (by decide)
    have n1 := nat 1 (by decide)
    have n2 := nat 2 (by decide)
    have n3 := nat 3 (by decide)
    have v0 := hv 0 (by decide)
    have v1 := hv 1 (by decide)
    have v2 := hv 2 (by decide)
    have v3 := hv 3 (by decide)
    simp [loN, hiN, noN] at v0 v1 v2 v3
    obtain ⟨M', a1, a2, a3⟩ := k_X4_addTube (D := D) (by omega) h20 hR hI (of_decide_eq_true hr) (f := (x 0).toNat) (o := (x 1).toNat) (l := (x 2).toNat) (w := (x 3).toNat) (by omega) (by omega) (by omega) (by omega) (by omega)
    refine ⟨M', ?_, a2, Sm_mono (by simp) a3⟩
    simp (maxSteps := 4000000) (disch := omega) only [en_X6_tell, s_X6_tell_0, s_X6_tell_1, s_X6_tell_40, s_X6_tell_41, s_X6_tell_44, s_X6_tell_47, s_X6_tell_48, s_X6_tell_49, s_X6_tell_52, s_X6_tell_53, s_X6_tell_54, s_X6_tell_55, s_X6_tell_58, s_X6_tell_59, s_X6_tell_60, s_X6_tell_61, s_X6_tell_64, s_X6_tell_65, s_X6_tell_66, s_X6_tell_67, s_X6_tell_70, s_X6_tell_71, s_X6_tell_72, s_X6_tell_75, s_X6_tell_78, s_X6_tell_79, s_X6_tell_80, s_X6_tell_83, s_X6_tell_84, s_X6_tell_85, s_X6_tell_86, s_X6_tell_89, s_X6_tell_90, s_X6_tell_91, s_X6_tell_92, s_X6_tell_95, s_X6_tell_96, s_X6_tell_97, s_X6_tell_98, s_X6_tell_101, s_X6_tell_102, s_X6_tell_103, s_X6_tell_106, s_X6_tell_109, s_X6_tell_110, s_X6_tell_111, s_X6_tell_114, s_X6_tell_115, s_X6_tell_116, s_X6_tell_119, s_X6_tell_122, s_X6_tell_123, s_X6_tell_124, s_X6_tell_127, s_X6_tell_128, s_X6_tell_129, s_X6_tell_130, s_X6_tell_131, s_X6_tell_134, s_X6_tell_135, s_X6_tell_138, s_X6_tell_139, s_X6_tell_142, cls_82, fv_82_0, fv_82_1, fv_82_2, fv_82_3, fv_82_4, fv_82_5, ak_83, al_83, ak_84, al_84, cls_20, n0, n1, n2, n3, a1, iI_add, iI_sub, iI_mul, iI_neg, iI_lt, iI_le, iI_eq, iI_toInt, tn_n, tn_1, inb_I, Int.reduceEq, Int.reduceLT, Int.reduceLE, Int.reduceAdd, Int.reduceSub, Int.reduceMul, Int.reduceNeg, Int.reduceToNat, Nat.reduceAdd, Nat.reduceMul, Int.reduceNatCast, reduceCtorEq, Int.cast_ofNat_Int, bi_tr, bi_fa, bi_0, bi_1, not_true_eq_false, not_false_eq_true, rnk_v, rnk_n, ↓reduceIte, i00, i11, ibi, or_true, true_or, and_true, true_and, List.cons_append, List.nil_append, Option.toList, nop]
  · have n0 := nat 0 (by decide)
    have n1 := nat 1 (by decide)
    have n2 := nat 2 (by decide)
    have n3 := nat 3 (by decide)
    obtain ⟨M', a1, a2, a3⟩ := k_X4_addCapsule (D := D) (by omega) h20 hR hI (of_decide_eq_true hr) (k := (x 0).toNat) (a := (x 1).toNat) (w := (x 2).toNat) (x := (x 3).toNat)
    refine ⟨M', ?_, a2, Sm_mono (by simp) a3⟩
    simp (maxSteps := 4000000) (disch := omega) only [en_X6_tell, s_X6_tell_0, s_X6_tell_1, s_X6_tell_40, s_X6_tell_41, s_X6_tell_44, s_X6_tell_47, s_X6_tell_48, s_X6_tell_49, s_X6_tell_52, s_X6_tell_53, s_X6_tell_54, s_X6_tell_55, s_X6_tell_58, s_X6_tell_59, s_X6_tell_60, s_X6_tell_61, s_X6_tell_64, s_X6_tell_65, s_X6_tell_66, s_X6_tell_67, s_X6_tell_70, s_X6_tell_71, s_X6_tell_72, s_X6_tell_75, s_X6_tell_78, s_X6_tell_79, s_X6_tell_80, s_X6_tell_83, s_X6_tell_84, s_X6_tell_85, s_X6_tell_86, s_X6_tell_89, s_X6_tell_90, s_X6_tell_91, s_X6_tell_92, s_X6_tell_95, s_X6_tell_96, s_X6_tell_97, s_X6_tell_98, s_X6_tell_101, s_X6_tell_102, s_X6_tell_103, s_X6_tell_106, s_X6_tell_109, s_X6_tell_110, s_X6_tell_111, s_X6_tell_114, s_X6_tell_115, s_X6_tell_116, s_X6_tell_119, s_X6_tell_122, s_X6_tell_123, s_X6_tell_124, s_X6_tell_127, s_X6_tell_128, s_X6_tell_129, s_X6_tell_130, s_X6_tell_131, s_X6_tell_134, s_X6_tell_135, s_X6_tell_138, s_X6_tell_139, s_X6_tell_142, cls_82, fv_82_0, fv_82_1, fv_82_2, fv_82_3, fv_82_4, fv_82_5, ak_83, al_83, ak_84, al_84, cls_20, n0, n1, n2, n3, a1, iI_add, iI_sub, iI_mul, iI_neg, iI_lt, iI_le, iI_eq, iI_toInt, tn_n, tn_1, inb_I, Int.reduceEq, Int.reduceLT, Int.reduceLE, Int.reduceAdd, Int.reduceSub, Int.reduceMul, Int.reduceNeg, Int.reduceToNat, Nat.reduceAdd, Nat.reduceMul, Int.reduceNatCast, reduceCtorEq, Int.cast_ofNat_Int, bi_tr, bi_fa, bi_0, bi_1, not_true_eq_false, not_false_eq_true, rnk_v, rnk_n, ↓reduceIte, i00, i11, ibi, or_true, true_or, and_true, true_and, List.cons_append, List.nil_append, Option.toList, nop]
  · have n0 := nat 0 (by decide)
    have v0 := hv 0 (by decide)
    simp [loN, hiN, noN] at v0
    obtain ⟨M', a1, a2, a3⟩ := k_X4_putShut (D := D) (by omega) h20 hR hI (t := (x 0).toNat) (by omega) True
    rw [bi_t trivial] at a1
    refine ⟨M', ?_, a2, Sm_mono (by simp) a3⟩
    simp (maxSteps := 4000000) (disch := omega) only [en_X6_tell, s_X6_tell_0, s_X6_tell_1, s_X6_tell_40, s_X6_tell_41, s_X6_tell_44, s_X6_tell_47, s_X6_tell_48, s_X6_tell_49, s_X6_tell_52, s_X6_tell_53, s_X6_tell_54, s_X6_tell_55, s_X6_tell_58, s_X6_tell_59, s_X6_tell_60, s_X6_tell_61, s_X6_tell_64, s_X6_tell_65, s_X6_tell_66, s_X6_tell_67, s_X6_tell_70, s_X6_tell_71, s_X6_tell_72, s_X6_tell_75, s_X6_tell_78, s_X6_tell_79, s_X6_tell_80, s_X6_tell_83, s_X6_tell_84, s_X6_tell_85, s_X6_tell_86, s_X6_tell_89, s_X6_tell_90, s_X6_tell_91, s_X6_tell_92, s_X6_tell_95, s_X6_tell_96, s_X6_tell_97, s_X6_tell_98, s_X6_tell_101, s_X6_tell_102, s_X6_tell_103, s_X6_tell_106, s_X6_tell_109, s_X6_tell_110, s_X6_tell_111, s_X6_tell_114, s_X6_tell_115, s_X6_tell_116, s_X6_tell_119, s_X6_tell_122, s_X6_tell_123, s_X6_tell_124, s_X6_tell_127, s_X6_tell_128, s_X6_tell_129, s_X6_tell_130, s_X6_tell_131, s_X6_tell_134, s_X6_tell_135, s_X6_tell_138, s_X6_tell_139, s_X6_tell_142, cls_82, fv_82_0, fv_82_1, fv_82_2, fv_82_3, fv_82_4, fv_82_5, ak_83, al_83, ak_84, al_84, cls_20, n0, a1, iI_add, iI_sub, iI_mul, iI_neg, iI_lt, iI_le, iI_eq, iI_toInt, tn_n, tn_1, inb_I, Int.reduceEq, Int.reduceLT, Int.reduceLE, Int.reduceAdd, Int.reduceSub, Int.reduceMul, Int.reduceNeg, Int.reduceToNat, Nat.reduceAdd, Nat.reduceMul, Int.reduceNatCast, reduceCtorEq, Int.cast_ofNat_Int, bi_tr, bi_fa, bi_0, bi_1, not_true_eq_false, not_false_eq_true, rnk_v, rnk_n, ↓reduceIte, i00, i11, ibi, or_true, true_or, and_true, true_and, List.cons_append, List.nil_append, Option.toList, nop]
  · have n0 := nat 0 (by decide)
    have v0 := hv 0 (by decide)
    simp [loN, hiN, noN] at v0
    obtain ⟨M', a1, a2, a3⟩ := k_X4_putShut (D := D) (by omega) h20 hR hI (t := (x 0).toNat) (by omega) False
    rw [bi_f (fun h => h)] at a1
    refine ⟨M', ?_, a2, Sm_mono (by simp) a3⟩
    simp (maxSteps := 4000000) (disch := omega) only [en_X6_tell, s_X6_tell_0, s_X6_tell_1, s_X6_tell_40, s_X6_tell_41, s_X6_tell_44, s_X6_tell_47, s_X6_tell_48, s_X6_tell_49, s_X6_tell_52, s_X6_tell_53, s_X6_tell_54, s_X6_tell_55, s_X6_tell_58, s_X6_tell_59, s_X6_tell_60, s_X6_tell_61, s_X6_tell_64, s_X6_tell_65, s_X6_tell_66, s_X6_tell_67, s_X6_tell_70, s_X6_tell_71, s_X6_tell_72, s_X6_tell_75, s_X6_tell_78, s_X6_tell_79, s_X6_tell_80, s_X6_tell_83, s_X6_tell_84, s_X6_tell_85, s_X6_tell_86, s_X6_tell_89, s_X6_tell_90, s_X6_tell_91, s_X6_tell_92, s_X6_tell_95, s_X6_tell_96, s_X6_tell_97, s_X6_tell_98, s_X6_tell_101, s_X6_tell_102, s_X6_tell_103, s_X6_tell_106, s_X6_tell_109, s_X6_tell_110, s_X6_tell_111, s_X6_tell_114, s_X6_tell_115, s_X6_tell_116, s_X6_tell_119, s_X6_tell_122, s_X6_tell_123, s_X6_tell_124, s_X6_tell_127, s_X6_tell_128, s_X6_tell_129, s_X6_tell_130, s_X6_tell_131, s_X6_tell_134, s_X6_tell_135, s_X6_tell_138, s_X6_tell_139, s_X6_tell_142, cls_82, fv_82_0, fv_82_1, fv_82_2, fv_82_3, fv_82_4, fv_82_5, ak_83, al_83, ak_84, al_84, cls_20, n0, a1, iI_add, iI_sub, iI_mul, iI_neg, iI_lt, iI_le, iI_eq, iI_toInt, tn_n, tn_1, inb_I, Int.reduceEq, Int.reduceLT, Int.reduceLE, Int.reduceAdd, Int.reduceSub, Int.reduceMul, Int.reduceNeg, Int.reduceToNat, Nat.reduceAdd, Nat.reduceMul, Int.reduceNatCast, reduceCtorEq, Int.cast_ofNat_Int, bi_tr, bi_fa, bi_0, bi_1, not_true_eq_false, not_false_eq_true, rnk_v, rnk_n, ↓reduceIte, i00, i11, ibi, or_true, true_or, and_true, true_and, List.cons_append, List.nil_append, Option.toList, nop]
  · have n0 := nat 0 (by decide)
    have s1 : Sm [20, 21, 22, 23, 24, 25, 26, 27, 28, 29] M (sI M 20 13 (iI ((x 0).toNat : Nat))) := Sm_sI (by simp)
    refine ⟨sI M 20 13 (iI ((x 0).toNat : Nat)), ?_, ?_, s1⟩
    · simp (maxSteps := 4000000) (disch := omega) only [en_X6_tell, s_X6_tell_0, s_X6_tell_1, s_X6_tell_40, s_X6_tell_41, s_X6_tell_44, s_X6_tell_47, s_X6_tell_48, s_X6_tell_49, s_X6_tell_52, s_X6_tell_53, s_X6_tell_54, s_X6_tell_55, s_X6_tell_58, s_X6_tell_59, s_X6_tell_60, s_X6_tell_61, s_X6_tell_64, s_X6_tell_65, s_X6_tell_66, s_X6_tell_67, s_X6_tell_70, s_X6_tell_71, s_X6_tell_72, s_X6_tell_75, s_X6_tell_78, s_X6_tell_79, s_X6_tell_80, s_X6_tell_83, s_X6_tell_84, s_X6_tell_85, s_X6_tell_86, s_X6_tell_89, s_X6_tell_90, s_X6_tell_91, s_X6_tell_92, s_X6_tell_95, s_X6_tell_96, s_X6_tell_97, s_X6_tell_98, s_X6_tell_101, s_X6_tell_102, s_X6_tell_103, s_X6_tell_106, s_X6_tell_109, s_X6_tell_110, s_X6_tell_111, s_X6_tell_114, s_X6_tell_115, s_X6_tell_116, s_X6_tell_119, s_X6_tell_122, s_X6_tell_123, s_X6_tell_124, s_X6_tell_127, s_X6_tell_128, s_X6_tell_129, s_X6_tell_130, s_X6_tell_131, s_X6_tell_134, s_X6_tell_135, s_X6_tell_138, s_X6_tell_139, s_X6_tell_142, cls_82, fv_82_0, fv_82_1, fv_82_2, fv_82_3, fv_82_4, fv_82_5, ak_83, al_83, ak_84, al_84, cls_20, fv_20_0, fv_20_1, fv_20_2, fv_20_3, fv_20_4, fv_20_5, fv_20_6, fv_20_7, fv_20_8, fv_20_9, fv_20_10, fv_20_11, fv_20_12, fv_20_13, fv_20_14, fv_20_15, n0, iI_add, iI_sub, iI_mul, iI_neg, iI_lt, iI_le, iI_eq, iI_toInt, tn_n, tn_1, inb_I, Int.reduceEq, Int.reduceLT, Int.reduceLE, Int.reduceAdd, Int.reduceSub, Int.reduceMul, Int.reduceNeg, Int.reduceToNat, Nat.reduceAdd, Nat.reduceMul, Int.reduceNatCast, reduceCtorEq, Int.cast_ofNat_Int, bi_tr, bi_fa, bi_0, bi_1, not_true_eq_false, not_false_eq_true, rnk_v, rnk_n, ↓reduceIte, i00, i11, ibi, or_true, true_or, and_true, true_and, List.cons_append, List.nil_append, Option.toList, nop]
    · exact uPres_Rep h20 hR _
theorem mt_j {a : Nat → Int} {n p k : Nat} : ∀ {m : Nat}, mt a n p k m = m → ∀ j, j ≤ m → mt a n p k j = j
  | 0, _, j, hj => by rw [show j = 0 by omega]; rfl
  | m + 1, h, j, hj => by
    by_cases e : j = m + 1
    · rw [e]; exact h
    · simp only [mt] at h
      have := mt_le a n p k m
      by_cases q : mt a n p k m = m ∧ lt a n (p + m) = txc (130 + k) m
      · exact mt_j q.1 j (by omega)
      · rw [if_neg q] at h; omega
/-- the letters -/
theorem l_letters {D : Nat} (hD : 6 ≤ D) {a : Nat → Int} {n p k : Nat} (ha : aR a) (hn : n ≤ 160) (hp : p ≤ 200) (hk : k < 6) : ∀ (m j : Nat), j + m = txl (130 + k) → ∀ M : tM, RdC M a n (p + j) → mt a n p k j = j → ∃ M', (mt a n p k (txl (130 + k)) = txl (130 + k) → rn (exF D) C_X6_readItem 33 [some (.ref 82), some (.ref 20), some (.int (iI p)), some (.int (iI k)), some (.ref (130 + k)), some (.int (iI j))] [] M = rn (exF D) C_X6_readItem 65 [some (.ref 82), some (.ref 20), some (.int (iI p)), some (.int (iI k)), some (.ref (130 + k)), some (.int (iI (txl (130 + k))))] [] M' ∧ RdC M' a n (p + txl (130 + k))) ∧ (mt a n p k (txl (130 + k)) ≠ txl (130 + k) → rn (exF D) C_X6_readItem 33 [some (.ref 82), some (.ref 20), some (.int (iI p)), some (.int (iI k)), some (.ref (130 + k)), some (.int (iI j))] [] M = some (some (.int (iI 0)), M') ∧ M'.1 82 4 = iI (p + mt a n p k (txl (130 + k)) : Nat)) ∧ Sm [82] M M' ∧ M'.1 82 5 = M.1 82 5 := by
  have ht := (tx_rng k hk).1
  have hl : ∀ M, exF D m_J0_length_8abf5 [.ref (130 + k)] M = some (some (.int (iI (txl (130 + k)))), M) := fun M => ca_301 (by omega) hk
  have hcl := cls_tx hk
  intro m
  induction m with
  | zero =>
    intro j hj M h1 h2
    have e : j = txl (130 + k) := by omega
    have h6 : mt a n p k (txl (130 + k)) = txl (130 + k) := by rw [← e]; exact h2
    refine ⟨M, fun _ => ⟨?_, by rw [← e]; exact h1⟩, fun h => absurd h6 h, Sm_rf _ _, rfl⟩
    rw [← e]
    simp (maxSteps := 4000000) (disch := omega) only [s_X6_readItem_33, s_X6_readItem_35, s_X6_readItem_37, s_X6_readItem_40, hcl, hl, leT (show (txl (130 + k) : Int) ≤ j by omega), iI_add, iI_sub, iI_mul, iI_neg, iI_lt, iI_le, iI_eq, iI_toInt, tn_n, tn_1, inb_I, Int.reduceEq, Int.reduceLT, Int.reduceLE, Int.reduceAdd, Int.reduceSub, Int.reduceMul, Int.reduceNeg, Int.reduceToNat, Nat.reduceAdd, Nat.reduceMul, Int.reduceNatCast, reduceCtorEq, Int.cast_ofNat_Int, bi_tr, bi_fa, bi_0, bi_1, not_true_eq_false, not_false_eq_true, rnk_v, rnk_n, ↓reduceIte, i00, i11, ibi, or_true, true_or, and_true, true_and, List.cons_append, List.nil_append, Option.toList, nop]
  | succ m ih =>
    intro j hj M h1 h2
    have hjl : j < txl (130 + k) := by omega
    have hc : exF D m_J0_charAt_5068e [.ref (130 + k), .int (iI j)] M = some (some (.int (iI (txc (130 + k) j))), M) := ca_300 (by omega) hk hjl
    have hcr := (tx_rng k hk).2 j (by omega) hjl
    have hs := k_X6_readSign (D := D) (by omega) ha h1 hn (by omega) (c := txc (130 + k) j) (by omega)
    by_cases q : lt a n (p + j) = txc (130 + k) j
    · rw [bi_t q, if_pos q] at hs
      have w1 : RdC (sI M 82 3 (iI (p + j + 1 : Nat))) a n (p + (j + 1)) := RdC_at h1 _
      obtain ⟨M', a1, a2, a3, a4⟩ := ih (j + 1) (by omega) _ w1 (by simp only [mt]; rw [if_pos ⟨h2, q⟩])
      have step : rn (exF D) C_X6_readItem 33 [some (.ref 82), some (.ref 20), some (.int (iI p)), some (.int (iI k)), some (.ref (130 + k)), some (.int (iI j))] [] M = rn (exF D) C_X6_readItem 33 [some (.ref 82), some (.ref 20), some (.int (iI p)), some (.int (iI k)), some (.ref (130 + k)), some (.int (iI (j + 1 : Nat)))] [] (sI M 82 3 (iI (p + j + 1 : Nat))) := by
        rw [s_X6_readItem_33]
        simp (maxSteps := 4000000) (disch := omega) only [s_X6_readItem_35, s_X6_readItem_37, s_X6_readItem_40, s_X6_readItem_43, s_X6_readItem_44, s_X6_readItem_46, s_X6_readItem_48, s_X6_readItem_51, s_X6_readItem_54, s_X6_readItem_57, s_X6_readItem_58, s_X6_readItem_59, s_X6_readItem_62, hcl, cls_82, hl, hc, hs, leF (show (j : Int) < txl (130 + k) by omega), iI_add, iI_sub, iI_mul, iI_neg, iI_lt, iI_le, iI_eq, iI_toInt, tn_n, tn_1, inb_I, Int.reduceEq, Int.reduceLT, Int.reduceLE, Int.reduceAdd, Int.reduceSub, Int.reduceMul, Int.reduceNeg, Int.reduceToNat, Nat.reduceAdd, Nat.reduceMul, Int.reduceNatCast, reduceCtorEq, Int.cast_ofNat_Int, bi_tr, bi_fa, bi_0, bi_1, not_true_eq_false, not_false_eq_true, rnk_v, rnk_n, ↓reduceIte, i00, i11, ibi, or_true, true_or, and_true, true_and, List.cons_append, List.nil_append, Option.toList, nop]
        rfl
      rw [step]
      exact ⟨M', a1, a2, Sm_tr (Sm_sI (by simp)) a3, by rw [a4, sI_k _ _ (by omega)]⟩
    · rw [bi_f q, if_neg q] at hs
      have e := mt_stop q h2 m
      rw [show j + 1 + m = txl (130 + k) by omega] at e
      refine ⟨sI M 82 4 (iI (p + j : Nat)), fun h => by omega, fun _ => ⟨?_, by rw [sI_s, e]⟩, Sm_sI (by simp), by rw [sI_k _ _ (by omega)]⟩
      simp (maxSteps := 4000000) (disch := omega) only [s_X6_readItem_33, s_X6_readItem_35, s_X6_readItem_37, s_X6_readItem_40, s_X6_readItem_43, s_X6_readItem_44, s_X6_readItem_46, s_X6_readItem_48, s_X6_readItem_51, s_X6_readItem_54, s_X6_readItem_57, s_X6_readItem_58, s_X6_readItem_59, s_X6_readItem_62, hcl, cls_82, hl, hc, hs, leF (show (j : Int) < txl (130 + k) by omega), iI_add, iI_sub, iI_mul, iI_neg, iI_lt, iI_le, iI_eq, iI_toInt, tn_n, tn_1, inb_I, Int.reduceEq, Int.reduceLT, Int.reduceLE, Int.reduceAdd, Int.reduceSub, Int.reduceMul, Int.reduceNeg, Int.reduceToNat, Nat.reduceAdd, Nat.reduceMul, Int.reduceNatCast, reduceCtorEq, Int.cast_ofNat_Int, bi_tr, bi_fa, bi_0, bi_1, not_true_eq_false, not_false_eq_true, rnk_v, rnk_n, ↓reduceIte, i00, i11, ibi, or_true, true_or, and_true, true_and, List.cons_append, List.nil_append, Option.toList, nop]
/-- the numbers -/
theorem l_numbers {D : Nat} (hD : 4 ≤ D) {a : Nat → Int} {n p k q : Nat} (ha : aR a) (hn : n ≤ 160) (hp : q ≤ n) (hk : k < 6) {K : tK} (hI : kInv K) {r : Value} : ∀ (m i : Nat), i + m = nNum k → ∀ M : tM, Rep M 20 K → RdC M a n (rdX a n K k q i).2.2 → (rdX a n K k q i).2.1 = true → (∀ j, j < i → M.1 84 j = iI ((rdX a n K k q i).1 j)) → ∃ M', ((rdX a n K k q (nNum k)).2.1 = true → rn (exF D) C_X6_readItem 82 [some (.ref 82), some (.ref 20), some (.int (iI p)), some (.int (iI k)), some r, some (.int (iI i))] [] M = rn (exF D) C_X6_readItem 125 [some (.ref 82), some (.ref 20), some (.int (iI p)), some (.int (iI k)), some r, some (.int (iI (nNum k)))] [] M' ∧ RdC M' a n (rdX a n K k q (nNum k)).2.2 ∧ ∀ j, j < nNum k → M'.1 84 j = iI ((rdX a n K k q (nNum k)).1 j)) ∧ ((rdX a n K k q (nNum k)).2.1 = false → rn (exF D) C_X6_readItem 82 [some (.ref 82), some (.ref 20), some (.int (iI p)), some (.int (iI k)), some r, some (.int (iI i))] [] M = some (some (.int (iI 0)), M') ∧ M'.1 82 4 = iI (rdX a n K k q (nNum k)).2.2) ∧ Sm [82, 84] M M' ∧ M'.1 82 5 = M.1 82 5 := by
  have hnl : ∀ M, exF D m_X6_numbersOf [.int (iI k)] M = some (some (.int (iI (nNum k))), M) := fun M => k_X6_numbersOf (by omega) hk
  have h4 : nNum k ≤ 4 := by unfold nNum; (repeat' split) <;> omega
  intro m
  induction m with
  | zero =>
    intro i hi M h0' h1 h2 h3
    have e : i = nNum k := by omega
    subst e
    refine ⟨M, fun _ => ⟨?_, h1, h3⟩, (fun h => by rw [h2] at h; cases h), Sm_rf _ _, rfl⟩
    simp (maxSteps := 4000000) (disch := omega) only [s_X6_readItem_82, s_X6_readItem_84, s_X6_readItem_85, s_X6_readItem_88, hnl, leT (show (nNum k : Int) ≤ nNum k by omega), iI_add, iI_sub, iI_mul, iI_neg, iI_lt, iI_le, iI_eq, iI_toInt, tn_n, tn_1, inb_I, Int.reduceEq, Int.reduceLT, Int.reduceLE, Int.reduceAdd, Int.reduceSub, Int.reduceMul, Int.reduceNeg, Int.reduceToNat, Nat.reduceAdd, Nat.reduceMul, Int.reduceNatCast, reduceCtorEq, Int.cast_ofNat_Int, bi_tr, bi_fa, bi_0, bi_1, not_true_eq_false, not_false_eq_true, rnk_v, rnk_n, ↓reduceIte, i00, i11, ibi, or_true, true_or, and_true, true_and, List.cons_append, List.nil_append, Option.toList, nop]
  | succ m ih =>
    intro i hi M h0' h1 h2 h3
    have hil : i < nNum k := by omega
    have b1 := rdX_in (a := a) (K := K) (k := k) hp i
    have b2 := b1.2.2 h2
    have hs := k_X6_readSign (D := D) (by omega) ha h1 hn (by omega) (c := 32) (by omega)
    have hi4 : (i : Int) < 4 := by omega
    have hin : (i : Int) < nNum k := by omega
    by_cases c1 : lt a n (rdX a n K k q i).2.2 = 32
    rotate_left
    · rw [bi_f c1, if_neg c1] at hs
      have e : rdN a n (rdX a n K k q i).2.2 (loN k i) (hiN K k i) (noN k i ((rdX a n K k q i).1 0)) = (-1, (rdX a n K k q i).2.2) := by
        unfold rdN; rw [if_pos c1]
      have e2 := rdX_f h2 (by rw [e])
      have e3 := rdX_s (a := a) (n := n) (K := K) (k := k) (p := q) (i := i + 1) (by rw [e2]) m
      rw [show i + 1 + m = nNum k by omega, e2, e] at e3
      refine ⟨sI M 82 4 (iI (rdX a n K k q i).2.2), (fun h => by rw [e3] at h; cases h), fun _ => ⟨?_, by rw [sI_s, e3]⟩, Sm_sI (by simp), by rw [sI_k _ _ (by omega)]⟩
      simp (maxSteps := 4000000) (disch := omega) only [s_X6_readItem_82, s_X6_readItem_84, s_X6_readItem_85, s_X6_readItem_88, s_X6_readItem_91, s_X6_readItem_93, s_X6_readItem_94, s_X6_readItem_97, s_X6_readItem_98, s_X6_readItem_100, s_X6_readItem_103, s_X6_readItem_106, s_X6_readItem_107, s_X6_readItem_108, s_X6_readItem_110, s_X6_readItem_111, s_X6_readItem_114, s_X6_readItem_117, s_X6_readItem_118, cls_82, hnl, hs, leF hin, leF hi4, iI_add, iI_sub, iI_mul, iI_neg, iI_lt, iI_le, iI_eq, iI_toInt, tn_n, tn_1, inb_I, Int.reduceEq, Int.reduceLT, Int.reduceLE, Int.reduceAdd, Int.reduceSub, Int.reduceMul, Int.reduceNeg, Int.reduceToNat, Nat.reduceAdd, Nat.reduceMul, Int.reduceNatCast, reduceCtorEq, Int.cast_ofNat_Int, bi_tr, bi_fa, bi_0, bi_1, not_true_eq_false, not_false_eq_true, rnk_v, rnk_n, ↓reduceIte, i00, i11, ibi, or_true, true_or, and_true, true_and, List.cons_append, List.nil_append, Option.toList, nop]
    rw [bi_t c1, if_pos c1] at hs
    have w1 : RdC (sI M 82 3 (iI ((rdX a n K k q i).2.2 + 1 : Nat))) a n ((rdX a n K k q i).2.2 + 1) := RdC_at h1 _
    have s1 : Sm [82, 84] M (sI M 82 3 (iI ((rdX a n K k q i).2.2 + 1 : Nat))) := Sm_sI (by simp)
    have x0 : -1 ≤ (rdX a n K k q i).1 0 ∧ (rdX a n K k q i).1 0 ≤ 99 := by
      by_cases y : 0 < i
      · have := b2.2 0 y; omega
      · rw [show i = 0 by omega]; show -1 ≤ (0 : Int) ∧ (0 : Int) ≤ 99; omega
    obtain ⟨M1, a1, a2, a3, a4, a5, f5⟩ := k_X6_readNumber hD (M := sI M 82 3 (iI ((rdX a n K k q i).2.2 + 1 : Nat))) ha w1 hn (by omega) c1 (Rep_o h20 h0' s1 (by simp)) hI hk hil x0 (fun y => by rw [sI_a _ _ (by omega)]; exact h3 0 y)
    have s2 : Sm [82, 84] M M1 := Sm_tr s1 a5
    by_cases c2 : (rdN a n (rdX a n K k q i).2.2 (loN k i) (hiN K k i) (noN k i ((rdX a n K k q i).1 0))).1 = -1
    · have e2 := rdX_f h2 c2
      have e3 := rdX_s (a := a) (n := n) (K := K) (k := k) (p := q) (i := i + 1) (by rw [e2]) m
      rw [show i + 1 + m = nNum k by omega, e2] at e3
      rw [bi_f (fun h => h c2)] at a1
      refine ⟨M1, (fun h => by rw [e3] at h; cases h), fun _ => ⟨?_, by rw [e3]; exact a3 c2⟩, s2, by rw [f5, sI_k _ _ (by omega)]⟩
      simp (maxSteps := 4000000) (disch := omega) only [s_X6_readItem_82, s_X6_readItem_84, s_X6_readItem_85, s_X6_readItem_88, s_X6_readItem_91, s_X6_readItem_93, s_X6_readItem_94, s_X6_readItem_97, s_X6_readItem_98, s_X6_readItem_100, s_X6_readItem_103, s_X6_readItem_106, s_X6_readItem_107, s_X6_readItem_108, s_X6_readItem_110, s_X6_readItem_111, s_X6_readItem_114, s_X6_readItem_117, s_X6_readItem_118, cls_82, hnl, hs, a1, leF hin, leF hi4, iI_add, iI_sub, iI_mul, iI_neg, iI_lt, iI_le, iI_eq, iI_toInt, tn_n, tn_1, inb_I, Int.reduceEq, Int.reduceLT, Int.reduceLE, Int.reduceAdd, Int.reduceSub, Int.reduceMul, Int.reduceNeg, Int.reduceToNat, Nat.reduceAdd, Nat.reduceMul, Int.reduceNatCast, reduceCtorEq, Int.cast_ofNat_Int, bi_tr, bi_fa, bi_0, bi_1, not_true_eq_false, not_false_eq_true, rnk_v, rnk_n, ↓reduceIte, i00, i11, ibi, or_true, true_or, and_true, true_and, List.cons_append, List.nil_append, Option.toList, nop]
    · have e2 := rdX_t h2 c2
      obtain ⟨a6, a7⟩ := a2 c2
      rw [bi_t c2] at a1
      obtain ⟨M', d1, d2, d3, d4⟩ := ih (i + 1) (by omega) M1 (Rep_o h20 h0' s2 (by simp)) (by rw [e2]; exact a6) (by rw [e2]) (by
        intro j hj
        rw [e2]
        dsimp only
        by_cases y : j = i
        · subst y; rw [if_pos rfl]; exact a7
        · rw [if_neg y, a4 j y, sI_a _ _ (by omega)]; exact h3 j (by omega))
      have step : rn (exF D) C_X6_readItem 82 [some (.ref 82), some (.ref 20), some (.int (iI p)), some (.int (iI k)), some r, some (.int (iI i))] [] M = rn (exF D) C_X6_readItem 82 [some (.ref 82), some (.ref 20), some (.int (iI p)), some (.int (iI k)), some r, some (.int (iI (i + 1 : Nat)))] [] M1 := by
        rw [s_X6_readItem_82]
        simp (maxSteps := 4000000) (disch := omega) only [s_X6_readItem_84, s_X6_readItem_85, s_X6_readItem_88, s_X6_readItem_91, s_X6_readItem_93, s_X6_readItem_94, s_X6_readItem_97, s_X6_readItem_98, s_X6_readItem_100, s_X6_readItem_103, s_X6_readItem_106, s_X6_readItem_107, s_X6_readItem_108, s_X6_readItem_110, s_X6_readItem_111, s_X6_readItem_114, s_X6_readItem_117, s_X6_readItem_118, s_X6_readItem_119, s_X6_readItem_122, cls_82, hnl, hs, a1, leF hin, leF hi4, iI_add, iI_sub, iI_mul, iI_neg, iI_lt, iI_le, iI_eq, iI_toInt, tn_n, tn_1, inb_I, Int.reduceEq, Int.reduceLT, Int.reduceLE, Int.reduceAdd, Int.reduceSub, Int.reduceMul, Int.reduceNeg, Int.reduceToNat, Nat.reduceAdd, Nat.reduceMul, Int.reduceNatCast, reduceCtorEq, Int.cast_ofNat_Int, bi_tr, bi_fa, bi_0, bi_1, not_true_eq_false, not_false_eq_true, rnk_v, rnk_n, ↓reduceIte, i00, i11, ibi, or_true, true_or, and_true, true_and, List.cons_append, List.nil_append, Option.toList, nop]
        rfl
      rw [step]
      exact ⟨M', d1, d2, Sm_tr s2 d3, by rw [d4, f5, sI_k _ _ (by omega)]⟩
theorem k_X6_readItem {D : Nat} (hD : 8 ≤ D) {M : tM} {a : Nat → Int} {n p : Nat} (ha : aR a) (hR : RdC M a n p) (hn : n ≤ 160) (hp : p ≤ n) {K : tK} (hK : Rep M 20 K) (hI : kInv K) : ∃ M', exF D m_X6_readItem [.ref 82, .ref 20] M = some (some (.int (bi ((rdI a n K p).1 = true))), M') ∧ ((rdI a n K p).1 = true → RdC M' a n (rdI a n K p).2.2 ∧ Rep M' 20 (rdI a n K p).2.1 ∧ M'.1 82 5 = M.1 82 5) ∧ ((rdI a n K p).1 = false → M'.1 82 4 = iI (rdI a n K p).2.2) ∧ Sm [20, 21, 22, 23, 24, 25, 26, 27, 28, 29, 82, 84] M M' := by
  obtain ⟨D, rfl⟩ : ∃ D0, D = D0 + 1 := ⟨D - 1, by omega⟩
  have h3 := hR.2.2
  have hw := k_X6_wordThatBeginsHere (D := D) (by omega) ha hR hn (by omega)
  have w6 := wd_le (lt a n p)
  by_cases q1 : wd (lt a n p) = 6
  · have e : rdI a n K p = (false, K, p) := by unfold rdI; rw [if_pos q1]
    rw [if_pos q1] at hw
    rw [e, bi_f (by simp)]
    refine ⟨sI M 82 4 (iI p), ?_, (fun h => by cases h), fun _ => by rw [sI_s], Sm_sI (by simp)⟩
    simp (maxSteps := 4000000) (disch := omega) only [en_X6_readItem, s_X6_readItem_0, s_X6_readItem_1, s_X6_readItem_4, s_X6_readItem_5, s_X6_readItem_6, s_X6_readItem_9, s_X6_readItem_10, s_X6_readItem_11, s_X6_readItem_12, s_X6_readItem_15, s_X6_readItem_16, s_X6_readItem_17, s_X6_readItem_20, s_X6_readItem_23, s_X6_readItem_24, s_X6_readItem_25, s_X6_readItem_28, s_X6_readItem_30, s_X6_readItem_31, s_X6_readItem_33, s_X6_readItem_35, s_X6_readItem_37, s_X6_readItem_40, s_X6_readItem_43, s_X6_readItem_44, s_X6_readItem_46, s_X6_readItem_48, s_X6_readItem_51, s_X6_readItem_54, s_X6_readItem_57, s_X6_readItem_58, s_X6_readItem_59, s_X6_readItem_62, s_X6_readItem_65, s_X6_readItem_66, s_X6_readItem_67, s_X6_readItem_70, s_X6_readItem_73, s_X6_readItem_74, s_X6_readItem_75, s_X6_readItem_78, s_X6_readItem_79, s_X6_readItem_80, s_X6_readItem_82, s_X6_readItem_84, s_X6_readItem_85, s_X6_readItem_88, s_X6_readItem_91, s_X6_readItem_93, s_X6_readItem_94, s_X6_readItem_97, s_X6_readItem_98, s_X6_readItem_100, s_X6_readItem_103, s_X6_readItem_106, s_X6_readItem_107, s_X6_readItem_108, s_X6_readItem_110, s_X6_readItem_111, s_X6_readItem_114, s_X6_readItem_117, s_X6_readItem_118, s_X6_readItem_119, s_X6_readItem_122, s_X6_readItem_125, s_X6_readItem_126, s_X6_readItem_127, s_X6_readItem_128, s_X6_readItem_131, s_X6_readItem_132, cls_82, fv_82_0, fv_82_1, fv_82_2, fv_82_3, fv_82_4, fv_82_5, hw, h3, k_X6_failAt (show _ ≤ D by omega), iI_add, iI_sub, iI_mul, iI_neg, iI_lt, iI_le, iI_eq, iI_toInt, tn_n, tn_1, inb_I, Int.reduceEq, Int.reduceLT, Int.reduceLE, Int.reduceAdd, Int.reduceSub, Int.reduceMul, Int.reduceNeg, Int.reduceToNat, Nat.reduceAdd, Nat.reduceMul, Int.reduceNatCast, reduceCtorEq, Int.cast_ofNat_Int, bi_tr, bi_fa, bi_0, bi_1, not_true_eq_false, not_false_eq_true, rnk_v, rnk_n, ↓reduceIte, i00, i11, ibi, or_true, true_or, and_true, true_and, List.cons_append, List.nil_append, Option.toList, nop]
  rw [if_neg q1] at hw
  obtain ⟨k, hkd⟩ : ∃ k, k = wd (lt a n p) := ⟨_, rfl⟩
  have hk : k < 6 := by omega
  have ht := (tx_rng k hk).1
  have htx := k_X6_textOf (D := D) (by omega) (M := M) hk
  obtain ⟨M1, a1, a2, a3, a9⟩ := l_letters (D := D) (by omega) ha hn (show p ≤ 200 by omega) hk (txl (130 + k)) 0 (by omega) M hR rfl
  have pre : exF (D + 1) m_X6_readItem [.ref 82, .ref 20] M = rn (exF D) C_X6_readItem 33 [some (.ref 82), some (.ref 20), some (.int (iI p)), some (.int (iI k)), some (.ref (130 + k)), some (.int (iI (0 : Nat)))] [] M := by
    rw [← hkd] at hw
    simp (maxSteps := 4000000) (disch := omega) only [en_X6_readItem, s_X6_readItem_0, s_X6_readItem_1, s_X6_readItem_4, s_X6_readItem_5, s_X6_readItem_6, s_X6_readItem_9, s_X6_readItem_10, s_X6_readItem_11, s_X6_readItem_12, s_X6_readItem_15, s_X6_readItem_16, s_X6_readItem_17, s_X6_readItem_20, s_X6_readItem_23, s_X6_readItem_24, s_X6_readItem_25, s_X6_readItem_28, s_X6_readItem_30, s_X6_readItem_31, cls_82, fv_82_0, fv_82_1, fv_82_2, fv_82_3, fv_82_4, fv_82_5, hw, h3, htx, eqF (show ¬ (k : Int) = -1 by omega), iI_add, iI_sub, iI_mul, iI_neg, iI_lt, iI_le, iI_eq, iI_toInt, tn_n, tn_1, inb_I, Int.reduceEq, Int.reduceLT, Int.reduceLE, Int.reduceAdd, Int.reduceSub, Int.reduceMul, Int.reduceNeg, Int.reduceToNat, Nat.reduceAdd, Nat.reduceMul, Int.reduceNatCast, reduceCtorEq, Int.cast_ofNat_Int, bi_tr, bi_fa, bi_0, bi_1, not_true_eq_false, not_false_eq_true, rnk_v, rnk_n, ↓reduceIte, i00, i11, ibi, or_true, true_or, and_true, true_and, List.cons_append, List.nil_append, Option.toList, nop]
  rw [pre]
  have rd : rdI a n K p = (if mt a n p k (txl (130 + k)) ≠ txl (130 + k) then (false, K, p + mt a n p k (txl (130 + k))) else if ¬ rmK K k = true then (false, K, p) else if (rdX a n K k (p + txl (130 + k)) (nNum k)).2.1 = true then (true, tlK K k (rdX a n K k (p + txl (130 + k)) (nNum k)).1, (rdX a n K k (p + txl (130 + k)) (nNum k)).2.2) else (false, K, (rdX a n K k (p + txl (130 + k)) (nNum k)).2.2)) := by
    unfold rdI
    rw [if_neg q1, hkd]
  by_cases q2 : mt a n p k (txl (130 + k)) ≠ txl (130 + k)
  · have e : rdI a n K p = (false, K, p + mt a n p k (txl (130 + k))) := by rw [rd, if_pos q2]
    obtain ⟨a4, a5⟩ := a2 q2
    rw [e, bi_f (by simp)]
    exact ⟨M1, a4, (fun h => by cases h), fun _ => a5, Sm_mono (by simp) a3⟩
  have q2' : mt a n p k (txl (130 + k)) = txl (130 + k) := Classical.not_not.mp q2
  obtain ⟨a4, a5⟩ := a1 q2'
  have hpn := mt_n hk q2'
  rw [a4]
  have w1 : Rep M1 20 K := Rep_o h20 hK a3 (by simp)
  have hrm := k_X6_hasRoomFor (D := D) (by omega) w1 hI hk
  have s1 : Sm [20, 21, 22, 23, 24, 25, 26, 27, 28, 29, 82, 84] M M1 := Sm_mono (by simp) a3
  rw [if_neg q2] at rd
  clear hkd pre a1 a2 htx hw
  by_cases q3 : ¬ rmK K k = true
  · have e : rdI a n K p = (false, K, p) := by rw [rd, if_pos q3]
    rw [bi_f q3] at hrm
    rw [e, bi_f (by simp)]
    refine ⟨sI M1 82 4 (iI p), ?_, (fun h => by cases h), fun _ => by rw [sI_s], Sm_tr s1 (Sm_sI (by simp))⟩
    simp (maxSteps := 4000000) (disch := omega) only [s_X6_readItem_65, s_X6_readItem_66, s_X6_readItem_67, s_X6_readItem_70, s_X6_readItem_73, s_X6_readItem_74, s_X6_readItem_75, s_X6_readItem_78, cls_82, fv_82_0, fv_82_1, fv_82_2, fv_82_3, fv_82_4, fv_82_5, hrm, k_X6_failAt (show _ ≤ D by omega), iI_add, iI_sub, iI_mul, iI_neg, iI_lt, iI_le, iI_eq, iI_toInt, tn_n, tn_1, inb_I, Int.reduceEq, Int.reduceLT, Int.reduceLE, Int.reduceAdd, Int.reduceSub, Int.reduceMul, Int.reduceNeg, Int.reduceToNat, Nat.reduceAdd, Nat.reduceMul, Int.reduceNatCast, reduceCtorEq, Int.cast_ofNat_Int, bi_tr, bi_fa, bi_0, bi_1, not_true_eq_false, not_false_eq_true, rnk_v, rnk_n, ↓reduceIte, i00, i11, ibi, or_true, true_or, and_true, true_and, List.cons_append, List.nil_append, Option.toList, nop]
  rw [if_neg q3] at rd
  have q3' : rmK K k = true := Classical.not_not.mp q3
  rw [bi_t q3'] at hrm
  obtain ⟨M2, b1, b2, b3, b9⟩ := l_numbers (D := D) (by omega) ha hn hpn hk hI (r := .ref (130 + k)) (p := p) (nNum k) 0 (by omega) M1 w1 a5 rfl (fun j hj => absurd hj (by omega))
  have pre2 : rn (exF D) C_X6_readItem 65 [some (.ref 82), some (.ref 20), some (.int (iI p)), some (.int (iI k)), some (.ref (130 + k)), some (.int (iI (txl (130 + k))))] [] M1 = rn (exF D) C_X6_readItem 82 [some (.ref 82), some (.ref 20), some (.int (iI p)), some (.int (iI k)), some (.ref (130 + k)), some (.int (iI (0 : Nat)))] [] M1 := by
    clear b1 b2
    generalize txl (130 + k) = t at *
    generalize 130 + k = s at *
    simp (maxSteps := 4000000) (disch := omega) only [s_X6_readItem_65, s_X6_readItem_66, s_X6_readItem_67, s_X6_readItem_70, s_X6_readItem_73, s_X6_readItem_74, s_X6_readItem_75, s_X6_readItem_78, s_X6_readItem_79, s_X6_readItem_80, hrm, iI_add, iI_sub, iI_mul, iI_neg, iI_lt, iI_le, iI_eq, iI_toInt, tn_n, tn_1, inb_I, Int.reduceEq, Int.reduceLT, Int.reduceLE, Int.reduceAdd, Int.reduceSub, Int.reduceMul, Int.reduceNeg, Int.reduceToNat, Nat.reduceAdd, Nat.reduceMul, Int.reduceNatCast, reduceCtorEq, Int.cast_ofNat_Int, bi_tr, bi_fa, bi_0, bi_1, not_true_eq_false, not_false_eq_true, rnk_v, rnk_n, ↓reduceIte, i00, i11, ibi, or_true, true_or, and_true, true_and, List.cons_append, List.nil_append, Option.toList, nop]
  rw [pre2]
  have s2 : Sm [20, 21, 22, 23, 24, 25, 26, 27, 28, 29, 82, 84] M M2 := Sm_tr s1 (Sm_mono (by simp) b3)
  by_cases q4 : (rdX a n K k (p + txl (130 + k)) (nNum k)).2.1 = true
  · rw [if_pos q4] at rd
    obtain ⟨b4, b5, b6⟩ := b1 q4
    have x1 := (rdX_in (a := a) (K := K) (k := k) hpn (nNum k)).2.2 q4
    obtain ⟨M3, d1, d2, d3⟩ := k_X6_tell (D := D) (by omega) (Rep_o h20 w1 b3 (by simp)) hI hk b6 q3' x1.2
    rw [b4, rd, bi_t rfl]
    refine ⟨M3, ?_, fun _ => ⟨RdC_Sm b5 d3 (by simp), d2, by rw [(d3 82 (by simp)).1, b9, a9]⟩, (fun h => by cases h), Sm_tr s2 (Sm_mono (by simp) d3)⟩
    generalize 130 + k = s at *
    simp (maxSteps := 4000000) (disch := omega) only [s_X6_readItem_125, s_X6_readItem_126, s_X6_readItem_127, s_X6_readItem_128, s_X6_readItem_131, s_X6_readItem_132, cls_82, d1, iI_add, iI_sub, iI_mul, iI_neg, iI_lt, iI_le, iI_eq, iI_toInt, tn_n, tn_1, inb_I, Int.reduceEq, Int.reduceLT, Int.reduceLE, Int.reduceAdd, Int.reduceSub, Int.reduceMul, Int.reduceNeg, Int.reduceToNat, Nat.reduceAdd, Nat.reduceMul, Int.reduceNatCast, reduceCtorEq, Int.cast_ofNat_Int, bi_tr, bi_fa, bi_0, bi_1, not_true_eq_false, not_false_eq_true, rnk_v, rnk_n, ↓reduceIte, i00, i11, ibi, or_true, true_or, and_true, true_and, List.cons_append, List.nil_append, Option.toList, nop]
  · rw [if_neg q4] at rd
    obtain ⟨b4, b5⟩ := b2 (by simpa using q4)
    rw [b4, rd, bi_f (by simp)]
    exact ⟨M2, rfl, (fun h => by cases h), fun _ => b5, s2⟩
/-- the plan -/
theorem rdP_t {a : Nat → Int} {n m p c : Nat} {K : tK} (h : (rdI a n K p).1 = true) (h2 : ¬ n ≤ (rdI a n K p).2.2) (h3 : lt a n (rdI a n K p).2.2 = 59) : rdP a n (m + 1) K p c = rdP a n m (rdI a n K p).2.1 ((rdI a n K p).2.2 + 1) (c + 1) := by
  show (if _ then _ else _) = _
  rw [if_pos h, if_neg h2, if_pos h3]
theorem l_plan {D : Nat} (hD : 8 ≤ D) {a : Nat → Int} {n : Nat} (ha : aR a) (hn : n ≤ 160) {v1 : Nat} {s : Int32} : ∀ (m i : Nat), i + m = 161 → ∀ (M : tM) (K : tK) (p : Nat), RdC M a n p → p ≤ n → Rep M 20 K → kInv K → M.1 82 5 = iI i → ∃ M', rn (exF D) C_X6_findFault 65 [some (Value.ref 82), some (Value.ref v1), some (Value.int s), some (Value.ref 20), some (Value.int (iI i))] [] M = some (some (Value.int (iI (if (rdP a n m K p i).1 = true then -1 else ((rdP a n m K p i).2.2 : Int)))), M') ∧ ((rdP a n m K p i).1 = true → Rep M' 20 (rdP a n m K p i).2.1 ∧ M'.1 82 5 = iI (rdP a n m K p i).2.2) ∧ Sm [20, 21, 22, 23, 24, 25, 26, 27, 28, 29, 82, 84] M M' := by
  intro m
  induction m with
  | zero =>
    intro i hi M K p h1 h2 h3 h4 h5
    have e : i = 161 := by omega
    subst e
    have h7 := h1.2.2
    refine ⟨M, ?_, (fun h => by cases h), Sm_rf _ _⟩
    show _ = some (some (Value.int (iI (p : Int))), M)
    simp (maxSteps := 4000000) (disch := omega) only [s_X6_findFault_65, s_X6_findFault_67, s_X6_findFault_70, s_X6_findFault_129, s_X6_findFault_130, s_X6_findFault_133, cls_82, fv_82_0, fv_82_1, fv_82_2, fv_82_3, fv_82_4, fv_82_5, h7, iI_add, iI_sub, iI_mul, iI_neg, iI_lt, iI_le, iI_eq, iI_toInt, tn_n, tn_1, inb_I, Int.reduceEq, Int.reduceLT, Int.reduceLE, Int.reduceAdd, Int.reduceSub, Int.reduceMul, Int.reduceNeg, Int.reduceToNat, Nat.reduceAdd, Nat.reduceMul, Int.reduceNatCast, reduceCtorEq, Int.cast_ofNat_Int, bi_tr, bi_fa, bi_0, bi_1, not_true_eq_false, not_false_eq_true, rnk_v, rnk_n, ↓reduceIte, i00, i11, ibi, or_true, true_or, and_true, true_and, List.cons_append, List.nil_append, Option.toList, nop]
  | succ m ih =>
    intro i hi M K p h1 h2 h3 h4 h5
    have b0 := rdI_in (a := a) (n := n) (K := K) (p := p)
    have b9 := rdI_inv (a := a) (n := n) (p := p) h4
    obtain ⟨M1, a1, a2, a3, a4⟩ := k_X6_readItem hD ha h1 hn h2 h3 h4
    by_cases q1 : (rdI a n K p).1 = true
    rotate_left
    · have e : rdP a n (m + 1) K p i = (false, K, (rdI a n K p).2.2) := if_neg q1
      have f4 := a3 (by simpa using q1)
      rw [e]
      rw [bi_f q1] at a1
      refine ⟨M1, ?_, (fun h => by cases h), a4⟩
      simp (maxSteps := 4000000) (disch := omega) only [s_X6_findFault_65, s_X6_findFault_67, s_X6_findFault_70, s_X6_findFault_73, s_X6_findFault_74, s_X6_findFault_75, s_X6_findFault_78, s_X6_findFault_81, s_X6_findFault_82, s_X6_findFault_85, cls_82, fv_82_0, fv_82_1, fv_82_2, fv_82_3, fv_82_4, fv_82_5, cls_20, a1, f4, leT (show (i : Int) ≤ 160 by omega), ltF (show (i : Int) ≤ 160 by omega), iI_add, iI_sub, iI_mul, iI_neg, iI_lt, iI_le, iI_eq, iI_toInt, tn_n, tn_1, inb_I, Int.reduceEq, Int.reduceLT, Int.reduceLE, Int.reduceAdd, Int.reduceSub, Int.reduceMul, Int.reduceNeg, Int.reduceToNat, Nat.reduceAdd, Nat.reduceMul, Int.reduceNatCast, reduceCtorEq, Int.cast_ofNat_Int, bi_tr, bi_fa, bi_0, bi_1, not_true_eq_false, not_false_eq_true, rnk_v, rnk_n, ↓reduceIte, i00, i11, ibi, or_true, true_or, and_true, true_and, List.cons_append, List.nil_append, Option.toList, nop]
    obtain ⟨c1, c2, c3⟩ := a2 q1
    have b1 := b0 q1
    rw [bi_t q1] at a1
    have c4 := c1.2.1
    have c5 := c1.2.2
    have w1 : RdC (sI M1 82 5 (iI (i + 1 : Nat))) a n (rdI a n K p).2.2 := by
      obtain ⟨z1, z2, z3⟩ := c1
      unfold RdC
      simp (disch := omega) only [sI_a, sI_k, sI_s]
      exact ⟨z1, z2, z3⟩
    have s1 : Sm [20, 21, 22, 23, 24, 25, 26, 27, 28, 29, 82, 84] M (sI M1 82 5 (iI (i + 1 : Nat))) := Sm_tr a4 (Sm_sI (by simp))
    have r1 : Rep (sI M1 82 5 (iI (i + 1 : Nat))) 20 (rdI a n K p).2.1 := Rep_o h20 c2 (l := [82]) (Sm_sI (by simp)) (by simp)
    have ei : iI ((i : Int) + 1) = iI (i + 1 : Nat) := rfl
    by_cases q2 : n ≤ (rdI a n K p).2.2
    · have e : rdP a n (m + 1) K p i = (true, (rdI a n K p).2.1, i + 1) := by
        show (if _ then _ else _) = _
        rw [if_pos q1, if_pos q2]
      rw [e]
      refine ⟨sI M1 82 5 (iI (i + 1 : Nat)), ?_, fun _ => ⟨r1, by rw [sI_s]⟩, s1⟩
      simp (maxSteps := 4000000) (disch := omega) only [s_X6_findFault_65, s_X6_findFault_67, s_X6_findFault_70, s_X6_findFault_73, s_X6_findFault_74, s_X6_findFault_75, s_X6_findFault_78, s_X6_findFault_81, s_X6_findFault_82, s_X6_findFault_85, s_X6_findFault_86, s_X6_findFault_87, s_X6_findFault_87b, s_X6_findFault_88, s_X6_findFault_91, s_X6_findFault_92, s_X6_findFault_93, s_X6_findFault_96, s_X6_findFault_97, s_X6_findFault_100, s_X6_findFault_101, s_X6_findFault_104, s_X6_findFault_107, s_X6_findFault_108, cls_82, fv_82_0, fv_82_1, fv_82_2, fv_82_3, fv_82_4, fv_82_5, cls_20, a1, c3, h5, ei, c4, c5, sI_k, leT (show (i : Int) ≤ 160 by omega), ltF (show (i : Int) ≤ 160 by omega), ltF (show (n : Int) ≤ (rdI a n K p).2.2 by omega), leT (show (n : Int) ≤ (rdI a n K p).2.2 by omega), iI_add, iI_sub, iI_mul, iI_neg, iI_lt, iI_le, iI_eq, iI_toInt, tn_n, tn_1, inb_I, Int.reduceEq, Int.reduceLT, Int.reduceLE, Int.reduceAdd, Int.reduceSub, Int.reduceMul, Int.reduceNeg, Int.reduceToNat, Nat.reduceAdd, Nat.reduceMul, Int.reduceNatCast, reduceCtorEq, Int.cast_ofNat_Int, bi_tr, bi_fa, bi_0, bi_1, not_true_eq_false, not_false_eq_true, rnk_v, rnk_n, ↓reduceIte, i00, i11, ibi, or_true, true_or, and_true, true_and, List.cons_append, List.nil_append, Option.toList, nop]
    have hs := k_X6_readSign (D := D) (by omega) ha w1 hn (by omega) (c := 59) (by omega)
    by_cases q3 : lt a n (rdI a n K p).2.2 = 59
    · rw [rdP_t q1 q2 q3]
      rw [bi_t q3, if_pos q3] at hs
      obtain ⟨M', d1, d2, d3⟩ := ih (i + 1) (by omega) _ (rdI a n K p).2.1 ((rdI a n K p).2.2 + 1) (RdC_at w1 _) (by omega) (Rep_o h20 r1 (l := [82]) (Sm_sI (by simp)) (by simp)) b9.1 (by rw [sI_k _ _ (by omega), sI_s])
      refine ⟨M', ?_, d2, Sm_tr s1 (Sm_tr (Sm_sI (by simp)) d3)⟩
      rw [s_X6_findFault_65]
      simp (maxSteps := 4000000) (disch := omega) only [s_X6_findFault_67, s_X6_findFault_70, s_X6_findFault_73, s_X6_findFault_74, s_X6_findFault_75, s_X6_findFault_78, s_X6_findFault_81, s_X6_findFault_82, s_X6_findFault_85, s_X6_findFault_86, s_X6_findFault_87, s_X6_findFault_87b, s_X6_findFault_88, s_X6_findFault_91, s_X6_findFault_92, s_X6_findFault_93, s_X6_findFault_96, s_X6_findFault_97, s_X6_findFault_100, s_X6_findFault_101, s_X6_findFault_104, s_X6_findFault_107, s_X6_findFault_108, s_X6_findFault_109, s_X6_findFault_110, s_X6_findFault_112, s_X6_findFault_115, s_X6_findFault_118, s_X6_findFault_119, s_X6_findFault_122, s_X6_findFault_123, s_X6_findFault_126, cls_82, fv_82_0, fv_82_1, fv_82_2, fv_82_3, fv_82_4, fv_82_5, cls_20, a1, c3, h5, ei, c4, c5, hs, sI_k, leT (show (i : Int) ≤ 160 by omega), ltF (show (i : Int) ≤ 160 by omega), ltT (show ((rdI a n K p).2.2 : Int) < n by omega), leF (show ((rdI a n K p).2.2 : Int) < n by omega), iI_add, iI_sub, iI_mul, iI_neg, iI_lt, iI_le, iI_eq, iI_toInt, tn_n, tn_1, inb_I, Int.reduceEq, Int.reduceLT, Int.reduceLE, Int.reduceAdd, Int.reduceSub, Int.reduceMul, Int.reduceNeg, Int.reduceToNat, Nat.reduceAdd, Nat.reduceMul, Int.reduceNatCast, reduceCtorEq, Int.cast_ofNat_Int, bi_tr, bi_fa, bi_0, bi_1, not_true_eq_false, not_false_eq_true, rnk_v, rnk_n, ↓reduceIte, i00, i11, ibi, or_true, true_or, and_true, true_and, List.cons_append, List.nil_append, Option.toList, nop]
      exact d1
    · have e : rdP a n (m + 1) K p i = (false, K, (rdI a n K p).2.2) := by
        show (if _ then _ else _) = _
        rw [if_pos q1, if_neg q2, if_neg q3]
      rw [e]
      rw [bi_f q3, if_neg q3] at hs
      refine ⟨_, ?_, (fun h => by cases h), Sm_tr s1 (Sm_sI (a := 82) (k := 4) (v := iI (rdI a n K p).2.2) (by simp))⟩
      simp (maxSteps := 4000000) (disch := omega) only [s_X6_findFault_65, s_X6_findFault_67, s_X6_findFault_70, s_X6_findFault_73, s_X6_findFault_74, s_X6_findFault_75, s_X6_findFault_78, s_X6_findFault_81, s_X6_findFault_82, s_X6_findFault_85, s_X6_findFault_86, s_X6_findFault_87, s_X6_findFault_87b, s_X6_findFault_88, s_X6_findFault_91, s_X6_findFault_92, s_X6_findFault_93, s_X6_findFault_96, s_X6_findFault_97, s_X6_findFault_100, s_X6_findFault_101, s_X6_findFault_104, s_X6_findFault_107, s_X6_findFault_108, s_X6_findFault_109, s_X6_findFault_110, s_X6_findFault_112, s_X6_findFault_115, s_X6_findFault_118, s_X6_findFault_119, s_X6_findFault_122, cls_82, fv_82_0, fv_82_1, fv_82_2, fv_82_3, fv_82_4, fv_82_5, cls_20, a1, c3, h5, ei, c4, c5, hs, sI_k, sI_s, leT (show (i : Int) ≤ 160 by omega), ltF (show (i : Int) ≤ 160 by omega), ltT (show ((rdI a n K p).2.2 : Int) < n by omega), leF (show ((rdI a n K p).2.2 : Int) < n by omega), iI_add, iI_sub, iI_mul, iI_neg, iI_lt, iI_le, iI_eq, iI_toInt, tn_n, tn_1, inb_I, Int.reduceEq, Int.reduceLT, Int.reduceLE, Int.reduceAdd, Int.reduceSub, Int.reduceMul, Int.reduceNeg, Int.reduceToNat, Nat.reduceAdd, Nat.reduceMul, Int.reduceNatCast, reduceCtorEq, Int.cast_ofNat_Int, bi_tr, bi_fa, bi_0, bi_1, not_true_eq_false, not_false_eq_true, rnk_v, rnk_n, ↓reduceIte, i00, i11, ibi, or_true, true_or, and_true, true_and, List.cons_append, List.nil_append, Option.toList, nop]
theorem k_X6_findFault {D : Nat} (hD : 9 ≤ D) {M : tM} {K : tK} {Q : tQ} (hK : Rep M 20 K) (hI : kInv K) (hS : RepS M Q) (hQ : qInv Q) {s : Nat} (hs : s < 8) (hh : 100 ≤ qH Q s) : ∃ M', exF D m_X6_findFault [.ref 82, .ref 30, .int (iI s), .ref 20] M = some (some (.int (iI (if (rdP (qI Q s) (qN Q s) 161 K 0 0).1 = true then -1 else ((rdP (qI Q s) (qN Q s) 161 K 0 0).2.2 : Int)))), M') ∧ ((rdP (qI Q s) (qN Q s) 161 K 0 0).1 = true → Rep M' 20 (rdP (qI Q s) (qN Q s) 161 K 0 0).2.1 ∧ M'.1 82 5 = iI (rdP (qI Q s) (qN Q s) 161 K 0 0).2.2) ∧ Sm [20, 21, 22, 23, 24, 25, 26, 27, 28, 29, 82, 83, 84] M M' := by
  obtain ⟨D, rfl⟩ : ∃ D0, D = D0 + 1 := ⟨D - 1, by omega⟩
  have hn := (hQ s hs).2
  have hz := qZ_of hh
  have k7 := k_X8_sizeOf (show 2 ≤ D by omega) hS hQ hs
  rw [hz] at k7
  have emin : min (qN Q s : Int) 160 = qN Q s := by omega
  obtain ⟨M1, a1, a2, a3⟩ := lp (f := fun i (N : tM) => rn (exF D) C_X6_findFault 18 [some (.ref 82), some (.ref 30), some (.int (iI s)), some (.ref 20), some (.int (iI i))] [] N) (P := fun i N => Sm [83] (sI M 82 2 (iI (qN Q s))) N ∧ ∀ j, j < i → N.1 83 j = iI (qI Q s j)) (n := qN Q s) (by
    rintro i N hi ⟨p1, p2⟩
    have hS' : RepS N Q := RepS_Sm (RepS_Sm hS (Sm_sI (l := [82]) (by simp)) (by simp)) p1 (by simp)
    have g2 := k_X8_intAt (D := D) (by omega) hS' hQ hs (i := i) (by rw [hz]; exact hi)
    have g3 : N.1 82 2 = iI (qN Q s) := by rw [(p1 82 (by simp)).1, sI_s]
    refine ⟨sI N 83 i (iI (qI Q s i)), ?_, Sm_tr p1 (Sm_sI (by simp)), ?_⟩
    · intro X hX
      show rn _ _ _ _ _ _ = X
      rw [s_X6_findFault_18]
      simp (maxSteps := 4000000) (disch := omega) only [s_X6_findFault_20, s_X6_findFault_21, s_X6_findFault_24, s_X6_findFault_27, s_X6_findFault_28, s_X6_findFault_31, s_X6_findFault_33, s_X6_findFault_34, s_X6_findFault_35, s_X6_findFault_37, s_X6_findFault_40, s_X6_findFault_41, s_X6_findFault_44, cls_82, fv_82_0, fv_82_1, fv_82_2, fv_82_3, fv_82_4, fv_82_5, ak_83, al_83, cls_30, g2, g3, leF (show (i : Int) < qN Q s by omega), iI_add, iI_sub, iI_mul, iI_neg, iI_lt, iI_le, iI_eq, iI_toInt, tn_n, tn_1, inb_I, Int.reduceEq, Int.reduceLT, Int.reduceLE, Int.reduceAdd, Int.reduceSub, Int.reduceMul, Int.reduceNeg, Int.reduceToNat, Nat.reduceAdd, Nat.reduceMul, Int.reduceNatCast, reduceCtorEq, Int.cast_ofNat_Int, bi_tr, bi_fa, bi_0, bi_1, not_true_eq_false, not_false_eq_true, rnk_v, rnk_n, ↓reduceIte, i00, i11, ibi, or_true, true_or, and_true, true_and, List.cons_append, List.nil_append, Option.toList, nop]
      exact hX
    · intro j hj
      by_cases y : j = i
      · subst y; rw [sI_s]
      · rw [sI_k _ _ y]; exact p2 j (by omega)) (Nat.zero_le _) (a := sI M 82 2 (iI (qN Q s))) ⟨Sm_rf _ _, fun j hj => absurd hj (by omega)⟩
  have g3 : M1.1 82 2 = iI (qN Q s) := by rw [(a2 82 (by simp)).1, sI_s]
  have s1 : Sm [20, 21, 22, 23, 24, 25, 26, 27, 28, 29, 82, 83, 84] M M1 := Sm_tr (Sm_sI (by simp)) (Sm_mono (by simp) a2)
  have s2 : Sm [82, 83, 84] M (sI (sI (sI M1 82 3 (iI 0)) 82 4 (iI (-1))) 82 5 (iI 0)) := Sm_tr (Sm_tr (Sm_sI (by simp)) (Sm_mono (by simp) a2)) (Sm_tr (Sm_tr (Sm_sI (by simp)) (Sm_sI (by simp))) (Sm_sI (by simp)))
  obtain ⟨M', b1, b2, b3⟩ := l_plan (D := D) (by omega) (a := qI Q s) (n := qN Q s) (fun i => qI_rng Q s i) hn (v1 := 30) (s := iI s) 161 0 (by omega) (sI (sI (sI M1 82 3 (iI 0)) 82 4 (iI (-1))) 82 5 (iI 0)) K 0 (by
    unfold RdC
    simp (disch := omega) only [sI_a, sI_k, sI_s]
    exact ⟨a3, g3, rfl⟩) (by omega) (Rep_o h20 hK s2 (by simp)) hI (by rw [sI_s]; rfl)
  refine ⟨M', ?_, b2, Sm_tr (Sm_mono (by simp) s2) (Sm_mono (by simp) b3)⟩
  simp (maxSteps := 4000000) (disch := omega) only [en_X6_findFault, s_X6_findFault_0, s_X6_findFault_1, s_X6_findFault_2, s_X6_findFault_3, s_X6_findFault_6, s_X6_findFault_9, s_X6_findFault_12, s_X6_findFault_15, s_X6_findFault_16, cls_82, fv_82_0, fv_82_1, fv_82_2, fv_82_3, fv_82_4, fv_82_5, cls_30, k7, mnI_iI, emin, iI_add, iI_sub, iI_mul, iI_neg, iI_lt, iI_le, iI_eq, iI_toInt, tn_n, tn_1, inb_I, Int.reduceEq, Int.reduceLT, Int.reduceLE, Int.reduceAdd, Int.reduceSub, Int.reduceMul, Int.reduceNeg, Int.reduceToNat, Nat.reduceAdd, Nat.reduceMul, Int.reduceNatCast, reduceCtorEq, Int.cast_ofNat_Int, bi_tr, bi_fa, bi_0, bi_1, not_true_eq_false, not_false_eq_true, rnk_v, rnk_n, ↓reduceIte, i00, i11, ibi, or_true, true_or, and_true, true_and, List.cons_append, List.nil_append, Option.toList, nop]
  refine Eq.trans a1 ?_
  simp (maxSteps := 4000000) (disch := omega) only [s_X6_findFault_18, s_X6_findFault_20, s_X6_findFault_21, s_X6_findFault_24, s_X6_findFault_47, s_X6_findFault_48, s_X6_findFault_49, s_X6_findFault_52, s_X6_findFault_53, s_X6_findFault_54, s_X6_findFault_57, s_X6_findFault_58, s_X6_findFault_59, s_X6_findFault_62, s_X6_findFault_63, cls_82, fv_82_0, fv_82_1, fv_82_2, fv_82_3, fv_82_4, fv_82_5, g3, leT (show (qN Q s : Int) ≤ qN Q s by omega), iI_add, iI_sub, iI_mul, iI_neg, iI_lt, iI_le, iI_eq, iI_toInt, tn_n, tn_1, inb_I, Int.reduceEq, Int.reduceLT, Int.reduceLE, Int.reduceAdd, Int.reduceSub, Int.reduceMul, Int.reduceNeg, Int.reduceToNat, Nat.reduceAdd, Nat.reduceMul, Int.reduceNatCast, reduceCtorEq, Int.cast_ofNat_Int, bi_tr, bi_fa, bi_0, bi_1, not_true_eq_false, not_false_eq_true, rnk_v, rnk_n, ↓reduceIte, i00, i11, ibi, or_true, true_or, and_true, true_and, List.cons_append, List.nil_append, Option.toList, nop]
  exact b1
theorem RelC_F {S : tS} {M : tM} (h : RelC S M) (z : Int) : RelC (upF S z) (sI M 88 14 (iI z)) := by
  obtain ⟨h1, h2, h3, h4, h5, h6, h7, h8, h9⟩ := h
  unfold RelC
  simp (disch := omega) only [sI_a, sI_k, sI_s, sI_2]
  refine ⟨Rep_Sm h1 (Sm_sI (l := [88]) (by simp)) (by simp), Rep_Sm h2 (Sm_sI (l := [88]) (by simp)) (by simp), ?_, h4, h5, rfl, h7, h8, h9⟩
  exact RepS_Sm h3 (Sm_sI (l := [88]) (by simp)) (by simp)
theorem rdN_n {a : Nat → Int} {n p : Nat} (hp : p ≤ n) (lo hi no : Int) : (rdN a n p lo hi no).2 ≤ n := by
  by_cases q : (rdN a n p lo hi no).1 = -1
  · unfold rdN at *
    by_cases q1 : lt a n p ≠ 32
    · rw [if_pos q1]; exact hp
    rw [if_neg q1] at *
    have h1 := lt_n (a := a) (n := n) (p := p) (by omega)
    by_cases q2 : ¬ dgt a n (p + 1) = true
    · rw [if_pos q2]; exact h1
    rw [if_neg q2] at *
    by_cases q3 : (lo ≤ vl a n (p + 1) ∧ vl a n (p + 1) ≤ hi) ∧ vl a n (p + 1) ≠ no
    · rw [if_pos q3] at q
      have := vl_rng (a := a) (n := n) (p := p + 1) (by simpa using q2)
      exact absurd (show vl a n (p + 1) = -1 from q) (by omega)
    · rw [if_neg q3]; exact h1
  · exact (rdN_in q).2.1
theorem rdX_n {a : Nat → Int} {n : Nat} {K : tK} {k p : Nat} (hp : p ≤ n) : ∀ i, (rdX a n K k p i).2.2 ≤ n
  | 0 => hp
  | i + 1 => by
    have h1 := rdX_n hp i (a := a) (K := K) (k := k)
    have h2 := rdN_n h1 (a := a) (loN k i) (hiN K k i) (noN k i ((rdX a n K k p i).1 0))
    by_cases q : (rdX a n K k p i).2.1 = true
    · by_cases q2 : (rdN a n (rdX a n K k p i).2.2 (loN k i) (hiN K k i) (noN k i ((rdX a n K k p i).1 0))).1 = -1
      · rw [rdX_f q q2]; exact h2
      · rw [rdX_t q q2]; exact h2
    · rw [rdX_s (by simpa using q) 1]; exact h1
theorem mt_nn {a : Nat → Int} {n p k : Nat} (hp : p ≤ n) (hk : k < 6) : ∀ j, j ≤ txl (130 + k) → p + mt a n p k j ≤ n
  | 0, _ => hp
  | j + 1, hj => by
    have h1 := mt_nn hp hk j (by omega) (a := a)
    obtain ⟨t1, t2⟩ := tx_rng k hk
    simp only [mt]
    by_cases q : mt a n p k j = j ∧ lt a n (p + j) = txc (130 + k) j
    · rw [if_pos q]
      have t3 := t2 j (by omega) (by omega)
      have t4 := lt_n (a := a) (n := n) (p := p + j) (by omega)
      omega
    · rw [if_neg q]; exact h1
theorem rdI_n {a : Nat → Int} {n : Nat} {K : tK} {p : Nat} (hp : p ≤ n) : (rdI a n K p).2.2 ≤ n := by
  have h0 := wd_le (lt a n p)
  unfold rdI
  by_cases q1 : wd (lt a n p) = 6
  · rw [if_pos q1]; exact hp
  rw [if_neg q1]
  by_cases q2 : mt a n p (wd (lt a n p)) (txl (130 + wd (lt a n p))) ≠ txl (130 + wd (lt a n p))
  · rw [if_pos q2]; exact mt_nn hp (by omega) _ (Nat.le_refl _)
  rw [if_neg q2]
  by_cases q3 : ¬ rmK K (wd (lt a n p)) = true
  · rw [if_pos q3]; exact hp
  rw [if_neg q3]
  have h1 := mt_n (k := wd (lt a n p)) (by omega) (Classical.not_not.mp q2)
  have h2 := rdX_n h1 (a := a) (K := K) (k := wd (lt a n p)) (nNum (wd (lt a n p)))
  split <;> exact h2
theorem rdP_n {a : Nat → Int} {n : Nat} : ∀ (m : Nat) (K : tK) (p c : Nat), p ≤ n → (rdP a n m K p c).1 = false → (rdP a n m K p c).2.2 ≤ n
  | 0, K, p, c, hp, _ => hp
  | m + 1, K, p, c, hp, h => by
    have h1 := rdI_n (a := a) (K := K) hp
    simp only [rdP] at *
    by_cases q1 : (rdI a n K p).1 = true
    · rw [if_pos q1] at *
      by_cases q2 : n ≤ (rdI a n K p).2.2
      · rw [if_pos q2] at h; cases h
      · rw [if_neg q2] at *
        by_cases q3 : lt a n (rdI a n K p).2.2 = 59
        · rw [if_pos q3] at *; exact rdP_n m _ _ _ (by omega) h
        · rw [if_neg q3]; exact h1
    · rw [if_neg q1]; exact h1
theorem rdP_inv {a : Nat → Int} {n : Nat} : ∀ (m : Nat) (K : tK) (p c : Nat), kInv K → kInv (rdP a n m K p c).2.1 ∧ kC K ≤ kC (rdP a n m K p c).2.1
  | 0, K, p, c, hI => ⟨hI, Nat.le_refl _⟩
  | m + 1, K, p, c, hI => by
    obtain ⟨h1, h2⟩ := rdI_inv (a := a) (n := n) (p := p) hI
    simp only [rdP]
    by_cases q1 : (rdI a n K p).1 = true
    · rw [if_pos q1]
      by_cases q2 : n ≤ (rdI a n K p).2.2
      · rw [if_pos q2]; exact ⟨h1, h2⟩
      · rw [if_neg q2]
        by_cases q3 : lt a n (rdI a n K p).2.2 = 59
        · rw [if_pos q3]
          obtain ⟨h3, h4⟩ := rdP_inv m (rdI a n K p).2.1 ((rdI a n K p).2.2 + 1) (c + 1) h1 (a := a) (n := n)
          exact ⟨h3, by omega⟩
        · rw [if_neg q3]; exact ⟨hI, Nat.le_refl _⟩
    · rw [if_neg q1]; exact ⟨hI, Nat.le_refl _⟩
theorem c_plan {D : Nat} (hD : 10 ≤ D) {M : tM} {S : tS} (hC : RelC S M) (hI : sInv S) {s : Int} (gs : -2147483648 ≤ s ∧ s ≤ 2147483647) : okC D m_X10_plan [.ref 88, .int (iI s)] M (p_plan S s) := by
  obtain ⟨D, rfl⟩ : ∃ D0, D = D0 + 1 := ⟨D - 1, by omega⟩
  obtain ⟨c1, c2, c3, c4, c5, c6, c7, c8, c9⟩ := id hC; obtain ⟨i1, i2, i3, i4, i5, i6, i7⟩ := id hI; have n0 := kI_n i1; obtain ⟨r1, r2, r3, r4, r5, r6⟩ := R0_n c1
  have k0 := k_X10_rowRefusal (D := D) (by omega) c3 i3 gs.1 gs.2
  have k1 := rrQ_rng (stQ S) s
  have k2 := rrQ_ri (stQ S) s
  unfold p_plan
  by_cases e1 : rrQ (stQ S) s < 0
  · rw [if_pos e1]
    exact okC_rf hC (by omega) (by omega) (by simp (maxSteps := 4000000) (disch := omega) only [k0, leF (show rrQ (stQ S) s < 0 by omega), en_X10_plan, s_X10_plan_0, s_X10_plan_1, s_X10_plan_2, s_X10_plan_5, s_X10_plan_6, s_X10_plan_7, s_X10_plan_10, s_X10_plan_11, s_X10_plan_12, s_X10_plan_15, s_X10_plan_16, s_X10_plan_17, s_X10_plan_20, s_X10_plan_21, s_X10_plan_24, s_X10_plan_27, s_X10_plan_28, s_X10_plan_29, s_X10_plan_32, s_X10_plan_33, s_X10_plan_36, s_X10_plan_37, s_X10_plan_38, s_X10_plan_41, s_X10_plan_44, s_X10_plan_47, s_X10_plan_48, s_X10_plan_51, s_X10_plan_52, s_X10_plan_55, s_X10_plan_56, s_X10_plan_58, s_X10_plan_61, s_X10_plan_62, s_X10_plan_63, s_X10_plan_66, s_X10_plan_67, s_X10_plan_70, s_X10_plan_73, s_X10_plan_74, s_X10_plan_77, s_X10_plan_80, cls_88, fv_88_0, fv_88_1, fv_88_2, fv_88_3, fv_88_4, fv_88_5, fv_88_6, fv_88_7, fv_88_8, fv_88_9, fv_88_10, fv_88_11, fv_88_12, fv_88_13, fv_88_14, ak_89, al_89, cls_0, fv_0_0, fv_0_1, fv_0_2, fv_0_3, fv_0_4, fv_0_5, fv_0_6, fv_0_7, fv_0_8, fv_0_9, fv_0_10, fv_0_11, fv_0_12, fv_0_13, fv_0_14, fv_0_15, ak_1, al_1, ak_2, al_2, ak_3, al_3, ak_4, al_4, ak_5, al_5, ak_6, al_6, ak_7, al_7, ak_8, al_8, ak_9, al_9, cls_10, cls_20, cls_30, cls_42, cls_57, cls_59, cls_62, cls_80, cls_82, cls_85, cls_86, k_X10_refuse (show _ ≤ D by omega), ltT, ltF, leT, leF, eqT, eqF, iI_add, iI_sub, iI_mul, iI_neg, iI_lt, iI_le, iI_eq, iI_toInt, tn_n, tn_1, inb_I, Int.reduceEq, Int.reduceLT, Int.reduceLE, Int.reduceAdd, Int.reduceSub, Int.reduceMul, Int.reduceNeg, Int.reduceToNat, Nat.reduceAdd, Nat.reduceMul, Int.reduceNatCast, reduceCtorEq, Int.cast_ofNat_Int, bi_tr, bi_fa, bi_0, bi_1, not_true_eq_false, not_false_eq_true, rnk_v, rnk_n, ↓reduceIte, i00, i11, ibi, or_true, true_or, and_true, true_and, List.cons_append, List.nil_append, Option.toList, nop])
  rw [if_neg e1]
  obtain ⟨k3, k4, k5⟩ := k2.2 e1
  have e2 : rrQ (stQ S) s = 0 := by omega
  rw [e2] at k0
  obtain ⟨u, rfl⟩ : ∃ u : Nat, s = u := ⟨s.toNat, by omega⟩
  simp only [Int.toNat_natCast] at *
  obtain ⟨M1, a1, a2, a3⟩ := k_X4_takeOver (D := D) (by omega) h20 h0 (by omega) c1 i1
  have w1 : RepS M1 (stQ S) := RepS_Sm c3 a3 (by simp)
  obtain ⟨M2, b1, b2, b3⟩ := k_X6_findFault (D := D) (by omega) a2 i1 w1 i3 (s := u) (by omega) k5
  have hn := (i3 u (by omega)).2
  have s2 : Sm [20, 21, 22, 23, 24, 25, 26, 27, 28, 29, 82, 83, 84] M M2 := Sm_tr (Sm_mono (by simp) a3) b3
  have R2 : RelC S M2 := RelC_scr hC s2 (by simp)
  have v1 := rdP_inv (a := qI (stQ S) u) (n := qN (stQ S) u) 161 (stK S) 0 0 i1
  have v2 := rdP_n (a := qI (stQ S) u) (n := qN (stQ S) u) 161 (stK S) 0 0 (by omega)
  generalize rdP (qI (stQ S) u) (qN (stQ S) u) 161 (stK S) 0 0 = W at *
  by_cases q1 : W.1 = true
  · rw [if_pos q1] at *
    obtain ⟨b4, b5⟩ := b2 q1
    have R3 := RelC_F R2 (-1)
    have s3 : Sm [88] M2 (sI M2 88 14 (iI (-1))) := Sm_sI (by simp)
    obtain ⟨M4, d1, d2, d3⟩ := k_X4_takeOver (D := D) (by omega) h0 h20 (by omega) (Rep_o h20 b4 s3 (by simp)) v1.1
    refine ⟨M4, ?_, RelC_K R3 d2 d3 (by simp), SmC_tr (SmC_of s2 (by simp)) (SmC_tr (SmC_of s3 (by simp)) (SmC_of d3 (by simp)))⟩
    have e5 : M4.1 82 5 = iI W.2.2 := by rw [(d3 82 (by simp)).1, sI_a _ _ (by omega)]; exact b5
    simp (maxSteps := 4000000) (disch := omega) only [k0, a1, b1, d1, e5, sI_s, cls_82, fv_82_0, fv_82_1, fv_82_2, fv_82_3, fv_82_4, fv_82_5, en_X10_plan, s_X10_plan_0, s_X10_plan_1, s_X10_plan_2, s_X10_plan_5, s_X10_plan_6, s_X10_plan_7, s_X10_plan_10, s_X10_plan_11, s_X10_plan_12, s_X10_plan_15, s_X10_plan_16, s_X10_plan_17, s_X10_plan_20, s_X10_plan_21, s_X10_plan_24, s_X10_plan_27, s_X10_plan_28, s_X10_plan_29, s_X10_plan_32, s_X10_plan_33, s_X10_plan_36, s_X10_plan_37, s_X10_plan_38, s_X10_plan_41, s_X10_plan_44, s_X10_plan_47, s_X10_plan_48, s_X10_plan_51, s_X10_plan_52, s_X10_plan_55, s_X10_plan_56, s_X10_plan_58, s_X10_plan_61, s_X10_plan_62, s_X10_plan_63, s_X10_plan_66, s_X10_plan_67, s_X10_plan_70, s_X10_plan_73, s_X10_plan_74, s_X10_plan_77, s_X10_plan_80, cls_88, fv_88_0, fv_88_1, fv_88_2, fv_88_3, fv_88_4, fv_88_5, fv_88_6, fv_88_7, fv_88_8, fv_88_9, fv_88_10, fv_88_11, fv_88_12, fv_88_13, fv_88_14, ak_89, al_89, cls_0, fv_0_0, fv_0_1, fv_0_2, fv_0_3, fv_0_4, fv_0_5, fv_0_6, fv_0_7, fv_0_8, fv_0_9, fv_0_10, fv_0_11, fv_0_12, fv_0_13, fv_0_14, fv_0_15, ak_1, al_1, ak_2, al_2, ak_3, al_3, ak_4, al_4, ak_5, al_5, ak_6, al_6, ak_7, al_7, ak_8, al_8, ak_9, al_9, cls_10, cls_20, cls_30, cls_42, cls_57, cls_59, cls_62, cls_80, cls_82, cls_85, cls_86, k_X10_refuse (show _ ≤ D by omega), ltT, ltF, leT, leF, eqT, eqF, iI_add, iI_sub, iI_mul, iI_neg, iI_lt, iI_le, iI_eq, iI_toInt, tn_n, tn_1, inb_I, Int.reduceEq, Int.reduceLT, Int.reduceLE, Int.reduceAdd, Int.reduceSub, Int.reduceMul, Int.reduceNeg, Int.reduceToNat, Nat.reduceAdd, Nat.reduceMul, Int.reduceNatCast, reduceCtorEq, Int.cast_ofNat_Int, bi_tr, bi_fa, bi_0, bi_1, not_true_eq_false, not_false_eq_true, rnk_v, rnk_n, ↓reduceIte, i00, i11, ibi, or_true, true_or, and_true, true_and, List.cons_append, List.nil_append, Option.toList, nop]
  · rw [if_neg q1] at *
    have v3 := v2 (by simpa using q1)
    have R3 := RelC_F R2 (W.2.2 : Int)
    have s3 : Sm [88] M2 (sI M2 88 14 (iI W.2.2)) := Sm_sI (by simp)
    refine ⟨rfM (sI M2 88 14 (iI W.2.2)) 6, ?_, RelC_rf R3 (by omega) (by omega), SmC_tr (SmC_of s2 (by simp)) (SmC_tr (SmC_of s3 (by simp)) (SmC_rfM _ _))⟩
    simp (maxSteps := 4000000) (disch := omega) only [k0, a1, b1, sI_s, eqF (show ¬ (W.2.2 : Int) = -1 by omega), cls_82, fv_82_0, fv_82_1, fv_82_2, fv_82_3, fv_82_4, fv_82_5, en_X10_plan, s_X10_plan_0, s_X10_plan_1, s_X10_plan_2, s_X10_plan_5, s_X10_plan_6, s_X10_plan_7, s_X10_plan_10, s_X10_plan_11, s_X10_plan_12, s_X10_plan_15, s_X10_plan_16, s_X10_plan_17, s_X10_plan_20, s_X10_plan_21, s_X10_plan_24, s_X10_plan_27, s_X10_plan_28, s_X10_plan_29, s_X10_plan_32, s_X10_plan_33, s_X10_plan_36, s_X10_plan_37, s_X10_plan_38, s_X10_plan_41, s_X10_plan_44, s_X10_plan_47, s_X10_plan_48, s_X10_plan_51, s_X10_plan_52, s_X10_plan_55, s_X10_plan_56, s_X10_plan_58, s_X10_plan_61, s_X10_plan_62, s_X10_plan_63, s_X10_plan_66, s_X10_plan_67, s_X10_plan_70, s_X10_plan_73, s_X10_plan_74, s_X10_plan_77, s_X10_plan_80, cls_88, fv_88_0, fv_88_1, fv_88_2, fv_88_3, fv_88_4, fv_88_5, fv_88_6, fv_88_7, fv_88_8, fv_88_9, fv_88_10, fv_88_11, fv_88_12, fv_88_13, fv_88_14, ak_89, al_89, cls_0, fv_0_0, fv_0_1, fv_0_2, fv_0_3, fv_0_4, fv_0_5, fv_0_6, fv_0_7, fv_0_8, fv_0_9, fv_0_10, fv_0_11, fv_0_12, fv_0_13, fv_0_14, fv_0_15, ak_1, al_1, ak_2, al_2, ak_3, al_3, ak_4, al_4, ak_5, al_5, ak_6, al_6, ak_7, al_7, ak_8, al_8, ak_9, al_9, cls_10, cls_20, cls_30, cls_42, cls_57, cls_59, cls_62, cls_80, cls_82, cls_85, cls_86, k_X10_refuse (show _ ≤ D by omega), ltT, ltF, leT, leF, eqT, eqF, iI_add, iI_sub, iI_mul, iI_neg, iI_lt, iI_le, iI_eq, iI_toInt, tn_n, tn_1, inb_I, Int.reduceEq, Int.reduceLT, Int.reduceLE, Int.reduceAdd, Int.reduceSub, Int.reduceMul, Int.reduceNeg, Int.reduceToNat, Nat.reduceAdd, Nat.reduceMul, Int.reduceNatCast, reduceCtorEq, Int.cast_ofNat_Int, bi_tr, bi_fa, bi_0, bi_1, not_true_eq_false, not_false_eq_true, rnk_v, rnk_n, ↓reduceIte, i00, i11, ibi, or_true, true_or, and_true, true_and, List.cons_append, List.nil_append, Option.toList, nop]
    try rfl
