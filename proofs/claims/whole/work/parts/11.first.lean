/-! the least methods of the ministry -/
theorem cup_rng {x p : Int} (h1 : 1 ≤ x) (h2 : x ≤ 81) (h3 : 1 ≤ p) (h4 : p ≤ 9) : 1 ≤ cup x p ∧ cup x p ≤ 81 := by
  unfold cup
  constructor
  · rw [Int.le_ediv_iff_mul_le (by omega)]; omega
  · have : (x + p - 1) / p ≤ (x + p - 1 + (81 * (p - 1) - (p - 1) * x + (x - 1) * (p - 1))) / p := by
      apply Int.ediv_le_ediv (by omega)
      have h5 : (p - 1) * x = (x - 1) * (p - 1) + (p - 1) := by rw [Int.sub_mul x 1, Int.mul_comm]; omega
      omega
    have e : x + p - 1 ≤ 81 * p := by
      have : p * 1 ≤ p * 80 + 0 := by omega
      omega
    have := Int.ediv_le_ediv (show 0 < p by omega) e
    rw [Int.mul_ediv_cancel _ (by omega)] at this
    exact this
theorem lw_rng {a b : Nat} (h1 : 1 ≤ a) (h2 : a ≤ 9) (h3 : 1 ≤ b) (h4 : b ≤ 9) : 1 ≤ (a : Int) * (b : Int) ∧ (a : Int) * (b : Int) ≤ 81 := by
  have h5 : a * b ≤ 9 * 9 := Nat.mul_le_mul h2 h4
  have h6 : 1 * 1 ≤ a * b := Nat.mul_le_mul h1 h3
  constructor
  · have : ((1 * 1 : Nat) : Int) ≤ ((a * b : Nat) : Int) := Int.ofNat_le.mpr h6
    rw [Int.natCast_mul a b] at this
    simpa using this
  · have : ((a * b : Nat) : Int) ≤ ((9 * 9 : Nat) : Int) := Int.ofNat_le.mpr h5
    rw [Int.natCast_mul a b] at this
    simpa using this
theorem tmK_rng {K : tK} (hI : kInv K) {c t : Nat} (hc : c < kC K) (ht : t < kT K) {p : Int} (h1 : 1 ≤ p) (h2 : p ≤ 9) : 1 ≤ tmK K c t p ∧ tmK K c t p ≤ 90 := by
  have g1 := kI_t hI ht
  have g2 := kI_c hI hc
  obtain ⟨g3, g4⟩ := lw_rng g1.2.1.1 g1.2.1.2 g2.2.2.1.1 g2.2.2.1.2
  obtain ⟨q1, q2⟩ := cup_rng g3 g4 h1 h2
  obtain ⟨q3, q4⟩ := cup_rng g3 g4 (show 1 ≤ 10 - p by omega) (show 10 - p ≤ 9 by omega)
  unfold tmK
  (repeat' split) <;> omega
theorem k_X4_hasDesk {D : Nat} (hD : 1 ≤ D) {M : tM} {b : Nat} {K : tK} (hb : isMin b) (hR : Rep M b K) (hI : kInv K) (d : Int) (h1 : -2147483648 ≤ d) (h2 : d ≤ 2147483647) : exF D m_X4_hasDesk [.ref b, .int (iI d)] M = some (some (.int (bi (0 ≤ d ∧ d < (kD K : Int)))), M) := by
  obtain ⟨D, rfl⟩ : ∃ D0, D = D0 + 1 := ⟨D - 1, by omega⟩
  have g1 := hR.1.1
  have g2 := hI.1
  simp (maxSteps := 4000000) (disch := omega) only [en_X4_hasDesk, s_X4_hasDesk_0, s_X4_hasDesk_1, s_X4_hasDesk_4, s_X4_hasDesk_5, s_X4_hasDesk_6, s_X4_hasDesk_9, s_X4_hasDesk_12, s_X4_hasDesk_13, s_X4_hasDesk_16, s_X4_hasDesk_17, mn_cls hb, mn_fv0 hb, mn_fv1 hb, mn_fv2 hb, mn_fv3 hb, mn_fv4 hb, mn_fv5 hb, mn_fv6 hb, mn_fv7 hb, mn_fv8 hb, mn_fv9 hb, mn_fv10 hb, mn_fv11 hb, mn_fv12 hb, mn_fv13 hb, mn_fv14 hb, mn_fv15 hb, mn_ak1 hb, mn_al1 hb, mn_ak2 hb, mn_al2 hb, mn_ak3 hb, mn_al3 hb, mn_ak4 hb, mn_al4 hb, mn_ak5 hb, mn_al5 hb, mn_ak6 hb, mn_al6 hb, mn_ak7 hb, mn_al7 hb, mn_ak8 hb, mn_al8 hb, mn_ak9 hb, mn_al9 hb, g1, iI_add, iI_sub, iI_mul, iI_neg, iI_lt, iI_le, iI_eq, iI_toInt, tn_n, tn_1, inb_I, Int.reduceEq, Int.reduceLT, Int.reduceLE, Int.reduceAdd, Int.reduceSub, Int.reduceMul, Int.reduceNeg, Int.reduceToNat, Nat.reduceAdd, Nat.reduceMul, Int.reduceNatCast, reduceCtorEq, Int.cast_ofNat_Int, bi_tr, bi_fa, bi_0, bi_1, not_true_eq_false, not_false_eq_true, rnk_v, rnk_n, ↓reduceIte, i00, i11, ibi, or_true, true_or, and_true, true_and, List.cons_append, List.nil_append, Option.toList]
  unfold bi
  (repeat' split) <;> first | rfl | (exfalso; omega) | (refine congrArg (fun z => some (some (Value.int (iI z)), M)) ?_; omega)
theorem k_X4_hasTube {D : Nat} (hD : 1 ≤ D) {M : tM} {b : Nat} {K : tK} (hb : isMin b) (hR : Rep M b K) (hI : kInv K) (d : Int) (h1 : -2147483648 ≤ d) (h2 : d ≤ 2147483647) : exF D m_X4_hasTube [.ref b, .int (iI d)] M = some (some (.int (bi (0 ≤ d ∧ d < (kT K : Int)))), M) := by
  obtain ⟨D, rfl⟩ : ∃ D0, D = D0 + 1 := ⟨D - 1, by omega⟩
  have g1 := hR.1.2.1
  have g2 := hI.2.1
  simp (maxSteps := 4000000) (disch := omega) only [en_X4_hasTube, s_X4_hasTube_0, s_X4_hasTube_1, s_X4_hasTube_4, s_X4_hasTube_5, s_X4_hasTube_6, s_X4_hasTube_9, s_X4_hasTube_12, s_X4_hasTube_13, s_X4_hasTube_16, s_X4_hasTube_17, mn_cls hb, mn_fv0 hb, mn_fv1 hb, mn_fv2 hb, mn_fv3 hb, mn_fv4 hb, mn_fv5 hb, mn_fv6 hb, mn_fv7 hb, mn_fv8 hb, mn_fv9 hb, mn_fv10 hb, mn_fv11 hb, mn_fv12 hb, mn_fv13 hb, mn_fv14 hb, mn_fv15 hb, mn_ak1 hb, mn_al1 hb, mn_ak2 hb, mn_al2 hb, mn_ak3 hb, mn_al3 hb, mn_ak4 hb, mn_al4 hb, mn_ak5 hb, mn_al5 hb, mn_ak6 hb, mn_al6 hb, mn_ak7 hb, mn_al7 hb, mn_ak8 hb, mn_al8 hb, mn_ak9 hb, mn_al9 hb, g1, iI_add, iI_sub, iI_mul, iI_neg, iI_lt, iI_le, iI_eq, iI_toInt, tn_n, tn_1, inb_I, Int.reduceEq, Int.reduceLT, Int.reduceLE, Int.reduceAdd, Int.reduceSub, Int.reduceMul, Int.reduceNeg, Int.reduceToNat, Nat.reduceAdd, Nat.reduceMul, Int.reduceNatCast, reduceCtorEq, Int.cast_ofNat_Int, bi_tr, bi_fa, bi_0, bi_1, not_true_eq_false, not_false_eq_true, rnk_v, rnk_n, ↓reduceIte, i00, i11, ibi, or_true, true_or, and_true, true_and, List.cons_append, List.nil_append, Option.toList]
  unfold bi
  (repeat' split) <;> first | rfl | (exfalso; omega) | (refine congrArg (fun z => some (some (Value.int (iI z)), M)) ?_; omega)
theorem k_X4_hasCapsule {D : Nat} (hD : 1 ≤ D) {M : tM} {b : Nat} {K : tK} (hb : isMin b) (hR : Rep M b K) (hI : kInv K) (d : Int) (h1 : -2147483648 ≤ d) (h2 : d ≤ 2147483647) : exF D m_X4_hasCapsule [.ref b, .int (iI d)] M = some (some (.int (bi (0 ≤ d ∧ d < (kC K : Int)))), M) := by
  obtain ⟨D, rfl⟩ : ∃ D0, D = D0 + 1 := ⟨D - 1, by omega⟩
  have g1 := hR.1.2.2.1
  have g2 := hI.2.2.1
  simp (maxSteps := 4000000) (disch := omega) only [en_X4_hasCapsule, s_X4_hasCapsule_0, s_X4_hasCapsule_1, s_X4_hasCapsule_4, s_X4_hasCapsule_5, s_X4_hasCapsule_6, s_X4_hasCapsule_9, s_X4_hasCapsule_12, s_X4_hasCapsule_13, s_X4_hasCapsule_16, s_X4_hasCapsule_17, mn_cls hb, mn_fv0 hb, mn_fv1 hb, mn_fv2 hb, mn_fv3 hb, mn_fv4 hb, mn_fv5 hb, mn_fv6 hb, mn_fv7 hb, mn_fv8 hb, mn_fv9 hb, mn_fv10 hb, mn_fv11 hb, mn_fv12 hb, mn_fv13 hb, mn_fv14 hb, mn_fv15 hb, mn_ak1 hb, mn_al1 hb, mn_ak2 hb, mn_al2 hb, mn_ak3 hb, mn_al3 hb, mn_ak4 hb, mn_al4 hb, mn_ak5 hb, mn_al5 hb, mn_ak6 hb, mn_al6 hb, mn_ak7 hb, mn_al7 hb, mn_ak8 hb, mn_al8 hb, mn_ak9 hb, mn_al9 hb, g1, iI_add, iI_sub, iI_mul, iI_neg, iI_lt, iI_le, iI_eq, iI_toInt, tn_n, tn_1, inb_I, Int.reduceEq, Int.reduceLT, Int.reduceLE, Int.reduceAdd, Int.reduceSub, Int.reduceMul, Int.reduceNeg, Int.reduceToNat, Nat.reduceAdd, Nat.reduceMul, Int.reduceNatCast, reduceCtorEq, Int.cast_ofNat_Int, bi_tr, bi_fa, bi_0, bi_1, not_true_eq_false, not_false_eq_true, rnk_v, rnk_n, ↓reduceIte, i00, i11, ibi, or_true, true_or, and_true, true_and, List.cons_append, List.nil_append, Option.toList]
  unfold bi
  (repeat' split) <;> first | rfl | (exfalso; omega) | (refine congrArg (fun z => some (some (Value.int (iI z)), M)) ?_; omega)
theorem k_X4_hasRoomForDesk {D : Nat} (hD : 1 ≤ D) {M : tM} {b : Nat} {K : tK} (hb : isMin b) (hR : Rep M b K) (hI : kInv K) : exF D m_X4_hasRoomForDesk [.ref b] M = some (some (.int (bi (kD K < 8))), M) := by
  obtain ⟨D, rfl⟩ : ∃ D0, D = D0 + 1 := ⟨D - 1, by omega⟩
  have g1 := hR.1.1
  have g2 := kI_n hI
  simp (maxSteps := 4000000) (disch := omega) only [en_X4_hasRoomForDesk, s_X4_hasRoomForDesk_0, s_X4_hasRoomForDesk_1, s_X4_hasRoomForDesk_4, s_X4_hasRoomForDesk_6, s_X4_hasRoomForDesk_9, s_X4_hasRoomForDesk_10, s_X4_hasRoomForDesk_13, s_X4_hasRoomForDesk_14, mn_cls hb, mn_fv0 hb, mn_fv1 hb, mn_fv2 hb, mn_fv3 hb, mn_fv4 hb, mn_fv5 hb, mn_fv6 hb, mn_fv7 hb, mn_fv8 hb, mn_fv9 hb, mn_fv10 hb, mn_fv11 hb, mn_fv12 hb, mn_fv13 hb, mn_fv14 hb, mn_fv15 hb, mn_ak1 hb, mn_al1 hb, mn_ak2 hb, mn_al2 hb, mn_ak3 hb, mn_al3 hb, mn_ak4 hb, mn_al4 hb, mn_ak5 hb, mn_al5 hb, mn_ak6 hb, mn_al6 hb, mn_ak7 hb, mn_al7 hb, mn_ak8 hb, mn_al8 hb, mn_ak9 hb, mn_al9 hb, g1, iI_add, iI_sub, iI_mul, iI_neg, iI_lt, iI_le, iI_eq, iI_toInt, tn_n, tn_1, inb_I, Int.reduceEq, Int.reduceLT, Int.reduceLE, Int.reduceAdd, Int.reduceSub, Int.reduceMul, Int.reduceNeg, Int.reduceToNat, Nat.reduceAdd, Nat.reduceMul, Int.reduceNatCast, reduceCtorEq, Int.cast_ofNat_Int, bi_tr, bi_fa, bi_0, bi_1, not_true_eq_false, not_false_eq_true, rnk_v, rnk_n, ↓reduceIte, i00, i11, ibi, or_true, true_or, and_true, true_and, List.cons_append, List.nil_append, Option.toList]
  unfold bi
  (repeat' split) <;> first | rfl | (exfalso; omega) | (refine congrArg (fun z => some (some (Value.int (iI z)), M)) ?_; omega)
theorem k_X4_hasRoomForTube {D : Nat} (hD : 1 ≤ D) {M : tM} {b : Nat} {K : tK} (hb : isMin b) (hR : Rep M b K) (hI : kInv K) : exF D m_X4_hasRoomForTube [.ref b] M = some (some (.int (bi (kT K < 16))), M) := by
  obtain ⟨D, rfl⟩ : ∃ D0, D = D0 + 1 := ⟨D - 1, by omega⟩
  have g1 := hR.1.2.1
  have g2 := kI_n hI
  simp (maxSteps := 4000000) (disch := omega) only [en_X4_hasRoomForTube, s_X4_hasRoomForTube_0, s_X4_hasRoomForTube_1, s_X4_hasRoomForTube_4, s_X4_hasRoomForTube_6, s_X4_hasRoomForTube_9, s_X4_hasRoomForTube_10, s_X4_hasRoomForTube_13, s_X4_hasRoomForTube_14, mn_cls hb, mn_fv0 hb, mn_fv1 hb, mn_fv2 hb, mn_fv3 hb, mn_fv4 hb, mn_fv5 hb, mn_fv6 hb, mn_fv7 hb, mn_fv8 hb, mn_fv9 hb, mn_fv10 hb, mn_fv11 hb, mn_fv12 hb, mn_fv13 hb, mn_fv14 hb, mn_fv15 hb, mn_ak1 hb, mn_al1 hb, mn_ak2 hb, mn_al2 hb, mn_ak3 hb, mn_al3 hb, mn_ak4 hb, mn_al4 hb, mn_ak5 hb, mn_al5 hb, mn_ak6 hb, mn_al6 hb, mn_ak7 hb, mn_al7 hb, mn_ak8 hb, mn_al8 hb, mn_ak9 hb, mn_al9 hb, g1, iI_add, iI_sub, iI_mul, iI_neg, iI_lt, iI_le, iI_eq, iI_toInt, tn_n, tn_1, inb_I, Int.reduceEq, Int.reduceLT, Int.reduceLE, Int.reduceAdd, Int.reduceSub, Int.reduceMul, Int.reduceNeg, Int.reduceToNat, Nat.reduceAdd, Nat.reduceMul, Int.reduceNatCast, reduceCtorEq, Int.cast_ofNat_Int, bi_tr, bi_fa, bi_0, bi_1, not_true_eq_false, not_false_eq_true, rnk_v, rnk_n, ↓reduceIte, i00, i11, ibi, or_true, true_or, and_true, true_and, List.cons_append, List.nil_append, Option.toList]
  unfold bi
  (repeat' split) <;> first | rfl | (exfalso; omega) | (refine congrArg (fun z => some (some (Value.int (iI z)), M)) ?_; omega)
theorem k_X4_hasRoomForCapsule {D : Nat} (hD : 1 ≤ D) {M : tM} {b : Nat} {K : tK} (hb : isMin b) (hR : Rep M b K) (hI : kInv K) : exF D m_X4_hasRoomForCapsule [.ref b] M = some (some (.int (bi (kC K < 5))), M) := by
  obtain ⟨D, rfl⟩ : ∃ D0, D = D0 + 1 := ⟨D - 1, by omega⟩
  have g1 := hR.1.2.2.1
  have g2 := kI_n hI
  simp (maxSteps := 4000000) (disch := omega) only [en_X4_hasRoomForCapsule, s_X4_hasRoomForCapsule_0, s_X4_hasRoomForCapsule_1, s_X4_hasRoomForCapsule_4, s_X4_hasRoomForCapsule_5, s_X4_hasRoomForCapsule_8, s_X4_hasRoomForCapsule_9, s_X4_hasRoomForCapsule_12, s_X4_hasRoomForCapsule_13, mn_cls hb, mn_fv0 hb, mn_fv1 hb, mn_fv2 hb, mn_fv3 hb, mn_fv4 hb, mn_fv5 hb, mn_fv6 hb, mn_fv7 hb, mn_fv8 hb, mn_fv9 hb, mn_fv10 hb, mn_fv11 hb, mn_fv12 hb, mn_fv13 hb, mn_fv14 hb, mn_fv15 hb, mn_ak1 hb, mn_al1 hb, mn_ak2 hb, mn_al2 hb, mn_ak3 hb, mn_al3 hb, mn_ak4 hb, mn_al4 hb, mn_ak5 hb, mn_al5 hb, mn_ak6 hb, mn_al6 hb, mn_ak7 hb, mn_al7 hb, mn_ak8 hb, mn_al8 hb, mn_ak9 hb, mn_al9 hb, g1, iI_add, iI_sub, iI_mul, iI_neg, iI_lt, iI_le, iI_eq, iI_toInt, tn_n, tn_1, inb_I, Int.reduceEq, Int.reduceLT, Int.reduceLE, Int.reduceAdd, Int.reduceSub, Int.reduceMul, Int.reduceNeg, Int.reduceToNat, Nat.reduceAdd, Nat.reduceMul, Int.reduceNatCast, reduceCtorEq, Int.cast_ofNat_Int, bi_tr, bi_fa, bi_0, bi_1, not_true_eq_false, not_false_eq_true, rnk_v, rnk_n, ↓reduceIte, i00, i11, ibi, or_true, true_or, and_true, true_and, List.cons_append, List.nil_append, Option.toList]
  unfold bi
  (repeat' split) <;> first | rfl | (exfalso; omega) | (refine congrArg (fun z => some (some (Value.int (iI z)), M)) ?_; omega)
theorem k_X4_dividedUpward {D : Nat} (hD : 1 ≤ D) {M : tM} (x p : Int) (h1 : 1 ≤ x) (h2 : x ≤ 81) (h3 : 1 ≤ p) (h4 : p ≤ 9) : exF D m_X4_dividedUpward [.int (iI x), .int (iI p)] M = some (some (.int (iI (cup x p))), M) := by
  obtain ⟨D, rfl⟩ : ∃ D0, D = D0 + 1 := ⟨D - 1, by omega⟩
  simp (maxSteps := 4000000) (disch := omega) only [en_X4_dividedUpward, s_X4_dividedUpward_0, s_X4_dividedUpward_1, s_X4_dividedUpward_4, s_X4_dividedUpward_5, s_X4_dividedUpward_6, s_X4_dividedUpward_7, s_X4_dividedUpward_8, s_X4_dividedUpward_9, s_X4_dividedUpward_10, s_X4_dividedUpward_11, s_X4_dividedUpward_14, s_X4_dividedUpward_17, iI_div, iI_add, iI_sub, iI_mul, iI_neg, iI_lt, iI_le, iI_eq, iI_toInt, tn_n, tn_1, inb_I, Int.reduceEq, Int.reduceLT, Int.reduceLE, Int.reduceAdd, Int.reduceSub, Int.reduceMul, Int.reduceNeg, Int.reduceToNat, Nat.reduceAdd, Nat.reduceMul, Int.reduceNatCast, reduceCtorEq, Int.cast_ofNat_Int, bi_tr, bi_fa, bi_0, bi_1, not_true_eq_false, not_false_eq_true, rnk_v, rnk_n, ↓reduceIte, i00, i11, ibi, or_true, true_or, and_true, true_and, List.cons_append, List.nil_append, Option.toList]
  unfold cup
  (repeat' split) <;> first | rfl | (exfalso; omega) | (refine congrArg (fun z => some (some (Value.int (iI z)), M)) ?_; omega)
theorem k_X10_isOneToNine {D : Nat} (hD : 1 ≤ D) {M : tM} (v : Int) (h1 : -2147483648 ≤ v) (h2 : v ≤ 2147483647) : exF D m_X10_isOneToNine [.int (iI v)] M = some (some (.int (bi (1 ≤ v ∧ v ≤ 9))), M) := by
  obtain ⟨D, rfl⟩ : ∃ D0, D = D0 + 1 := ⟨D - 1, by omega⟩
  simp (maxSteps := 4000000) (disch := omega) only [en_X10_isOneToNine, s_X10_isOneToNine_0, s_X10_isOneToNine_1, s_X10_isOneToNine_2, s_X10_isOneToNine_5, s_X10_isOneToNine_6, s_X10_isOneToNine_8, s_X10_isOneToNine_11, s_X10_isOneToNine_12, s_X10_isOneToNine_15, s_X10_isOneToNine_16, iI_add, iI_sub, iI_mul, iI_neg, iI_lt, iI_le, iI_eq, iI_toInt, tn_n, tn_1, inb_I, Int.reduceEq, Int.reduceLT, Int.reduceLE, Int.reduceAdd, Int.reduceSub, Int.reduceMul, Int.reduceNeg, Int.reduceToNat, Nat.reduceAdd, Nat.reduceMul, Int.reduceNatCast, reduceCtorEq, Int.cast_ofNat_Int, bi_tr, bi_fa, bi_0, bi_1, not_true_eq_false, not_false_eq_true, rnk_v, rnk_n, ↓reduceIte, i00, i11, ibi, or_true, true_or, and_true, true_and, List.cons_append, List.nil_append, Option.toList]
  unfold bi
  (repeat' split) <;> first | rfl | (exfalso; omega) | (refine congrArg (fun z => some (some (Value.int (iI z)), M)) ?_; omega)
theorem k_X4_minutesThrough {D : Nat} (hD : 2 ≤ D) {M : tM} {b : Nat} {K : tK} (hb : isMin b) (hR : Rep M b K) (hI : kInv K) {c t : Nat} (hc : c < kC K) (ht : t < kT K) (p : Int) (h1 : 1 ≤ p) (h2 : p ≤ 9) : exF D m_X4_minutesThrough [.ref b, .int (iI c), .int (iI t), .int (iI p)] M = some (some (.int (iI (tmK K c t p))), M) := by
  obtain ⟨D, rfl⟩ : ∃ D0, D = D0 + 1 := ⟨D - 1, by omega⟩
  have g1 := kI_n hI
  have g2 := kI_t hI ht
  have g3 := kI_c hI hc
  obtain ⟨e1, e2, e3, e4⟩ := hR.2.2.2 c hc
  obtain ⟨f1, f2, f3, f4⟩ := hR.2.2.1 t ht
  obtain ⟨q1, q2⟩ := lw_rng g2.2.1.1 g2.2.1.2 g3.2.2.1.1 g3.2.2.1.2
  have q3 := cup_rng q1 q2 h1 h2
  have q4 := cup_rng q1 q2 (show 1 ≤ 10 - p by omega) (show 10 - p ≤ 9 by omega)
  have z1 : (0 ≤ (c : Int) ∧ (c : Int) < (kC K : Int)) := by omega
  have z2 : (0 ≤ (t : Int) ∧ (t : Int) < (kT K : Int)) := by omega
  simp (maxSteps := 4000000) (disch := omega) only [en_X4_minutesThrough, s_X4_minutesThrough_0, s_X4_minutesThrough_1, s_X4_minutesThrough_2, s_X4_minutesThrough_5, s_X4_minutesThrough_8, s_X4_minutesThrough_9, s_X4_minutesThrough_10, s_X4_minutesThrough_13, s_X4_minutesThrough_16, s_X4_minutesThrough_17, s_X4_minutesThrough_20, s_X4_minutesThrough_23, s_X4_minutesThrough_26, s_X4_minutesThrough_27, s_X4_minutesThrough_28, s_X4_minutesThrough_31, s_X4_minutesThrough_32, s_X4_minutesThrough_33, s_X4_minutesThrough_34, s_X4_minutesThrough_37, s_X4_minutesThrough_38, s_X4_minutesThrough_39, s_X4_minutesThrough_40, s_X4_minutesThrough_42, s_X4_minutesThrough_43, s_X4_minutesThrough_46, s_X4_minutesThrough_47, s_X4_minutesThrough_48, s_X4_minutesThrough_88, s_X4_minutesThrough_89, s_X4_minutesThrough_91, s_X4_minutesThrough_92, s_X4_minutesThrough_95, s_X4_minutesThrough_96, s_X4_minutesThrough_97, s_X4_minutesThrough_100, s_X4_minutesThrough_101, s_X4_minutesThrough_102, s_X4_minutesThrough_104, s_X4_minutesThrough_106, s_X4_minutesThrough_107, s_X4_minutesThrough_108, s_X4_minutesThrough_111, s_X4_minutesThrough_112, s_X4_minutesThrough_113, s_X4_minutesThrough_116, s_X4_minutesThrough_117, s_X4_minutesThrough_118, s_X4_minutesThrough_120, s_X4_minutesThrough_122, s_X4_minutesThrough_123, s_X4_minutesThrough_124, s_X4_minutesThrough_127, s_X4_minutesThrough_128, s_X4_minutesThrough_129, s_X4_minutesThrough_132, s_X4_minutesThrough_133, s_X4_minutesThrough_136, s_X4_minutesThrough_137, s_X4_minutesThrough_138, s_X4_minutesThrough_139, s_X4_minutesThrough_142, s_X4_minutesThrough_143, s_X4_minutesThrough_144, s_X4_minutesThrough_147, s_X4_minutesThrough_148, s_X4_minutesThrough_151, s_X4_minutesThrough_152, s_X4_minutesThrough_153, s_X4_minutesThrough_154, s_X4_minutesThrough_156, s_X4_minutesThrough_157, s_X4_minutesThrough_160, s_X4_minutesThrough_161, s_X4_minutesThrough_164, s_X4_minutesThrough_165, s_X4_minutesThrough_166, s_X4_minutesThrough_167, s_X4_minutesThrough_168, s_X4_minutesThrough_169, s_X4_minutesThrough_172, s_X4_minutesThrough_173, s_X4_minutesThrough_174, s_X4_minutesThrough_175, s_X4_minutesThrough_177, s_X4_minutesThrough_178, s_X4_minutesThrough_181, mn_cls hb, mn_fv0 hb, mn_fv1 hb, mn_fv2 hb, mn_fv3 hb, mn_fv4 hb, mn_fv5 hb, mn_fv6 hb, mn_fv7 hb, mn_fv8 hb, mn_fv9 hb, mn_fv10 hb, mn_fv11 hb, mn_fv12 hb, mn_fv13 hb, mn_fv14 hb, mn_fv15 hb, mn_ak1 hb, mn_al1 hb, mn_ak2 hb, mn_al2 hb, mn_ak3 hb, mn_al3 hb, mn_ak4 hb, mn_al4 hb, mn_ak5 hb, mn_al5 hb, mn_ak6 hb, mn_al6 hb, mn_ak7 hb, mn_al7 hb, mn_ak8 hb, mn_al8 hb, mn_ak9 hb, mn_al9 hb, k_X4_hasCapsule (show _ ≤ D by omega) hb hR hI, k_X4_hasTube (show _ ≤ D by omega) hb hR hI, k_X10_isOneToNine (show _ ≤ D by omega), k_X4_dividedUpward (show _ ≤ D by omega), bi_t z1, bi_t z2, bi_t (show 1 ≤ p ∧ p ≤ 9 from ⟨h1, h2⟩), e1, e2, e3, e4, f1, f2, f3, f4, mxI_iI, iI_add, iI_sub, iI_mul, iI_neg, iI_lt, iI_le, iI_eq, iI_toInt, tn_n, tn_1, inb_I, Int.reduceEq, Int.reduceLT, Int.reduceLE, Int.reduceAdd, Int.reduceSub, Int.reduceMul, Int.reduceNeg, Int.reduceToNat, Nat.reduceAdd, Nat.reduceMul, Int.reduceNatCast, reduceCtorEq, Int.cast_ofNat_Int, bi_tr, bi_fa, bi_0, bi_1, not_true_eq_false, not_false_eq_true, rnk_v, rnk_n, ↓reduceIte, i00, i11, ibi, or_true, true_or, and_true, true_and, List.cons_append, List.nil_append, Option.toList]
  unfold tmK
  (repeat' split) <;> first | rfl | (exfalso; omega) | (refine congrArg (fun z => some (some (Value.int (iI z)), M)) ?_; omega)
