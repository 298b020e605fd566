/-! months by draws -/
def mnC (K : tK) : Nat := dw (nz (kZ K)) (kC K)
def mnD (K : tK) : Nat := dw (nz (nz (kZ K))) (kD K)
def mnQ (K : tK) : Bool := dw (nz (nz (nz (kZ K)))) 2 == 1
def mnS (K : tK) : tK := uSeed K (nz (nz (nz (kZ K))))
def mnK (K : tK) : tK := if lgD K (mnC K) (mnD K) = 9999 then mnS K else uGo (mnS K) (mnC K) (mnD K) (lgD K (mnC K) (mnD K)) (mnQ K)
def mnN (K : tK) : Nat → tK
  | 0 => K
  | n + 1 => mnK (mnN K n)
theorem kC_uSeed (K : tK) (z : Int32) : kC (uSeed K z) = kC K := rfl
theorem kD_uSeed (K : tK) (z : Int32) : kD (uSeed K z) = kD K := rfl
theorem kP_uSeed (K : tK) (z : Int32) : kP (uSeed K z) = kP K := rfl
theorem kX_uSeed (K : tK) (z : Int32) : kX (uSeed K z) = kX K := rfl
theorem kZ_uSeed (K : tK) (z : Int32) : kZ (uSeed K z) = z := rfl
theorem uSeed_2 (K : tK) (a b : Int32) : uSeed (uSeed K a) b = uSeed K b := rfl
theorem lgD_seed (K : tK) (z : Int32) (c d : Nat) : lgD (uSeed K z) c d = lgD K c d := by
  unfold lgD
  show dG (uSeed K z) (gK (uSeed K z) c (kP K)) (kX K c) d = _
  rw [uSeed_dG]
theorem mn_rng {K : tK} (hI : kInv K) (h : 0 < kC K) : mnC K < kC K ∧ mnD K < kD K ∧ 0 < kD K := by
  have g1 := (kI_c hI h).2.2.2
  exact ⟨Nat.mod_lt _ h, Nat.mod_lt _ (by omega), by omega⟩
theorem kC_uGo (K : tK) (c d : Nat) (w : Int) (sg : Bool) : kC (uGo K c d w sg) = kC K := rfl
theorem mnK_C (K : tK) : kC (mnK K) = kC K := by
  unfold mnK mnS
  split
  · exact kC_uSeed _ _
  · exact (kC_uGo _ _ _ _ _).trans (kC_uSeed _ _)
theorem mnK_inv {K : tK} (hI : kInv K) (h : 0 < kC K) : kInv (mnK K) := by
  have g1 := mn_rng hI h
  unfold mnK
  split
  · exact uSeed_inv hI _
  · refine uGo_inv (uSeed_inv hI _) ?_
    rw [kD_uSeed]
    exact g1.2.1
theorem mnN_C (K : tK) : ∀ n, kC (mnN K n) = kC K
  | 0 => rfl
  | n + 1 => (mnK_C _).trans (mnN_C K n)
theorem mnN_inv {K : tK} (hI : kInv K) (h : 0 < kC K) : ∀ n, kInv (mnN K n)
  | 0 => hI
  | n + 1 => mnK_inv (mnN_inv hI h n) (by rw [mnN_C]; exact h)
theorem k_X1_takeDrawnLeg {D : Nat} (hD : 5 ≤ D) {M : tM} {K : tK} (hR : Rep M 0 K) (hI : kInv K) (h : 0 < kC K) : ∃ M', exF D m_X1_takeDrawnLeg [.ref 85, .ref 0, .ref 42] M = some (none, M') ∧ Rep M' 0 (mnK K) ∧ Sm [0, 1, 9, 43, 44, 45, 46] M M' := by
  obtain ⟨D, rfl⟩ : ∃ D0, D = D0 + 1 := ⟨D - 1, by omega⟩
  have g0 := kI_n hI
  obtain ⟨g1, g2, g3⟩ := mn_rng hI h
  have g1' : mnC K < kC (mnS K) := by rw [show kC (mnS K) = kC K from kC_uSeed _ _]; exact g1
  have g2' : mnD K < kD (mnS K) := by rw [show kD (mnS K) = kD K from kD_uSeed _ _]; exact g2
  have a1 := k_X4_draw (D := D) (by omega) h0 hR h (by omega)
  have b1 : Rep (sI M 0 15 (nz (kZ K))) 0 (uSeed K (nz (kZ K))) := uSeed_Rep h0 hR _
  have a2 := k_X4_draw (D := D) (by omega) h0 b1 g3 (by omega)
  have b2 : Rep (sI (sI M 0 15 (nz (kZ K))) 0 15 (nz (nz (kZ K)))) 0 (uSeed K (nz (nz (kZ K)))) := by
    have b9 := uSeed_Rep h0 b1 (nz (nz (kZ K)))
    rw [uSeed_2] at b9
    exact b9
  have a3 := k_X4_draw (D := D) (by omega) h0 b2 (show 0 < 2 by omega) (by omega)
  have b3 : Rep (sI (sI (sI M 0 15 (nz (kZ K))) 0 15 (nz (nz (kZ K)))) 0 15 (nz (nz (nz (kZ K))))) 0 (mnS K) := by
    have b9 := uSeed_Rep h0 b2 (nz (nz (nz (kZ K))))
    rw [uSeed_2] at b9
    exact b9
  rw [kZ_uSeed] at a2
  rw [kZ_uSeed, show ((2 : Nat) : Int) = 2 from rfl] at a3
  rw [show dw (nz (kZ K)) (kC K) = mnC K from rfl] at a1
  rw [show dw (nz (nz (kZ K))) (kD K) = mnD K from rfl] at a2
  have hS : kInv (mnS K) := uSeed_inv hI (nz (nz (nz (kZ K))))
  obtain ⟨M1, d1, d2⟩ := k_X9_minutesTo (D := D) (by omega) h0 b3 hS (c := mnC K) (d := mnD K) g1' g2' (kP K) (by omega) (by omega)
  have e1 : dG (mnS K) (gK (mnS K) (mnC K) (kP K)) (kX (mnS K) (mnC K)) (mnD K) = lgD K (mnC K) (mnD K) := by
    have e9 := lgD_seed K (nz (nz (nz (kZ K)))) (mnC K) (mnD K)
    unfold lgD at e9 ⊢
    rw [kP_uSeed] at e9
    exact e9
  rw [e1] at d1
  have w1 : Rep M1 0 (mnS K) := Rep_o h0 b3 d2 (by simp)
  have g4 := lgD_le K (mnC K) (mnD K)
  obtain ⟨r1, r2, r3, r4, r5, r6⟩ := R0_n hR
  obtain ⟨s1, s2, s3, s4, s5, s6⟩ := R0_n b1
  obtain ⟨t1, t2, t3, t4, t5, t6⟩ := R0_n b3
  rw [kD_uSeed] at s1
  rw [show kP (mnS K) = kP K from kP_uSeed _ _] at t4
  have g5 : dw (nz (nz (nz (kZ K)))) 2 < 2 := Nat.mod_lt _ (by omega)
  have hs : Sm [0, 43, 44, 45, 46] M M1 := Sm_tr (Sm_tr (Sm_tr (Sm_sI (by simp)) (Sm_sI (by simp))) (Sm_sI (by simp))) (Sm_mono (by simp) d2)
  have pre : exF (D + 1) m_X1_takeDrawnLeg [.ref 85, .ref 0, .ref 42] M = rn (exF D) C_X1_takeDrawnLeg 49 [some (.ref 85), some (.ref 0), some (.ref 42), some (.int (iI (mnC K))), some (.int (iI (mnD K))), some (.int (bi (mnQ K = true))), some (.int (iI (oN (lgD K (mnC K) (mnD K)))))] [] M1 := by
    by_cases q : dw (nz (nz (nz (kZ K)))) 2 = 1
    · rw [bi_t (show mnQ K = true by simp [mnQ, q])]
      rw [q] at a3
      simp (maxSteps := 4000000) (disch := omega) only [en_X1_takeDrawnLeg, s_X1_takeDrawnLeg_0, s_X1_takeDrawnLeg_1, s_X1_takeDrawnLeg_2, s_X1_takeDrawnLeg_5, s_X1_takeDrawnLeg_8, s_X1_takeDrawnLeg_9, s_X1_takeDrawnLeg_10, s_X1_takeDrawnLeg_11, s_X1_takeDrawnLeg_14, s_X1_takeDrawnLeg_17, s_X1_takeDrawnLeg_19, s_X1_takeDrawnLeg_20, s_X1_takeDrawnLeg_21, s_X1_takeDrawnLeg_24, s_X1_takeDrawnLeg_25, s_X1_takeDrawnLeg_28, s_X1_takeDrawnLeg_29, s_X1_takeDrawnLeg_32, s_X1_takeDrawnLeg_33, s_X1_takeDrawnLeg_35, s_X1_takeDrawnLeg_36, s_X1_takeDrawnLeg_37, s_X1_takeDrawnLeg_38, s_X1_takeDrawnLeg_40, s_X1_takeDrawnLeg_41, s_X1_takeDrawnLeg_44, s_X1_takeDrawnLeg_47, cls_0, cls_42, cls_0, fv_0_0, fv_0_1, fv_0_2, fv_0_3, fv_0_4, fv_0_5, fv_0_6, fv_0_7, fv_0_8, fv_0_9, fv_0_10, fv_0_11, fv_0_12, fv_0_13, fv_0_14, fv_0_15, r3, s1, t4, a1, a2, a3, d1, iI_add, iI_sub, iI_mul, iI_neg, iI_lt, iI_le, iI_eq, iI_toInt, tn_n, tn_1, inb_I, Int.reduceEq, Int.reduceLT, Int.reduceLE, Int.reduceAdd, Int.reduceSub, Int.reduceMul, Int.reduceNeg, Int.reduceToNat, Nat.reduceAdd, Nat.reduceMul, Int.reduceNatCast, reduceCtorEq, Int.cast_ofNat_Int, bi_tr, bi_fa, bi_0, bi_1, not_true_eq_false, not_false_eq_true, rnk_v, rnk_n, ↓reduceIte, i00, i11, ibi, or_true, true_or, and_true, true_and, List.cons_append, List.nil_append, Option.toList, nop]
    · rw [bi_f (show ¬ mnQ K = true by simp [mnQ, q])]
      rw [show dw (nz (nz (nz (kZ K)))) 2 = 0 by omega] at a3
      simp (maxSteps := 4000000) (disch := omega) only [en_X1_takeDrawnLeg, s_X1_takeDrawnLeg_0, s_X1_takeDrawnLeg_1, s_X1_takeDrawnLeg_2, s_X1_takeDrawnLeg_5, s_X1_takeDrawnLeg_8, s_X1_takeDrawnLeg_9, s_X1_takeDrawnLeg_10, s_X1_takeDrawnLeg_11, s_X1_takeDrawnLeg_14, s_X1_takeDrawnLeg_17, s_X1_takeDrawnLeg_19, s_X1_takeDrawnLeg_20, s_X1_takeDrawnLeg_21, s_X1_takeDrawnLeg_24, s_X1_takeDrawnLeg_25, s_X1_takeDrawnLeg_28, s_X1_takeDrawnLeg_29, s_X1_takeDrawnLeg_32, s_X1_takeDrawnLeg_33, s_X1_takeDrawnLeg_35, s_X1_takeDrawnLeg_36, s_X1_takeDrawnLeg_37, s_X1_takeDrawnLeg_38, s_X1_takeDrawnLeg_40, s_X1_takeDrawnLeg_41, s_X1_takeDrawnLeg_44, s_X1_takeDrawnLeg_47, cls_0, cls_42, cls_0, fv_0_0, fv_0_1, fv_0_2, fv_0_3, fv_0_4, fv_0_5, fv_0_6, fv_0_7, fv_0_8, fv_0_9, fv_0_10, fv_0_11, fv_0_12, fv_0_13, fv_0_14, fv_0_15, r3, s1, t4, a1, a2, a3, d1, iI_add, iI_sub, iI_mul, iI_neg, iI_lt, iI_le, iI_eq, iI_toInt, tn_n, tn_1, inb_I, Int.reduceEq, Int.reduceLT, Int.reduceLE, Int.reduceAdd, Int.reduceSub, Int.reduceMul, Int.reduceNeg, Int.reduceToNat, Nat.reduceAdd, Nat.reduceMul, Int.reduceNatCast, reduceCtorEq, Int.cast_ofNat_Int, bi_tr, bi_fa, bi_0, bi_1, not_true_eq_false, not_false_eq_true, rnk_v, rnk_n, ↓reduceIte, i00, i11, ibi, or_true, true_or, and_true, true_and, List.cons_append, List.nil_append, Option.toList, nop]
  rw [pre]
  by_cases q : lgD K (mnC K) (mnD K) = 9999
  · have e2 : oN (lgD K (mnC K) (mnD K)) = -1 := if_pos (by omega)
    have e3 : mnK K = mnS K := if_pos q
    rw [e2, e3]
    refine ⟨M1, ?_, w1, Sm_mono (by simp) hs⟩
    simp (maxSteps := 4000000) (disch := omega) only [s_X1_takeDrawnLeg_49, s_X1_takeDrawnLeg_51, s_X1_takeDrawnLeg_52, s_X1_takeDrawnLeg_55, s_X1_takeDrawnLeg_56, s_X1_takeDrawnLeg_57, s_X1_takeDrawnLeg_59, s_X1_takeDrawnLeg_61, s_X1_takeDrawnLeg_63, s_X1_takeDrawnLeg_66, iI_add, iI_sub, iI_mul, iI_neg, iI_lt, iI_le, iI_eq, iI_toInt, tn_n, tn_1, inb_I, Int.reduceEq, Int.reduceLT, Int.reduceLE, Int.reduceAdd, Int.reduceSub, Int.reduceMul, Int.reduceNeg, Int.reduceToNat, Nat.reduceAdd, Nat.reduceMul, Int.reduceNatCast, reduceCtorEq, Int.cast_ofNat_Int, bi_tr, bi_fa, bi_0, bi_1, not_true_eq_false, not_false_eq_true, rnk_v, rnk_n, ↓reduceIte, i00, i11, ibi, or_true, true_or, and_true, true_and, List.cons_append, List.nil_append, Option.toList, nop]
  · have e2 : oN (lgD K (mnC K) (mnD K)) = (lgD K (mnC K) (mnD K) : Int) := if_neg (by omega)
    have e3 : mnK K = uGo (mnS K) (mnC K) (mnD K) (lgD K (mnC K) (mnD K)) (mnQ K) := if_neg q
    rw [e2, e3]
    obtain ⟨M2, p1, p2, p3⟩ := k_X4_goTo (D := D) (by omega) h0 w1 hS (c := mnC K) (d := mnD K) g1' g2' (lgD K (mnC K) (mnD K)) (mnQ K = true)
    rw [Bool.decide_eq_true] at p2
    refine ⟨M2, ?_, p2, Sm_tr (Sm_mono (by simp) hs) (Sm_mono (by simp) p3)⟩
    simp (maxSteps := 4000000) (disch := omega) only [s_X1_takeDrawnLeg_49, s_X1_takeDrawnLeg_51, s_X1_takeDrawnLeg_52, s_X1_takeDrawnLeg_55, s_X1_takeDrawnLeg_56, s_X1_takeDrawnLeg_57, s_X1_takeDrawnLeg_59, s_X1_takeDrawnLeg_61, s_X1_takeDrawnLeg_63, s_X1_takeDrawnLeg_66, cls_0, p1, eqF, iI_add, iI_sub, iI_mul, iI_neg, iI_lt, iI_le, iI_eq, iI_toInt, tn_n, tn_1, inb_I, Int.reduceEq, Int.reduceLT, Int.reduceLE, Int.reduceAdd, Int.reduceSub, Int.reduceMul, Int.reduceNeg, Int.reduceToNat, Nat.reduceAdd, Nat.reduceMul, Int.reduceNatCast, reduceCtorEq, Int.cast_ofNat_Int, bi_tr, bi_fa, bi_0, bi_1, not_true_eq_false, not_false_eq_true, rnk_v, rnk_n, ↓reduceIte, i00, i11, ibi, or_true, true_or, and_true, true_and, List.cons_append, List.nil_append, Option.toList, nop]
def p_months (S : tS) (n : Int) : Int × tS :=
  if kC (stK S) = 0 then rz S (-5)
  else if ¬ (1 ≤ n ∧ n ≤ 60) then rz S (-6)
  else ((kM (mnN (stK S) n.toNat)).toInt, upK S (mnN (stK S) n.toNat))
theorem c_months {D : Nat} (hD : 6 ≤ D) {M : tM} {S : tS} (hC : RelC S M) (hI : sInv S) {n : Int} (gn : -2147483648 ≤ n ∧ n ≤ 2147483647) : okC D m_X10_months [.ref 88, .int (iI n)] M (p_months S n) := by
  obtain ⟨D, rfl⟩ : ∃ D0, D = D0 + 1 := ⟨D - 1, by omega⟩
  obtain ⟨c1, c2, c3, c4, c5, c6, c7, c8, c9⟩ := id hC; obtain ⟨i1, i2, i3, i4, i5, i6, i7⟩ := id hI; have n0 := kI_n i1; obtain ⟨r1, r2, r3, r4, r5, r6⟩ := R0_n c1
  unfold p_months
  by_cases e1 : kC (stK S) = 0
  · rw [if_pos e1]
    rw [e1] at r3
    exact okC_rf hC (by omega) (by omega) (by simp (maxSteps := 4000000) (disch := omega) only [r3, en_X10_months, s_X10_months_0, s_X10_months_1, s_X10_months_4, s_X10_months_7, s_X10_months_10, s_X10_months_11, s_X10_months_13, s_X10_months_16, s_X10_months_17, s_X10_months_18, s_X10_months_19, s_X10_months_22, s_X10_months_23, s_X10_months_25, s_X10_months_28, s_X10_months_29, s_X10_months_31, s_X10_months_34, s_X10_months_35, s_X10_months_36, s_X10_months_37, s_X10_months_38, s_X10_months_39, s_X10_months_42, s_X10_months_43, s_X10_months_46, s_X10_months_47, s_X10_months_50, s_X10_months_51, s_X10_months_54, s_X10_months_57, s_X10_months_60, s_X10_months_63, s_X10_months_64, s_X10_months_67, s_X10_months_70, cls_88, fv_88_0, fv_88_1, fv_88_2, fv_88_3, fv_88_4, fv_88_5, fv_88_6, fv_88_7, fv_88_8, fv_88_9, fv_88_10, fv_88_11, fv_88_12, fv_88_13, fv_88_14, ak_89, al_89, cls_0, fv_0_0, fv_0_1, fv_0_2, fv_0_3, fv_0_4, fv_0_5, fv_0_6, fv_0_7, fv_0_8, fv_0_9, fv_0_10, fv_0_11, fv_0_12, fv_0_13, fv_0_14, fv_0_15, ak_1, al_1, ak_2, al_2, ak_3, al_3, ak_4, al_4, ak_5, al_5, ak_6, al_6, ak_7, al_7, ak_8, al_8, ak_9, al_9, cls_10, cls_20, cls_30, cls_42, cls_57, cls_59, cls_62, cls_80, cls_82, cls_85, cls_86, k_X10_refuse (show _ ≤ D by omega), ltT, ltF, leT, leF, eqT, eqF, iI_add, iI_sub, iI_mul, iI_neg, iI_lt, iI_le, iI_eq, iI_toInt, tn_n, tn_1, inb_I, Int.reduceEq, Int.reduceLT, Int.reduceLE, Int.reduceAdd, Int.reduceSub, Int.reduceMul, Int.reduceNeg, Int.reduceToNat, Nat.reduceAdd, Nat.reduceMul, Int.reduceNatCast, reduceCtorEq, Int.cast_ofNat_Int, bi_tr, bi_fa, bi_0, bi_1, not_true_eq_false, not_false_eq_true, rnk_v, rnk_n, ↓reduceIte, i00, i11, ibi, or_true, true_or, and_true, true_and, List.cons_append, List.nil_append, Option.toList, nop])
  rw [if_neg e1]
  by_cases e2 : 1 ≤ n ∧ n ≤ 60
  rotate_left
  · rw [if_pos e2]
    by_cases e3 : n < 1
    · exact okC_rf hC (by omega) (by omega) (by simp (maxSteps := 4000000) (disch := omega) only [r3, en_X10_months, s_X10_months_0, s_X10_months_1, s_X10_months_4, s_X10_months_7, s_X10_months_10, s_X10_months_11, s_X10_months_13, s_X10_months_16, s_X10_months_17, s_X10_months_18, s_X10_months_19, s_X10_months_22, s_X10_months_23, s_X10_months_25, s_X10_months_28, s_X10_months_29, s_X10_months_31, s_X10_months_34, s_X10_months_35, s_X10_months_36, s_X10_months_37, s_X10_months_38, s_X10_months_39, s_X10_months_42, s_X10_months_43, s_X10_months_46, s_X10_months_47, s_X10_months_50, s_X10_months_51, s_X10_months_54, s_X10_months_57, s_X10_months_60, s_X10_months_63, s_X10_months_64, s_X10_months_67, s_X10_months_70, cls_88, fv_88_0, fv_88_1, fv_88_2, fv_88_3, fv_88_4, fv_88_5, fv_88_6, fv_88_7, fv_88_8, fv_88_9, fv_88_10, fv_88_11, fv_88_12, fv_88_13, fv_88_14, ak_89, al_89, cls_0, fv_0_0, fv_0_1, fv_0_2, fv_0_3, fv_0_4, fv_0_5, fv_0_6, fv_0_7, fv_0_8, fv_0_9, fv_0_10, fv_0_11, fv_0_12, fv_0_13, fv_0_14, fv_0_15, ak_1, al_1, ak_2, al_2, ak_3, al_3, ak_4, al_4, ak_5, al_5, ak_6, al_6, ak_7, al_7, ak_8, al_8, ak_9, al_9, cls_10, cls_20, cls_30, cls_42, cls_57, cls_59, cls_62, cls_80, cls_82, cls_85, cls_86, k_X10_refuse (show _ ≤ D by omega), ltT, ltF, leT, leF, eqT, eqF, iI_add, iI_sub, iI_mul, iI_neg, iI_lt, iI_le, iI_eq, iI_toInt, tn_n, tn_1, inb_I, Int.reduceEq, Int.reduceLT, Int.reduceLE, Int.reduceAdd, Int.reduceSub, Int.reduceMul, Int.reduceNeg, Int.reduceToNat, Nat.reduceAdd, Nat.reduceMul, Int.reduceNatCast, reduceCtorEq, Int.cast_ofNat_Int, bi_tr, bi_fa, bi_0, bi_1, not_true_eq_false, not_false_eq_true, rnk_v, rnk_n, ↓reduceIte, i00, i11, ibi, or_true, true_or, and_true, true_and, List.cons_append, List.nil_append, Option.toList, nop])
    · exact okC_rf hC (by omega) (by omega) (by simp (maxSteps := 4000000) (disch := omega) only [r3, en_X10_months, s_X10_months_0, s_X10_months_1, s_X10_months_4, s_X10_months_7, s_X10_months_10, s_X10_months_11, s_X10_months_13, s_X10_months_16, s_X10_months_17, s_X10_months_18, s_X10_months_19, s_X10_months_22, s_X10_months_23, s_X10_months_25, s_X10_months_28, s_X10_months_29, s_X10_months_31, s_X10_months_34, s_X10_months_35, s_X10_months_36, s_X10_months_37, s_X10_months_38, s_X10_months_39, s_X10_months_42, s_X10_months_43, s_X10_months_46, s_X10_months_47, s_X10_months_50, s_X10_months_51, s_X10_months_54, s_X10_months_57, s_X10_months_60, s_X10_months_63, s_X10_months_64, s_X10_months_67, s_X10_months_70, cls_88, fv_88_0, fv_88_1, fv_88_2, fv_88_3, fv_88_4, fv_88_5, fv_88_6, fv_88_7, fv_88_8, fv_88_9, fv_88_10, fv_88_11, fv_88_12, fv_88_13, fv_88_14, ak_89, al_89, cls_0, fv_0_0, fv_0_1, fv_0_2, fv_0_3, fv_0_4, fv_0_5, fv_0_6, fv_0_7, fv_0_8, fv_0_9, fv_0_10, fv_0_11, fv_0_12, fv_0_13, fv_0_14, fv_0_15, ak_1, al_1, ak_2, al_2, ak_3, al_3, ak_4, al_4, ak_5, al_5, ak_6, al_6, ak_7, al_7, ak_8, al_8, ak_9, al_9, cls_10, cls_20, cls_30, cls_42, cls_57, cls_59, cls_62, cls_80, cls_82, cls_85, cls_86, k_X10_refuse (show _ ≤ D by omega), ltT, ltF, leT, leF, eqT, eqF, iI_add, iI_sub, iI_mul, iI_neg, iI_lt, iI_le, iI_eq, iI_toInt, tn_n, tn_1, inb_I, Int.reduceEq, Int.reduceLT, Int.reduceLE, Int.reduceAdd, Int.reduceSub, Int.reduceMul, Int.reduceNeg, Int.reduceToNat, Nat.reduceAdd, Nat.reduceMul, Int.reduceNatCast, reduceCtorEq, Int.cast_ofNat_Int, bi_tr, bi_fa, bi_0, bi_1, not_true_eq_false, not_false_eq_true, rnk_v, rnk_n, ↓reduceIte, i00, i11, ibi, or_true, true_or, and_true, true_and, List.cons_append, List.nil_append, Option.toList, nop])
  rw [if_neg (fun q => q e2)]
  obtain ⟨n, rfl⟩ : ∃ u : Nat, n = u := ⟨n.toNat, by omega⟩
  simp only [Int.toNat_natCast]
  obtain ⟨M', l1, l2, l3⟩ := lp (f := fun k (N : tM) => rn (exF D) C_X10_months 37 [some (.ref 88), some (.int (iI n)), some (.int (iI k))] [] N) (P := fun k N => Sm [0, 1, 9, 43, 44, 45, 46] M N ∧ Rep N 0 (mnN (stK S) k)) (n := n) (by
    rintro k N hk ⟨p1, p2⟩
    obtain ⟨N1, q1, q2, q3⟩ := k_X1_takeDrawnLeg (D := D) (by omega) p2 (mnN_inv i1 (by omega) k) (by rw [mnN_C]; omega)
    refine ⟨N1, ?_, Sm_tr p1 q3, q2⟩
    intro X hX
    show rn _ _ _ _ _ _ = X
    rw [s_X10_months_37]
    simp (maxSteps := 4000000) (disch := omega) only [s_X10_months_38, s_X10_months_39, s_X10_months_42, s_X10_months_43, s_X10_months_46, s_X10_months_47, s_X10_months_50, s_X10_months_51, s_X10_months_54, s_X10_months_57, s_X10_months_60, cls_88, fv_88_0, fv_88_1, fv_88_2, fv_88_3, fv_88_4, fv_88_5, fv_88_6, fv_88_7, fv_88_8, fv_88_9, fv_88_10, fv_88_11, fv_88_12, fv_88_13, fv_88_14, cls_85, q1, leF, iI_add, iI_sub, iI_mul, iI_neg, iI_lt, iI_le, iI_eq, iI_toInt, tn_n, tn_1, inb_I, Int.reduceEq, Int.reduceLT, Int.reduceLE, Int.reduceAdd, Int.reduceSub, Int.reduceMul, Int.reduceNeg, Int.reduceToNat, Nat.reduceAdd, Nat.reduceMul, Int.reduceNatCast, reduceCtorEq, Int.cast_ofNat_Int, bi_tr, bi_fa, bi_0, bi_1, not_true_eq_false, not_false_eq_true, rnk_v, rnk_n, ↓reduceIte, i00, i11, ibi, or_true, true_or, and_true, true_and, List.cons_append, List.nil_append, Option.toList, nop]
    exact hX) (Nat.zero_le _) (a := M) ⟨Sm_rf _ _, c1⟩
  have v1 := (R0_n l3).2.2.2.2.1
  refine ⟨M', ?_, RelC_Ks hC l3 l2 (by simp), SmC_of l2 (by simp)⟩
  simp (maxSteps := 4000000) (disch := omega) only [en_X10_months, s_X10_months_0, s_X10_months_1, s_X10_months_4, s_X10_months_7, s_X10_months_10, s_X10_months_11, s_X10_months_13, s_X10_months_16, s_X10_months_17, s_X10_months_18, s_X10_months_19, s_X10_months_22, s_X10_months_23, s_X10_months_25, s_X10_months_28, s_X10_months_29, s_X10_months_31, s_X10_months_34, s_X10_months_35, s_X10_months_36, cls_88, fv_88_0, fv_88_1, fv_88_2, fv_88_3, fv_88_4, fv_88_5, fv_88_6, fv_88_7, fv_88_8, fv_88_9, fv_88_10, fv_88_11, fv_88_12, fv_88_13, fv_88_14, cls_0, fv_0_0, fv_0_1, fv_0_2, fv_0_3, fv_0_4, fv_0_5, fv_0_6, fv_0_7, fv_0_8, fv_0_9, fv_0_10, fv_0_11, fv_0_12, fv_0_13, fv_0_14, fv_0_15, r3, eqF (show ¬ (kC (stK S) : Int) = 0 by omega), ltF (show (1 : Int) ≤ n by omega), leT (show (n : Int) ≤ 60 by omega), iI_add, iI_sub, iI_mul, iI_neg, iI_lt, iI_le, iI_eq, iI_toInt, tn_n, tn_1, inb_I, Int.reduceEq, Int.reduceLT, Int.reduceLE, Int.reduceAdd, Int.reduceSub, Int.reduceMul, Int.reduceNeg, Int.reduceToNat, Nat.reduceAdd, Nat.reduceMul, Int.reduceNatCast, reduceCtorEq, Int.cast_ofNat_Int, bi_tr, bi_fa, bi_0, bi_1, not_true_eq_false, not_false_eq_true, rnk_v, rnk_n, ↓reduceIte, i00, i11, ibi, or_true, true_or, and_true, true_and, List.cons_append, List.nil_append, Option.toList, nop]
  refine l1.trans ?_
  simp (maxSteps := 4000000) (disch := omega) only [s_X10_months_37, s_X10_months_38, s_X10_months_39, s_X10_months_42, s_X10_months_43, s_X10_months_46, s_X10_months_47, s_X10_months_50, s_X10_months_51, s_X10_months_54, s_X10_months_57, s_X10_months_60, s_X10_months_63, s_X10_months_64, s_X10_months_67, s_X10_months_70, cls_88, fv_88_0, fv_88_1, fv_88_2, fv_88_3, fv_88_4, fv_88_5, fv_88_6, fv_88_7, fv_88_8, fv_88_9, fv_88_10, fv_88_11, fv_88_12, fv_88_13, fv_88_14, cls_0, fv_0_0, fv_0_1, fv_0_2, fv_0_3, fv_0_4, fv_0_5, fv_0_6, fv_0_7, fv_0_8, fv_0_9, fv_0_10, fv_0_11, fv_0_12, fv_0_13, fv_0_14, fv_0_15, v1, iI_of, leT, iI_add, iI_sub, iI_mul, iI_neg, iI_lt, iI_le, iI_eq, iI_toInt, tn_n, tn_1, inb_I, Int.reduceEq, Int.reduceLT, Int.reduceLE, Int.reduceAdd, Int.reduceSub, Int.reduceMul, Int.reduceNeg, Int.reduceToNat, Nat.reduceAdd, Nat.reduceMul, Int.reduceNatCast, reduceCtorEq, Int.cast_ofNat_Int, bi_tr, bi_fa, bi_0, bi_1, not_true_eq_false, not_false_eq_true, rnk_v, rnk_n, ↓reduceIte, i00, i11, ibi, or_true, true_or, and_true, true_and, List.cons_append, List.nil_append, Option.toList, nop]
theorem k_X11_draw {D : Nat} (hD : 1 ≤ D) {M : tM} {K : tK} (hR : RepN M 92 K) {n : Nat} (h : 0 < n) (h2 : n ≤ 1000) : exF D m_X11_draw [.ref 90, .int (iI n)] M = some (some (.int (iI (dw (nz (kZ K)) n))), sI M 92 113 (nz (kZ K))) := by
  obtain ⟨D, rfl⟩ : ∃ D0, D = D0 + 1 := ⟨D - 1, by omega⟩
  have g1 := hR.1.2.2.2.2.2
  have g2 := (dw_irm (nz (kZ K)) h h2).1
  simp (maxSteps := 4000000) (disch := omega) only [en_X11_draw, s_X11_draw_0, s_X11_draw_1, s_X11_draw_4, s_X11_draw_6, s_X11_draw_7, s_X11_draw_10, s_X11_draw_12, s_X11_draw_13, s_X11_draw_16, s_X11_draw_17, s_X11_draw_20, s_X11_draw_21, s_X11_draw_22, s_X11_draw_23, s_X11_draw_26, s_X11_draw_28, s_X11_draw_29, s_X11_draw_31, s_X11_draw_32, s_X11_draw_33, s_X11_draw_34, cls_90, fv_90_0, fv_90_1, fv_90_2, fv_90_3, fv_90_4, fv_90_5, fv_90_6, fv_90_7, fv_90_8, fv_90_9, fv_90_10, fv_90_11, fv_90_12, fv_90_13, fv_90_14, fv_90_15, fv_90_16, fv_90_17, fv_90_18, fv_90_19, fv_90_20, fv_90_21, fv_90_22, fv_90_23, fv_90_24, fv_90_25, ak_91, al_91, ak_92, al_92, ak_93, al_93, ak_94, al_94, ak_95, al_95, ak_96, al_96, ak_97, al_97, ak_98, al_98, ak_99, al_99, ak_100, al_100, rf_100, ak_101, al_101, ak_102, al_102, ak_103, al_103, ak_104, al_104, ak_105, al_105, ak_106, al_106, tn_add, tn_mul, iI_long, jJ_int, g1, sI_s, iI_add, iI_sub, iI_mul, iI_neg, iI_lt, iI_le, iI_eq, iI_toInt, tn_n, tn_1, inb_I, Int.reduceEq, Int.reduceLT, Int.reduceLE, Int.reduceAdd, Int.reduceSub, Int.reduceMul, Int.reduceNeg, Int.reduceToNat, Nat.reduceAdd, Nat.reduceMul, Int.reduceNatCast, reduceCtorEq, Int.cast_ofNat_Int, bi_tr, bi_fa, bi_0, bi_1, not_true_eq_false, not_false_eq_true, rnk_v, rnk_n, ↓reduceIte, i00, i11, ibi, or_true, true_or, and_true, true_and, List.cons_append, List.nil_append, Option.toList, nop]
  simp only [show kZ K * iI 1103515245 + iI 12345 = nz (kZ K) from rfl, g2]
  rw [if_neg (by simp; omega)]
/-- one drawn leg of the reference -/
theorem l_drawn {D : Nat} (hD : 4 ≤ D) {N : tM} {K : tK} (hR : RepN N 92 K) (hI : kInv K) (h : 0 < kC K) (n k : Int) (x3 x4 : Option Value) : ∃ N', rn (exF D) C_X11_months 43 [some (.ref 90), some (.int (iI n)), some (.int (iI k)), x3, x4] [] N = rn (exF D) C_X11_months 90 [some (.ref 90), some (.int (iI n)), some (.int (iI k)), some (.int (iI (mnC K))), some (.int (iI (mnD K)))] [] N' ∧ RepN N' 92 (mnK K) ∧ Sm [90, 92, 101] N N' ∧ ∀ j, j ≠ 19 → j ≠ 20 → N'.1 90 j = N.1 90 j := by
  have g0 := kI_n hI
  obtain ⟨g1, g2, g3⟩ := mn_rng hI h
  have g1' : mnC K < kC (mnS K) := by rw [show kC (mnS K) = kC K from kC_uSeed _ _]; exact g1
  have g2' : mnD K < kD (mnS K) := by rw [show kD (mnS K) = kD K from kD_uSeed _ _]; exact g2
  have a1 := k_X11_draw (D := D) (by omega) hR h (by omega)
  have b1 : RepN (sI N 92 113 (nz (kZ K))) 92 (uSeed K (nz (kZ K))) := uSeed_RepN hR hI _
  have a2 := k_X11_draw (D := D) (by omega) b1 g3 (by omega)
  have b2 : RepN (sI (sI N 92 113 (nz (kZ K))) 92 113 (nz (nz (kZ K)))) 92 (uSeed K (nz (nz (kZ K)))) := by
    have b9 := uSeed_RepN b1 (uSeed_inv hI _) (nz (nz (kZ K)))
    rw [uSeed_2] at b9
    exact b9
  have a3 := k_X11_draw (D := D) (by omega) b2 (show 0 < 2 by omega) (by omega)
  have b3 : RepN (sI (sI (sI N 92 113 (nz (kZ K))) 92 113 (nz (nz (kZ K)))) 92 113 (nz (nz (nz (kZ K))))) 92 (mnS K) := by
    have b9 := uSeed_RepN b2 (uSeed_inv hI _) (nz (nz (nz (kZ K))))
    rw [uSeed_2] at b9
    exact b9
  rw [kZ_uSeed] at a2
  rw [kZ_uSeed, show ((2 : Nat) : Int) = 2 from rfl] at a3
  rw [show dw (nz (kZ K)) (kC K) = mnC K from rfl] at a1
  rw [show dw (nz (nz (kZ K))) (kD K) = mnD K from rfl] at a2
  have hS : kInv (mnS K) := uSeed_inv hI (nz (nz (nz (kZ K))))
  have r3 := hR.1.2.2.1
  have s1 := b1.1.1
  rw [kD_uSeed] at s1
  have g5 : dw (nz (nz (nz (kZ K)))) 2 < 2 := Nat.mod_lt _ (by omega)
  have e1 : lgD (mnS K) (mnC K) (mnD K) = lgD K (mnC K) (mnD K) := lgD_seed K _ _ _
  have hs : Sm [92] N (sI (sI (sI N 92 113 (nz (kZ K))) 92 113 (nz (nz (kZ K)))) 92 113 (nz (nz (nz (kZ K))))) := Sm_tr (Sm_tr (Sm_sI (by simp)) (Sm_sI (by simp))) (Sm_sI (by simp))
  by_cases q : lgD K (mnC K) (mnD K) = 9999
  · have e3 : mnK K = mnS K := if_pos q
    obtain ⟨N1, d1, d2⟩ := k_X11_leg0 (D := D) hD b3 hS (c := mnC K) (d := mnD K) g1' g2' (by rw [e1]; exact q) (bi (mnQ K = true))
    rw [e3]
    refine ⟨N1, ?_, RepN_Sm b3 d2 (by simp), Sm_tr (Sm_mono (by simp) hs) (Sm_mono (by simp) d2), fun j _ _ => by rw [(d2 90 (by simp)).1, (hs 90 (by simp)).1]⟩
    by_cases q2 : dw (nz (nz (nz (kZ K)))) 2 = 1
    · rw [bi_t (show mnQ K = true by simp [mnQ, q2])] at d1
      rw [q2] at a3
      simp (maxSteps := 4000000) (disch := omega) only [s_X11_months_43, s_X11_months_44, s_X11_months_45, s_X11_months_48, s_X11_months_50, s_X11_months_51, s_X11_months_54, s_X11_months_55, s_X11_months_56, s_X11_months_57, s_X11_months_60, s_X11_months_62, s_X11_months_63, s_X11_months_66, s_X11_months_68, s_X11_months_69, s_X11_months_70, s_X11_months_72, s_X11_months_73, s_X11_months_74, s_X11_months_77, s_X11_months_78, s_X11_months_81, s_X11_months_82, s_X11_months_85, s_X11_months_86, s_X11_months_89, cls_90, fv_90_0, fv_90_1, fv_90_2, fv_90_3, fv_90_4, fv_90_5, fv_90_6, fv_90_7, fv_90_8, fv_90_9, fv_90_10, fv_90_11, fv_90_12, fv_90_13, fv_90_14, fv_90_15, fv_90_16, fv_90_17, fv_90_18, fv_90_19, fv_90_20, fv_90_21, fv_90_22, fv_90_23, fv_90_24, fv_90_25, ak_91, al_91, ak_92, al_92, ak_93, al_93, ak_94, al_94, ak_95, al_95, ak_96, al_96, ak_97, al_97, ak_98, al_98, ak_99, al_99, ak_100, al_100, rf_100, ak_101, al_101, ak_102, al_102, ak_103, al_103, ak_104, al_104, ak_105, al_105, ak_106, al_106, tn_add, tn_mul, iI_long, jJ_int, r3, s1, a1, a2, a3, d1, iI_add, iI_sub, iI_mul, iI_neg, iI_lt, iI_le, iI_eq, iI_toInt, tn_n, tn_1, inb_I, Int.reduceEq, Int.reduceLT, Int.reduceLE, Int.reduceAdd, Int.reduceSub, Int.reduceMul, Int.reduceNeg, Int.reduceToNat, Nat.reduceAdd, Nat.reduceMul, Int.reduceNatCast, reduceCtorEq, Int.cast_ofNat_Int, bi_tr, bi_fa, bi_0, bi_1, not_true_eq_false, not_false_eq_true, rnk_v, rnk_n, ↓reduceIte, i00, i11, ibi, or_true, true_or, and_true, true_and, List.cons_append, List.nil_append, Option.toList, nop]
    · rw [bi_f (show ¬ mnQ K = true by simp [mnQ, q2])] at d1
      rw [show dw (nz (nz (nz (kZ K)))) 2 = 0 by omega] at a3
      simp (maxSteps := 4000000) (disch := omega) only [s_X11_months_43, s_X11_months_44, s_X11_months_45, s_X11_months_48, s_X11_months_50, s_X11_months_51, s_X11_months_54, s_X11_months_55, s_X11_months_56, s_X11_months_57, s_X11_months_60, s_X11_months_62, s_X11_months_63, s_X11_months_66, s_X11_months_68, s_X11_months_69, s_X11_months_70, s_X11_months_72, s_X11_months_73, s_X11_months_74, s_X11_months_77, s_X11_months_78, s_X11_months_81, s_X11_months_82, s_X11_months_85, s_X11_months_86, s_X11_months_89, cls_90, fv_90_0, fv_90_1, fv_90_2, fv_90_3, fv_90_4, fv_90_5, fv_90_6, fv_90_7, fv_90_8, fv_90_9, fv_90_10, fv_90_11, fv_90_12, fv_90_13, fv_90_14, fv_90_15, fv_90_16, fv_90_17, fv_90_18, fv_90_19, fv_90_20, fv_90_21, fv_90_22, fv_90_23, fv_90_24, fv_90_25, ak_91, al_91, ak_92, al_92, ak_93, al_93, ak_94, al_94, ak_95, al_95, ak_96, al_96, ak_97, al_97, ak_98, al_98, ak_99, al_99, ak_100, al_100, rf_100, ak_101, al_101, ak_102, al_102, ak_103, al_103, ak_104, al_104, ak_105, al_105, ak_106, al_106, tn_add, tn_mul, iI_long, jJ_int, r3, s1, a1, a2, a3, d1, iI_add, iI_sub, iI_mul, iI_neg, iI_lt, iI_le, iI_eq, iI_toInt, tn_n, tn_1, inb_I, Int.reduceEq, Int.reduceLT, Int.reduceLE, Int.reduceAdd, Int.reduceSub, Int.reduceMul, Int.reduceNeg, Int.reduceToNat, Nat.reduceAdd, Nat.reduceMul, Int.reduceNatCast, reduceCtorEq, Int.cast_ofNat_Int, bi_tr, bi_fa, bi_0, bi_1, not_true_eq_false, not_false_eq_true, rnk_v, rnk_n, ↓reduceIte, i00, i11, ibi, or_true, true_or, and_true, true_and, List.cons_append, List.nil_append, Option.toList, nop]
  · have e3 : mnK K = uGo (mnS K) (mnC K) (mnD K) (lgD K (mnC K) (mnD K)) (mnQ K) := if_neg q
    obtain ⟨N1, d1, d2, d3, d4, d5⟩ := k_X11_leg1 (D := D) hD b3 hS (c := mnC K) (d := mnD K) g1' g2' (by rw [e1]; exact q) (mnQ K = true)
    rw [Bool.decide_eq_true, e1] at d2
    rw [e3]
    refine ⟨N1, ?_, d2, Sm_tr (Sm_mono (by simp) hs) d3, fun j h1 h2 => by rw [d4 j h1 h2, (hs 90 (by simp)).1]⟩
    by_cases q2 : dw (nz (nz (nz (kZ K)))) 2 = 1
    · rw [bi_t (show mnQ K = true by simp [mnQ, q2])] at d1
      rw [q2] at a3
      simp (maxSteps := 4000000) (disch := omega) only [s_X11_months_43, s_X11_months_44, s_X11_months_45, s_X11_months_48, s_X11_months_50, s_X11_months_51, s_X11_months_54, s_X11_months_55, s_X11_months_56, s_X11_months_57, s_X11_months_60, s_X11_months_62, s_X11_months_63, s_X11_months_66, s_X11_months_68, s_X11_months_69, s_X11_months_70, s_X11_months_72, s_X11_months_73, s_X11_months_74, s_X11_months_77, s_X11_months_78, s_X11_months_81, s_X11_months_82, s_X11_months_85, s_X11_months_86, s_X11_months_89, cls_90, fv_90_0, fv_90_1, fv_90_2, fv_90_3, fv_90_4, fv_90_5, fv_90_6, fv_90_7, fv_90_8, fv_90_9, fv_90_10, fv_90_11, fv_90_12, fv_90_13, fv_90_14, fv_90_15, fv_90_16, fv_90_17, fv_90_18, fv_90_19, fv_90_20, fv_90_21, fv_90_22, fv_90_23, fv_90_24, fv_90_25, ak_91, al_91, ak_92, al_92, ak_93, al_93, ak_94, al_94, ak_95, al_95, ak_96, al_96, ak_97, al_97, ak_98, al_98, ak_99, al_99, ak_100, al_100, rf_100, ak_101, al_101, ak_102, al_102, ak_103, al_103, ak_104, al_104, ak_105, al_105, ak_106, al_106, tn_add, tn_mul, iI_long, jJ_int, r3, s1, a1, a2, a3, d1, iI_add, iI_sub, iI_mul, iI_neg, iI_lt, iI_le, iI_eq, iI_toInt, tn_n, tn_1, inb_I, Int.reduceEq, Int.reduceLT, Int.reduceLE, Int.reduceAdd, Int.reduceSub, Int.reduceMul, Int.reduceNeg, Int.reduceToNat, Nat.reduceAdd, Nat.reduceMul, Int.reduceNatCast, reduceCtorEq, Int.cast_ofNat_Int, bi_tr, bi_fa, bi_0, bi_1, not_true_eq_false, not_false_eq_true, rnk_v, rnk_n, ↓reduceIte, i00, i11, ibi, or_true, true_or, and_true, true_and, List.cons_append, List.nil_append, Option.toList, nop]
    · rw [bi_f (show ¬ mnQ K = true by simp [mnQ, q2])] at d1
      rw [show dw (nz (nz (nz (kZ K)))) 2 = 0 by omega] at a3
      simp (maxSteps := 4000000) (disch := omega) only [s_X11_months_43, s_X11_months_44, s_X11_months_45, s_X11_months_48, s_X11_months_50, s_X11_months_51, s_X11_months_54, s_X11_months_55, s_X11_months_56, s_X11_months_57, s_X11_months_60, s_X11_months_62, s_X11_months_63, s_X11_months_66, s_X11_months_68, s_X11_months_69, s_X11_months_70, s_X11_months_72, s_X11_months_73, s_X11_months_74, s_X11_months_77, s_X11_months_78, s_X11_months_81, s_X11_months_82, s_X11_months_85, s_X11_months_86, s_X11_months_89, cls_90, fv_90_0, fv_90_1, fv_90_2, fv_90_3, fv_90_4, fv_90_5, fv_90_6, fv_90_7, fv_90_8, fv_90_9, fv_90_10, fv_90_11, fv_90_12, fv_90_13, fv_90_14, fv_90_15, fv_90_16, fv_90_17, fv_90_18, fv_90_19, fv_90_20, fv_90_21, fv_90_22, fv_90_23, fv_90_24, fv_90_25, ak_91, al_91, ak_92, al_92, ak_93, al_93, ak_94, al_94, ak_95, al_95, ak_96, al_96, ak_97, al_97, ak_98, al_98, ak_99, al_99, ak_100, al_100, rf_100, ak_101, al_101, ak_102, al_102, ak_103, al_103, ak_104, al_104, ak_105, al_105, ak_106, al_106, tn_add, tn_mul, iI_long, jJ_int, r3, s1, a1, a2, a3, d1, iI_add, iI_sub, iI_mul, iI_neg, iI_lt, iI_le, iI_eq, iI_toInt, tn_n, tn_1, inb_I, Int.reduceEq, Int.reduceLT, Int.reduceLE, Int.reduceAdd, Int.reduceSub, Int.reduceMul, Int.reduceNeg, Int.reduceToNat, Nat.reduceAdd, Nat.reduceMul, Int.reduceNatCast, reduceCtorEq, Int.cast_ofNat_Int, bi_tr, bi_fa, bi_0, bi_1, not_true_eq_false, not_false_eq_true, rnk_v, rnk_n, ↓reduceIte, i00, i11, ibi, or_true, true_or, and_true, true_and, List.cons_append, List.nil_append, Option.toList, nop]
theorem d_months {D : Nat} (hD : 5 ≤ D) {M : tM} {S : tS} (hC : RelR S M) (hI : sInv S) {n : Int} (gn : -2147483648 ≤ n ∧ n ≤ 2147483647) : okR D m_X11_months [.ref 90, .int (iI n)] M (p_months S n) := by
  obtain ⟨D, rfl⟩ : ∃ D0, D = D0 + 1 := ⟨D - 1, by omega⟩
  obtain ⟨c1, c2, c3, c4, c5, c6, c7, c8, c9⟩ := id hC; obtain ⟨i1, i2, i3, i4, i5, i6, i7⟩ := id hI; have n0 := kI_n i1; obtain ⟨r1, r2, r3, r4, r5, r6⟩ := id c1.1
  unfold p_months
  by_cases e1 : kC (stK S) = 0
  · rw [if_pos e1]
    rw [e1] at r3
    exact okR_rf hC (by omega) (by omega) (by simp (maxSteps := 4000000) (disch := omega) only [r3, en_X11_months, s_X11_months_0, s_X11_months_1, s_X11_months_4, s_X11_months_6, s_X11_months_7, s_X11_months_10, s_X11_months_11, s_X11_months_13, s_X11_months_16, s_X11_months_17, s_X11_months_18, s_X11_months_19, s_X11_months_20, s_X11_months_23, s_X11_months_26, s_X11_months_29, s_X11_months_30, s_X11_months_32, s_X11_months_35, s_X11_months_36, s_X11_months_37, s_X11_months_38, s_X11_months_39, s_X11_months_40, s_X11_months_43, s_X11_months_44, s_X11_months_45, s_X11_months_48, s_X11_months_50, s_X11_months_51, s_X11_months_54, s_X11_months_55, s_X11_months_56, s_X11_months_57, s_X11_months_60, s_X11_months_62, s_X11_months_63, s_X11_months_66, s_X11_months_68, s_X11_months_69, s_X11_months_70, s_X11_months_72, s_X11_months_73, s_X11_months_74, s_X11_months_77, s_X11_months_78, s_X11_months_81, s_X11_months_82, s_X11_months_85, s_X11_months_86, s_X11_months_89, s_X11_months_90, s_X11_months_93, s_X11_months_96, s_X11_months_97, s_X11_months_100, s_X11_months_102, s_X11_months_103, cls_90, fv_90_0, fv_90_1, fv_90_2, fv_90_3, fv_90_4, fv_90_5, fv_90_6, fv_90_7, fv_90_8, fv_90_9, fv_90_10, fv_90_11, fv_90_12, fv_90_13, fv_90_14, fv_90_15, fv_90_16, fv_90_17, fv_90_18, fv_90_19, fv_90_20, fv_90_21, fv_90_22, fv_90_23, fv_90_24, fv_90_25, ak_91, al_91, ak_92, al_92, ak_93, al_93, ak_94, al_94, ak_95, al_95, ak_96, al_96, ak_97, al_97, ak_98, al_98, ak_99, al_99, ak_100, al_100, rf_100, ak_101, al_101, ak_102, al_102, ak_103, al_103, ak_104, al_104, ak_105, al_105, ak_106, al_106, tn_add, tn_mul, iI_long, jJ_int, k_X11_refuse (show _ ≤ D by omega), ltT, ltF, leT, leF, eqT, eqF, iI_add, iI_sub, iI_mul, iI_neg, iI_lt, iI_le, iI_eq, iI_toInt, tn_n, tn_1, inb_I, Int.reduceEq, Int.reduceLT, Int.reduceLE, Int.reduceAdd, Int.reduceSub, Int.reduceMul, Int.reduceNeg, Int.reduceToNat, Nat.reduceAdd, Nat.reduceMul, Int.reduceNatCast, reduceCtorEq, Int.cast_ofNat_Int, bi_tr, bi_fa, bi_0, bi_1, not_true_eq_false, not_false_eq_true, rnk_v, rnk_n, ↓reduceIte, i00, i11, ibi, or_true, true_or, and_true, true_and, List.cons_append, List.nil_append, Option.toList, nop])
  rw [if_neg e1]
  by_cases e2 : 1 ≤ n ∧ n ≤ 60
  rotate_left
  · rw [if_pos e2]
    exact okR_rf hC (by omega) (by omega) (by simp (maxSteps := 4000000) (disch := omega) only [e2, r3, eqF (show ¬ (kC (stK S) : Int) = 0 by omega), en_X11_months, s_X11_months_0, s_X11_months_1, s_X11_months_4, s_X11_months_6, s_X11_months_7, s_X11_months_10, s_X11_months_11, s_X11_months_13, s_X11_months_16, s_X11_months_17, s_X11_months_18, s_X11_months_19, s_X11_months_20, s_X11_months_23, s_X11_months_26, s_X11_months_29, s_X11_months_30, s_X11_months_32, s_X11_months_35, s_X11_months_36, s_X11_months_37, s_X11_months_38, s_X11_months_39, s_X11_months_40, s_X11_months_43, s_X11_months_44, s_X11_months_45, s_X11_months_48, s_X11_months_50, s_X11_months_51, s_X11_months_54, s_X11_months_55, s_X11_months_56, s_X11_months_57, s_X11_months_60, s_X11_months_62, s_X11_months_63, s_X11_months_66, s_X11_months_68, s_X11_months_69, s_X11_months_70, s_X11_months_72, s_X11_months_73, s_X11_months_74, s_X11_months_77, s_X11_months_78, s_X11_months_81, s_X11_months_82, s_X11_months_85, s_X11_months_86, s_X11_months_89, s_X11_months_90, s_X11_months_93, s_X11_months_96, s_X11_months_97, s_X11_months_100, s_X11_months_102, s_X11_months_103, cls_90, fv_90_0, fv_90_1, fv_90_2, fv_90_3, fv_90_4, fv_90_5, fv_90_6, fv_90_7, fv_90_8, fv_90_9, fv_90_10, fv_90_11, fv_90_12, fv_90_13, fv_90_14, fv_90_15, fv_90_16, fv_90_17, fv_90_18, fv_90_19, fv_90_20, fv_90_21, fv_90_22, fv_90_23, fv_90_24, fv_90_25, ak_91, al_91, ak_92, al_92, ak_93, al_93, ak_94, al_94, ak_95, al_95, ak_96, al_96, ak_97, al_97, ak_98, al_98, ak_99, al_99, ak_100, al_100, rf_100, ak_101, al_101, ak_102, al_102, ak_103, al_103, ak_104, al_104, ak_105, al_105, ak_106, al_106, tn_add, tn_mul, iI_long, jJ_int, k_X11_refuse (show _ ≤ D by omega), k_X11_isIn (show _ ≤ D by omega), ltT, ltF, leT, leF, eqT, eqF, iI_add, iI_sub, iI_mul, iI_neg, iI_lt, iI_le, iI_eq, iI_toInt, tn_n, tn_1, inb_I, Int.reduceEq, Int.reduceLT, Int.reduceLE, Int.reduceAdd, Int.reduceSub, Int.reduceMul, Int.reduceNeg, Int.reduceToNat, Nat.reduceAdd, Nat.reduceMul, Int.reduceNatCast, reduceCtorEq, Int.cast_ofNat_Int, bi_tr, bi_fa, bi_0, bi_1, not_true_eq_false, not_false_eq_true, rnk_v, rnk_n, ↓reduceIte, i00, i11, ibi, or_true, true_or, and_true, true_and, List.cons_append, List.nil_append, Option.toList, nop])
  rw [if_neg (fun q => q e2)]
  obtain ⟨n, rfl⟩ : ∃ u : Nat, n = u := ⟨n.toNat, by omega⟩
  simp only [Int.toNat_natCast]
  obtain ⟨⟨M', x3, x4⟩, l1, l2, l3, l4⟩ := lp (f := fun k (a : tM × Option Value × Option Value) => rn (exF D) C_X11_months 38 [some (.ref 90), some (.int (iI n)), some (.int (iI k)), a.2.1, a.2.2] [] a.1) (P := fun k a => Sm [90, 92, 101] M a.1 ∧ RepN a.1 92 (mnN (stK S) k) ∧ ∀ j, j ≠ 19 → j ≠ 20 → a.1.1 90 j = M.1 90 j) (n := n) (by
    rintro k ⟨N, x3, x4⟩ hk ⟨p1, p2, p3⟩
    have hK := mnN_inv i1 (show 0 < kC (stK S) by omega) k
    have hc : 0 < kC (mnN (stK S) k) := by rw [mnN_C]; omega
    obtain ⟨N1, q1, q2, q3, q4⟩ := l_drawn (D := D) (by omega) p2 hK hc n k x3 x4
    refine ⟨(N1, some (.int (iI (mnC (mnN (stK S) k)))), some (.int (iI (mnD (mnN (stK S) k))))), ?_, Sm_tr p1 q3, q2, fun j h1 h2 => (q4 j h1 h2).trans (p3 j h1 h2)⟩
    intro X hX
    show rn _ _ _ _ _ _ = X
    rw [s_X11_months_38]
    simp (maxSteps := 4000000) (disch := omega) only [s_X11_months_39, s_X11_months_40, leF, iI_add, iI_sub, iI_mul, iI_neg, iI_lt, iI_le, iI_eq, iI_toInt, tn_n, tn_1, inb_I, Int.reduceEq, Int.reduceLT, Int.reduceLE, Int.reduceAdd, Int.reduceSub, Int.reduceMul, Int.reduceNeg, Int.reduceToNat, Nat.reduceAdd, Nat.reduceMul, Int.reduceNatCast, reduceCtorEq, Int.cast_ofNat_Int, bi_tr, bi_fa, bi_0, bi_1, not_true_eq_false, not_false_eq_true, rnk_v, rnk_n, ↓reduceIte, i00, i11, ibi, or_true, true_or, and_true, true_and, List.cons_append, List.nil_append, Option.toList, nop]
    rw [q1]
    simp (maxSteps := 4000000) (disch := omega) only [s_X11_months_90, s_X11_months_93, iI_add, iI_sub, iI_mul, iI_neg, iI_lt, iI_le, iI_eq, iI_toInt, tn_n, tn_1, inb_I, Int.reduceEq, Int.reduceLT, Int.reduceLE, Int.reduceAdd, Int.reduceSub, Int.reduceMul, Int.reduceNeg, Int.reduceToNat, Nat.reduceAdd, Nat.reduceMul, Int.reduceNatCast, reduceCtorEq, Int.cast_ofNat_Int, bi_tr, bi_fa, bi_0, bi_1, not_true_eq_false, not_false_eq_true, rnk_v, rnk_n, ↓reduceIte, i00, i11, ibi, or_true, true_or, and_true, true_and, List.cons_append, List.nil_append, Option.toList, nop]
    exact hX) (Nat.zero_le _) (a := (M, none, none)) ⟨Sm_rf _ _, c1, fun _ _ _ => rfl⟩
  have l2' : Sm [90, 92, 101] M M' := l2
  have l3' : RepN M' 92 (mnN (stK S) n) := l3
  have l4' : ∀ j, j ≠ 19 → j ≠ 20 → M'.1 90 j = M.1 90 j := l4
  have v1 := l3'.1.2.2.2.2.1
  refine ⟨M', ?_, RelR_Ks hC l3' l2' (by simp) (l4' 4 (by omega) (by omega)) (l4' 13 (by omega) (by omega)) (l4' 22 (by omega) (by omega)), SmR_of l2' (by simp)⟩
  simp (maxSteps := 4000000) (disch := omega) only [en_X11_months, s_X11_months_0, s_X11_months_1, s_X11_months_4, s_X11_months_6, s_X11_months_7, s_X11_months_10, s_X11_months_11, s_X11_months_13, s_X11_months_16, s_X11_months_17, s_X11_months_18, s_X11_months_19, s_X11_months_20, s_X11_months_23, s_X11_months_26, s_X11_months_29, s_X11_months_30, s_X11_months_32, s_X11_months_35, s_X11_months_36, s_X11_months_37, cls_90, fv_90_0, fv_90_1, fv_90_2, fv_90_3, fv_90_4, fv_90_5, fv_90_6, fv_90_7, fv_90_8, fv_90_9, fv_90_10, fv_90_11, fv_90_12, fv_90_13, fv_90_14, fv_90_15, fv_90_16, fv_90_17, fv_90_18, fv_90_19, fv_90_20, fv_90_21, fv_90_22, fv_90_23, fv_90_24, fv_90_25, ak_91, al_91, ak_92, al_92, ak_93, al_93, ak_94, al_94, ak_95, al_95, ak_96, al_96, ak_97, al_97, ak_98, al_98, ak_99, al_99, ak_100, al_100, rf_100, ak_101, al_101, ak_102, al_102, ak_103, al_103, ak_104, al_104, ak_105, al_105, ak_106, al_106, tn_add, tn_mul, iI_long, jJ_int, r3, eqF (show ¬ (kC (stK S) : Int) = 0 by omega), k_X11_isIn (show _ ≤ D by omega), bi_t e2, iI_add, iI_sub, iI_mul, iI_neg, iI_lt, iI_le, iI_eq, iI_toInt, tn_n, tn_1, inb_I, Int.reduceEq, Int.reduceLT, Int.reduceLE, Int.reduceAdd, Int.reduceSub, Int.reduceMul, Int.reduceNeg, Int.reduceToNat, Nat.reduceAdd, Nat.reduceMul, Int.reduceNatCast, reduceCtorEq, Int.cast_ofNat_Int, bi_tr, bi_fa, bi_0, bi_1, not_true_eq_false, not_false_eq_true, rnk_v, rnk_n, ↓reduceIte, i00, i11, ibi, or_true, true_or, and_true, true_and, List.cons_append, List.nil_append, Option.toList, nop]
  refine l1.trans ?_
  simp (maxSteps := 4000000) (disch := omega) only [s_X11_months_38, s_X11_months_39, s_X11_months_40, s_X11_months_43, s_X11_months_44, s_X11_months_45, s_X11_months_48, s_X11_months_50, s_X11_months_51, s_X11_months_54, s_X11_months_55, s_X11_months_56, s_X11_months_57, s_X11_months_60, s_X11_months_62, s_X11_months_63, s_X11_months_66, s_X11_months_68, s_X11_months_69, s_X11_months_70, s_X11_months_72, s_X11_months_73, s_X11_months_74, s_X11_months_77, s_X11_months_78, s_X11_months_81, s_X11_months_82, s_X11_months_85, s_X11_months_86, s_X11_months_89, s_X11_months_90, s_X11_months_93, s_X11_months_96, s_X11_months_97, s_X11_months_100, s_X11_months_102, s_X11_months_103, cls_90, fv_90_0, fv_90_1, fv_90_2, fv_90_3, fv_90_4, fv_90_5, fv_90_6, fv_90_7, fv_90_8, fv_90_9, fv_90_10, fv_90_11, fv_90_12, fv_90_13, fv_90_14, fv_90_15, fv_90_16, fv_90_17, fv_90_18, fv_90_19, fv_90_20, fv_90_21, fv_90_22, fv_90_23, fv_90_24, fv_90_25, ak_91, al_91, ak_92, al_92, ak_93, al_93, ak_94, al_94, ak_95, al_95, ak_96, al_96, ak_97, al_97, ak_98, al_98, ak_99, al_99, ak_100, al_100, rf_100, ak_101, al_101, ak_102, al_102, ak_103, al_103, ak_104, al_104, ak_105, al_105, ak_106, al_106, tn_add, tn_mul, iI_long, jJ_int, v1, iI_of, leT, iI_add, iI_sub, iI_mul, iI_neg, iI_lt, iI_le, iI_eq, iI_toInt, tn_n, tn_1, inb_I, Int.reduceEq, Int.reduceLT, Int.reduceLE, Int.reduceAdd, Int.reduceSub, Int.reduceMul, Int.reduceNeg, Int.reduceToNat, Nat.reduceAdd, Nat.reduceMul, Int.reduceNatCast, reduceCtorEq, Int.cast_ofNat_Int, bi_tr, bi_fa, bi_0, bi_1, not_true_eq_false, not_false_eq_true, rnk_v, rnk_n, ↓reduceIte, i00, i11, ibi, or_true, true_or, and_true, true_and, List.cons_append, List.nil_append, Option.toList, nop]
