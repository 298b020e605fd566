/-! THE REFERENCE: calls of one step -/
theorem k_X11_addDesk {D : Nat} (hD : 1 ≤ D) {M : tM} {K : tK} (hR : RepN M 92 K) (hI : kInv K) (h : kD K < 8) : ∃ M', exF D m_X11_addDesk [.ref 90] M = some (some (.int (iI (kD K))), M') ∧ RepN M' 92 (uDesk K) ∧ Sm [92] M M' := by
  obtain ⟨D, rfl⟩ : ∃ D0, D = D0 + 1 := ⟨D - 1, by omega⟩
  have g0 := kI_n hI
  obtain ⟨⟨r1, r2, r3, r4, r5, r6⟩, r7, r8, r9⟩ := hR
  refine ⟨sI (sI M 92 (80 + kD K) (iI 0)) 92 108 (iI ((kD K : Int) + 1)), ?_, ?_, Sm_tr (Sm_sI (by simp)) (Sm_sI (by simp))⟩
  · simp (maxSteps := 4000000) (disch := omega) only [en_X11_addDesk, s_X11_addDesk_0, s_X11_addDesk_1, s_X11_addDesk_4, s_X11_addDesk_6, s_X11_addDesk_7, s_X11_addDesk_8, s_X11_addDesk_9, s_X11_addDesk_12, s_X11_addDesk_14, s_X11_addDesk_15, s_X11_addDesk_16, s_X11_addDesk_17, s_X11_addDesk_18, s_X11_addDesk_19, s_X11_addDesk_22, s_X11_addDesk_24, s_X11_addDesk_25, s_X11_addDesk_26, s_X11_addDesk_27, s_X11_addDesk_28, s_X11_addDesk_29, s_X11_addDesk_30, cls_90, fv_90_0, fv_90_1, fv_90_2, fv_90_3, fv_90_4, fv_90_5, fv_90_6, fv_90_7, fv_90_8, fv_90_9, fv_90_10, fv_90_11, fv_90_12, fv_90_13, fv_90_14, fv_90_15, fv_90_16, fv_90_17, fv_90_18, fv_90_19, fv_90_20, fv_90_21, fv_90_22, fv_90_23, fv_90_24, fv_90_25, ak_91, al_91, ak_92, al_92, ak_93, al_93, ak_94, al_94, ak_95, al_95, ak_96, al_96, ak_97, al_97, ak_98, al_98, ak_99, al_99, ak_100, al_100, rf_100, ak_101, al_101, ak_102, al_102, ak_103, al_103, ak_104, al_104, ak_105, al_105, ak_106, al_106, tn_add, tn_mul, iI_long, jJ_int, r1, sI_k, iI_add, iI_sub, iI_mul, iI_neg, iI_lt, iI_le, iI_eq, iI_toInt, tn_n, tn_1, inb_I, Int.reduceEq, Int.reduceLT, Int.reduceLE, Int.reduceAdd, Int.reduceSub, Int.reduceMul, Int.reduceNeg, Int.reduceToNat, Nat.reduceAdd, Nat.reduceMul, Int.reduceNatCast, reduceCtorEq, Int.cast_ofNat_Int, bi_tr, bi_fa, bi_0, bi_1, not_true_eq_false, not_false_eq_true, rnk_v, rnk_n, ↓reduceIte, i00, i11, ibi, or_true, true_or, and_true, true_and, List.cons_append, List.nil_append, Option.toList, nop]
  · unfold RepN
    simp (disch := omega) only [sI_s, sI_k]
    refine ⟨⟨by rw [kD_uDesk]; rfl, r2, r3, r4, r5, r6⟩, ?_, ?_, ?_⟩
    · intro d hd
      rw [kD_uDesk] at hd
      simp (disch := omega) only [sI_k]
      by_cases e : d = kD K
      · subst e; rw [sI_s]; simp [uDesk, ks, kS, kD]
      · rw [sI_k _ _ (by omega), r7 d (by omega)]
        simp [uDesk, ks, kS, kD] at e ⊢
        simp [e]
    · intro t ht
      have ht' : t < kT K := ht
      simp (disch := omega) only [sI_k]
      exact r8 t ht'
    · intro c hc
      have hc' : c < kC K := hc
      simp (disch := omega) only [sI_k]
      exact r9 c hc'
theorem k_X11_addTube {D : Nat} (hD : 1 ≤ D) {M : tM} {K : tK} (hR : RepN M 92 K) (hI : kInv K) (h : kT K < 16) {f o l w : Nat} : ∃ M', exF D m_X11_addTube [.ref 90, .int (iI f), .int (iI o), .int (iI l), .int (iI w)] M = some (some (.int (iI (kT K))), M') ∧ RepN M' 92 (uTube K f o l w) ∧ Sm [92] M M' := by
  obtain ⟨D, rfl⟩ : ∃ D0, D = D0 + 1 := ⟨D - 1, by omega⟩
  have g0 := kI_n hI
  obtain ⟨⟨r1, r2, r3, r4, r5, r6⟩, r7, r8, r9⟩ := hR
  refine ⟨sI (sI (sI (sI (sI (sI M 92 (5 * kT K) (iI f)) 92 (5 * kT K + 1) (iI o)) 92 (5 * kT K + 2) (iI l)) 92 (5 * kT K + 3) (iI w)) 92 (5 * kT K + 4) (iI 0)) 92 109 (iI ((kT K : Int) + 1)), ?_, ?_, Sm_tr (Sm_tr (Sm_tr (Sm_tr (Sm_tr (Sm_sI ?_) (Sm_sI ?_)) (Sm_sI ?_)) (Sm_sI ?_)) (Sm_sI ?_)) (Sm_sI ?_)⟩
  · simp (maxSteps := 4000000) (disch := omega) only [en_X11_addTube, s_X11_addTube_0, s_X11_addTube_1, s_X11_addTube_4, s_X11_addTube_6, s_X11_addTube_7, s_X11_addTube_9, s_X11_addTube_10, s_X11_addTube_13, s_X11_addTube_14, s_X11_addTube_16, s_X11_addTube_17, s_X11_addTube_18, s_X11_addTube_19, s_X11_addTube_20, s_X11_addTube_23, s_X11_addTube_24, s_X11_addTube_26, s_X11_addTube_27, s_X11_addTube_28, s_X11_addTube_29, s_X11_addTube_30, s_X11_addTube_31, s_X11_addTube_32, s_X11_addTube_35, s_X11_addTube_36, s_X11_addTube_38, s_X11_addTube_39, s_X11_addTube_40, s_X11_addTube_41, s_X11_addTube_42, s_X11_addTube_43, s_X11_addTube_44, s_X11_addTube_47, s_X11_addTube_48, s_X11_addTube_50, s_X11_addTube_51, s_X11_addTube_52, s_X11_addTube_53, s_X11_addTube_55, s_X11_addTube_56, s_X11_addTube_57, s_X11_addTube_60, s_X11_addTube_61, s_X11_addTube_63, s_X11_addTube_64, s_X11_addTube_65, s_X11_addTube_66, s_X11_addTube_67, s_X11_addTube_68, s_X11_addTube_69, s_X11_addTube_72, s_X11_addTube_74, s_X11_addTube_75, s_X11_addTube_76, s_X11_addTube_77, s_X11_addTube_78, s_X11_addTube_79, s_X11_addTube_81, cls_90, fv_90_0, fv_90_1, fv_90_2, fv_90_3, fv_90_4, fv_90_5, fv_90_6, fv_90_7, fv_90_8, fv_90_9, fv_90_10, fv_90_11, fv_90_12, fv_90_13, fv_90_14, fv_90_15, fv_90_16, fv_90_17, fv_90_18, fv_90_19, fv_90_20, fv_90_21, fv_90_22, fv_90_23, fv_90_24, fv_90_25, ak_91, al_91, ak_92, al_92, ak_93, al_93, ak_94, al_94, ak_95, al_95, ak_96, al_96, ak_97, al_97, ak_98, al_98, ak_99, al_99, ak_100, al_100, rf_100, ak_101, al_101, ak_102, al_102, ak_103, al_103, ak_104, al_104, ak_105, al_105, ak_106, al_106, tn_add, tn_mul, iI_long, jJ_int, r2, sI_k, iI_add, iI_sub, iI_mul, iI_neg, iI_lt, iI_le, iI_eq, iI_toInt, tn_n, tn_1, inb_I, Int.reduceEq, Int.reduceLT, Int.reduceLE, Int.reduceAdd, Int.reduceSub, Int.reduceMul, Int.reduceNeg, Int.reduceToNat, Nat.reduceAdd, Nat.reduceMul, Int.reduceNatCast, reduceCtorEq, Int.cast_ofNat_Int, bi_tr, bi_fa, bi_0, bi_1, not_true_eq_false, not_false_eq_true, rnk_v, rnk_n, ↓reduceIte, i00, i11, ibi, or_true, true_or, and_true, true_and, List.cons_append, List.nil_append, Option.toList, nop]
  · unfold RepN
    simp (disch := omega) only [sI_s, sI_k]
    refine ⟨⟨r1, by rw [kT_uTube]; rfl, r3, r4, r5, r6⟩, ?_, ?_, ?_⟩
    · intro d hd
      have hd' : d < kD K := hd
      simp (disch := omega) only [sI_k]
      exact r7 d hd'
    · intro t ht
      rw [kT_uTube] at ht
      simp (disch := omega) only [sI_k]
      by_cases e : t = kT K
      · subst e
        simp (disch := omega) only [sI_s, sI_k]
        simp [uTube, ks, kF, kO, kL, kB, kH, kT]
      · simp (disch := omega) only [sI_k]
        rw [(r8 t (by omega)).1, (r8 t (by omega)).2.1, (r8 t (by omega)).2.2.1, (r8 t (by omega)).2.2.2.1, (r8 t (by omega)).2.2.2.2]
        simp [uTube, ks, kF, kO, kL, kB, kH, kT] at e ⊢
        simp [e]
    · intro c hc
      have hc' : c < kC K := hc
      simp (disch := omega) only [sI_k]
      exact r9 c hc'
  all_goals simp
theorem k_X11_addCapsule {D : Nat} (hD : 1 ≤ D) {M : tM} {K : tK} (hR : RepN M 92 K) (hI : kInv K) (h : kC K < 5) {k a w x : Nat} : ∃ M', exF D m_X11_addCapsule [.ref 90, .int (iI k), .int (iI a), .int (iI w), .int (iI x)] M = some (some (.int (iI (kC K))), M') ∧ RepN M' 92 (uCap K k a w x) ∧ Sm [92] M M' := by
  obtain ⟨D, rfl⟩ : ∃ D0, D = D0 + 1 := ⟨D - 1, by omega⟩
  have g0 := kI_n hI
  obtain ⟨⟨r1, r2, r3, r4, r5, r6⟩, r7, r8, r9⟩ := hR
  refine ⟨sI (sI (sI (sI (sI M 92 (88 + 4 * kC K) (iI k)) 92 (88 + 4 * kC K + 1) (iI a)) 92 (88 + 4 * kC K + 2) (iI w)) 92 (88 + 4 * kC K + 3) (iI x)) 92 110 (iI ((kC K : Int) + 1)), ?_, ?_, Sm_tr (Sm_tr (Sm_tr (Sm_tr (Sm_sI ?_) (Sm_sI ?_)) (Sm_sI ?_)) (Sm_sI ?_)) (Sm_sI ?_)⟩
  · simp (maxSteps := 4000000) (disch := omega) only [en_X11_addCapsule, s_X11_addCapsule_0, s_X11_addCapsule_1, s_X11_addCapsule_4, s_X11_addCapsule_6, s_X11_addCapsule_7, s_X11_addCapsule_9, s_X11_addCapsule_10, s_X11_addCapsule_13, s_X11_addCapsule_15, s_X11_addCapsule_16, s_X11_addCapsule_18, s_X11_addCapsule_19, s_X11_addCapsule_20, s_X11_addCapsule_21, s_X11_addCapsule_22, s_X11_addCapsule_23, s_X11_addCapsule_26, s_X11_addCapsule_28, s_X11_addCapsule_29, s_X11_addCapsule_31, s_X11_addCapsule_32, s_X11_addCapsule_33, s_X11_addCapsule_34, s_X11_addCapsule_35, s_X11_addCapsule_36, s_X11_addCapsule_37, s_X11_addCapsule_38, s_X11_addCapsule_41, s_X11_addCapsule_43, s_X11_addCapsule_44, s_X11_addCapsule_46, s_X11_addCapsule_47, s_X11_addCapsule_48, s_X11_addCapsule_49, s_X11_addCapsule_50, s_X11_addCapsule_51, s_X11_addCapsule_52, s_X11_addCapsule_53, s_X11_addCapsule_56, s_X11_addCapsule_58, s_X11_addCapsule_59, s_X11_addCapsule_61, s_X11_addCapsule_62, s_X11_addCapsule_63, s_X11_addCapsule_64, s_X11_addCapsule_65, s_X11_addCapsule_67, s_X11_addCapsule_68, s_X11_addCapsule_69, s_X11_addCapsule_72, s_X11_addCapsule_74, s_X11_addCapsule_75, s_X11_addCapsule_76, s_X11_addCapsule_77, s_X11_addCapsule_78, s_X11_addCapsule_79, s_X11_addCapsule_81, cls_90, fv_90_0, fv_90_1, fv_90_2, fv_90_3, fv_90_4, fv_90_5, fv_90_6, fv_90_7, fv_90_8, fv_90_9, fv_90_10, fv_90_11, fv_90_12, fv_90_13, fv_90_14, fv_90_15, fv_90_16, fv_90_17, fv_90_18, fv_90_19, fv_90_20, fv_90_21, fv_90_22, fv_90_23, fv_90_24, fv_90_25, ak_91, al_91, ak_92, al_92, ak_93, al_93, ak_94, al_94, ak_95, al_95, ak_96, al_96, ak_97, al_97, ak_98, al_98, ak_99, al_99, ak_100, al_100, rf_100, ak_101, al_101, ak_102, al_102, ak_103, al_103, ak_104, al_104, ak_105, al_105, ak_106, al_106, tn_add, tn_mul, iI_long, jJ_int, r3, sI_k, iI_add, iI_sub, iI_mul, iI_neg, iI_lt, iI_le, iI_eq, iI_toInt, tn_n, tn_1, inb_I, Int.reduceEq, Int.reduceLT, Int.reduceLE, Int.reduceAdd, Int.reduceSub, Int.reduceMul, Int.reduceNeg, Int.reduceToNat, Nat.reduceAdd, Nat.reduceMul, Int.reduceNatCast, reduceCtorEq, Int.cast_ofNat_Int, bi_tr, bi_fa, bi_0, bi_1, not_true_eq_false, not_false_eq_true, rnk_v, rnk_n, ↓reduceIte, i00, i11, ibi, or_true, true_or, and_true, true_and, List.cons_append, List.nil_append, Option.toList, nop]
  · unfold RepN
    simp (disch := omega) only [sI_s, sI_k]
    refine ⟨⟨r1, r2, by rw [kC_uCap]; rfl, r4, r5, r6⟩, ?_, ?_, ?_⟩
    · intro d hd
      have hd' : d < kD K := hd
      simp (disch := omega) only [sI_k]
      exact r7 d hd'
    · intro t ht
      have ht' : t < kT K := ht
      simp (disch := omega) only [sI_k]
      exact r8 t ht'
    · intro t ht
      rw [kC_uCap] at ht
      simp (disch := omega) only [sI_k]
      by_cases e : t = kC K
      · subst e
        simp (disch := omega) only [sI_s, sI_k]
        simp [uCap, ks, kK, kA, kW, kX, kC]
      · simp (disch := omega) only [sI_k]
        rw [(r9 t (by omega)).1, (r9 t (by omega)).2.1, (r9 t (by omega)).2.2.1, (r9 t (by omega)).2.2.2]
        simp [uCap, ks, kK, kA, kW, kX, kC] at e ⊢
        simp [e]
  all_goals simp
theorem uShut_RepN {M : tM} {K : tK} (hR : RepN M 92 K) (hI : kInv K) {t v : Nat} (ht : t < kT K) : RepN (sI M 92 (5 * t + 4) (iI v)) 92 (uShut K t v) := by
  have g0 := kI_n hI
  obtain ⟨⟨r1, r2, r3, r4, r5, r6⟩, r7, r8, r9⟩ := hR
  unfold RepN
  simp (disch := omega) only [sI_k]
  refine ⟨⟨r1, r2, r3, r4, r5, r6⟩, ?_, ?_, ?_⟩
  · intro d hd
    have hd' : d < kD K := hd
    try simp (disch := omega) only [sI_k]
    exact r7 d hd'
  · intro u hu
    have hu' : u < kT K := hu
    try simp (disch := omega) only [sI_k]
    obtain ⟨e1, e2, e3, e4, e5⟩ := r8 u hu'
    refine ⟨e1, e2, e3, e4, ?_⟩
    by_cases e : u = t
    · subst e; rw [sI_s]; simp [uShut, ks, kH]
    · rw [sI_k _ _ (by omega), e5]; simp [uShut, ks, kH, e]
  · intro c hc
    have hc' : c < kC K := hc
    try simp (disch := omega) only [sI_k]
    exact r9 c hc'
theorem uPres_RepN {M : tM} {K : tK} (hR : RepN M 92 K) (hI : kInv K) (v : Nat) : RepN (sI M 92 111 (iI v)) 92 (uPres K v) := by
  have g0 := kI_n hI
  obtain ⟨⟨r1, r2, r3, r4, r5, r6⟩, r7, r8, r9⟩ := hR
  unfold RepN
  simp (disch := omega) only [sI_k, sI_s]
  refine ⟨⟨r1, r2, r3, rfl, r5, r6⟩, ?_, ?_, ?_⟩
  · intro d hd
    have hd' : d < kD K := hd
    simp (disch := omega) only [sI_k]
    exact r7 d hd'
  · intro u hu
    have hu' : u < kT K := hu
    simp (disch := omega) only [sI_k]
    exact r8 u hu'
  · intro c hc
    have hc' : c < kC K := hc
    simp (disch := omega) only [sI_k]
    exact r9 c hc'
theorem uSeed_RepN {M : tM} {K : tK} (hR : RepN M 92 K) (hI : kInv K) (v : Int32) : RepN (sI M 92 113 v) 92 (uSeed K v) := by
  have g0 := kI_n hI
  obtain ⟨⟨r1, r2, r3, r4, r5, r6⟩, r7, r8, r9⟩ := hR
  unfold RepN
  simp (disch := omega) only [sI_k, sI_s]
  refine ⟨⟨r1, r2, r3, r4, r5, rfl⟩, ?_, ?_, ?_⟩
  · intro d hd
    have hd' : d < kD K := hd
    simp (disch := omega) only [sI_k]
    exact r7 d hd'
  · intro u hu
    have hu' : u < kT K := hu
    simp (disch := omega) only [sI_k]
    exact r8 u hu'
  · intro c hc
    have hc' : c < kC K := hc
    simp (disch := omega) only [sI_k]
    exact r9 c hc'
/-- a row of numbers goes over -/
theorem k_X11_move {D : Nat} (hD : 1 ≤ D) {M : tM} {a b : Nat} (ha : a = 92 ∨ a = 93 ∨ a = 94) (hb : b = 92 ∨ b = 93 ∨ b = 94) (hab : a ≠ b) : ∃ M', exF D m_X11_move [.ref a, .ref b] M = some (none, M') ∧ (∀ k, k < 114 → M'.1 b k = M.1 a k) ∧ Sm [b] M M' := by
  obtain ⟨D, rfl⟩ : ∃ D0, D = D0 + 1 := ⟨D - 1, by omega⟩
  have a1 : akind a = 0 := by rcases ha with rfl | rfl | rfl <;> rfl
  have a2 : akind b = 0 := by rcases hb with rfl | rfl | rfl <;> rfl
  have a3 : ∀ M, alen M a = 114 := by rcases ha with rfl | rfl | rfl <;> exact fun _ => rfl
  have a4 : ∀ M, alen M b = 114 := by rcases hb with rfl | rfl | rfl <;> exact fun _ => rfl
  obtain ⟨M', e, h3, h4⟩ := lp (f := fun i (N : tM) => rn (exF D) C_X11_move 2 [some (.ref a), some (.ref b), some (.int (iI i))] [] N) (P := fun i N => Sm [b] M N ∧ ∀ k, k < i → N.1 b k = M.1 a k) (n := 114) (by
    rintro i N hi ⟨p1, p2⟩
    refine ⟨sI N b i (N.1 a i), ?_, Sm_tr p1 (Sm_sI (by simp)), ?_⟩
    · intro X hX
      show rn _ _ _ _ _ _ = X
      rw [s_X11_move_2]
      simp (maxSteps := 4000000) (disch := omega) only [s_X11_move_3, s_X11_move_5, s_X11_move_8, s_X11_move_9, s_X11_move_10, s_X11_move_11, s_X11_move_12, s_X11_move_13, s_X11_move_14, s_X11_move_17, a1, a2, a3, a4, leF, iI_add, iI_sub, iI_mul, iI_neg, iI_lt, iI_le, iI_eq, iI_toInt, tn_n, tn_1, inb_I, Int.reduceEq, Int.reduceLT, Int.reduceLE, Int.reduceAdd, Int.reduceSub, Int.reduceMul, Int.reduceNeg, Int.reduceToNat, Nat.reduceAdd, Nat.reduceMul, Int.reduceNatCast, reduceCtorEq, Int.cast_ofNat_Int, bi_tr, bi_fa, bi_0, bi_1, not_true_eq_false, not_false_eq_true, rnk_v, rnk_n, ↓reduceIte, i00, i11, ibi, or_true, true_or, and_true, true_and, List.cons_append, List.nil_append, Option.toList, nop]
      exact hX
    · intro k hk
      by_cases e : k = i
      · subst e; rw [sI_s, (p1 a (by simp; omega)).1]
      · rw [sI_k _ _ e]; exact p2 k (by omega)) (Nat.zero_le _) (a := M) ⟨Sm_rf _ _, fun q hq => absurd hq (by omega)⟩
  refine ⟨M', ?_, h4, h3⟩
  simp (maxSteps := 4000000) (disch := omega) only [en_X11_move, s_X11_move_0, s_X11_move_1, Int.reduceEq, Int.reduceLT, Int.reduceLE, Int.reduceAdd, Int.reduceSub, Int.reduceMul, Int.reduceNeg, Int.reduceToNat, Nat.reduceAdd, Nat.reduceMul, Int.reduceNatCast, reduceCtorEq, Int.cast_ofNat_Int, bi_tr, bi_fa, bi_0, bi_1, not_true_eq_false, not_false_eq_true, rnk_v, rnk_n, ↓reduceIte, i00, i11, ibi, or_true, true_or, and_true, true_and, List.cons_append, List.nil_append, Option.toList, nop]
  refine e.trans ?_
  simp (maxSteps := 4000000) (disch := omega) only [s_X11_move_0, s_X11_move_1, s_X11_move_2, s_X11_move_3, s_X11_move_5, s_X11_move_8, s_X11_move_9, s_X11_move_10, s_X11_move_11, s_X11_move_12, s_X11_move_13, s_X11_move_14, s_X11_move_17, s_X11_move_20, leT, iI_add, iI_sub, iI_mul, iI_neg, iI_lt, iI_le, iI_eq, iI_toInt, tn_n, tn_1, inb_I, Int.reduceEq, Int.reduceLT, Int.reduceLE, Int.reduceAdd, Int.reduceSub, Int.reduceMul, Int.reduceNeg, Int.reduceToNat, Nat.reduceAdd, Nat.reduceMul, Int.reduceNatCast, reduceCtorEq, Int.cast_ofNat_Int, bi_tr, bi_fa, bi_0, bi_1, not_true_eq_false, not_false_eq_true, rnk_v, rnk_n, ↓reduceIte, i00, i11, ibi, or_true, true_or, and_true, true_and, List.cons_append, List.nil_append, Option.toList, nop]
theorem RepN_mv {M M' : tM} {a b : Nat} {K : tK} (hR : RepN M a K) (hI : kInv K) (h : ∀ k, k < 114 → M'.1 b k = M.1 a k) : RepN M' b K := by
  have g0 := kI_n hI
  obtain ⟨⟨r1, r2, r3, r4, r5, r6⟩, r7, r8, r9⟩ := hR
  unfold RepN
  refine ⟨⟨by rw [h _ (by omega)]; exact r1, by rw [h _ (by omega)]; exact r2, by rw [h _ (by omega)]; exact r3, by rw [h _ (by omega)]; exact r4, by rw [h _ (by omega)]; exact r5, by rw [h _ (by omega)]; exact r6⟩, ?_, ?_, ?_⟩
  · intro d hd
    rw [h _ (by omega)]; exact r7 d hd
  · intro t ht
    rw [h _ (by omega), h _ (by omega), h _ (by omega), h _ (by omega), h _ (by omega)]; exact r8 t ht
  · intro c hc
    rw [h _ (by omega), h _ (by omega), h _ (by omega), h _ (by omega)]; exact r9 c hc
theorem d_row {D : Nat} (hD : 3 ≤ D) {M : tM} {S : tS} (hC : RelR S M) (hI : sInv S) {s sort n : Int} (gs : -2147483648 ≤ s ∧ s ≤ 2147483647) (gsort : -2147483648 ≤ sort ∧ sort ≤ 2147483647) (gn : -2147483648 ≤ n ∧ n ≤ 2147483647) : okR D m_X11_row [.ref 90, .int (iI s), .int (iI sort), .int (iI n)] M (p_row S s sort n) := by
  obtain ⟨D, rfl⟩ : ∃ D0, D = D0 + 1 := ⟨D - 1, by omega⟩
  obtain ⟨c1, c2, c3, c4, c5, c6, c7, c8, c9⟩ := id hC; obtain ⟨i1, i2, i3, i4, i5, i6, i7⟩ := id hI; have n0 := kI_n i1; obtain ⟨r1, r2, r3, r4, r5, r6⟩ := id c1.1
  unfold p_row
  by_cases e1 : 0 ≤ s ∧ s < 8
  rotate_left
  · rw [if_pos e1]
    exact okR_rf hC (by omega) (by omega) (by simp (maxSteps := 4000000) (disch := omega) only [e1, k_X11_isShelf (show _ ≤ D by omega), en_X11_row, s_X11_row_0, s_X11_row_1, s_X11_row_4, s_X11_row_7, s_X11_row_8, s_X11_row_9, s_X11_row_12, s_X11_row_13, s_X11_row_14, s_X11_row_17, s_X11_row_18, s_X11_row_20, s_X11_row_23, s_X11_row_24, s_X11_row_25, s_X11_row_26, s_X11_row_27, s_X11_row_30, s_X11_row_33, s_X11_row_36, s_X11_row_37, s_X11_row_39, s_X11_row_42, s_X11_row_43, s_X11_row_44, s_X11_row_47, s_X11_row_50, s_X11_row_51, s_X11_row_53, s_X11_row_56, s_X11_row_57, s_X11_row_58, s_X11_row_61, s_X11_row_62, s_X11_row_64, s_X11_row_65, s_X11_row_66, s_X11_row_67, s_X11_row_68, s_X11_row_71, s_X11_row_72, s_X11_row_73, s_X11_row_74, s_X11_row_75, s_X11_row_77, s_X11_row_79, s_X11_row_82, s_X11_row_85, s_X11_row_86, s_X11_row_89, s_X11_row_92, s_X11_row_93, s_X11_row_94, s_X11_row_96, s_X11_row_97, s_X11_row_98, s_X11_row_99, s_X11_row_102, s_X11_row_105, s_X11_row_106, cls_90, fv_90_0, fv_90_1, fv_90_2, fv_90_3, fv_90_4, fv_90_5, fv_90_6, fv_90_7, fv_90_8, fv_90_9, fv_90_10, fv_90_11, fv_90_12, fv_90_13, fv_90_14, fv_90_15, fv_90_16, fv_90_17, fv_90_18, fv_90_19, fv_90_20, fv_90_21, fv_90_22, fv_90_23, fv_90_24, fv_90_25, ak_91, al_91, ak_92, al_92, ak_93, al_93, ak_94, al_94, ak_95, al_95, ak_96, al_96, ak_97, al_97, ak_98, al_98, ak_99, al_99, ak_100, al_100, rf_100, ak_101, al_101, ak_102, al_102, ak_103, al_103, ak_104, al_104, ak_105, al_105, ak_106, al_106, tn_add, tn_mul, iI_long, jJ_int, k_X11_refuse (show _ ≤ D by omega), ltT, ltF, leT, leF, eqT, eqF, iI_add, iI_sub, iI_mul, iI_neg, iI_lt, iI_le, iI_eq, iI_toInt, tn_n, tn_1, inb_I, Int.reduceEq, Int.reduceLT, Int.reduceLE, Int.reduceAdd, Int.reduceSub, Int.reduceMul, Int.reduceNeg, Int.reduceToNat, Nat.reduceAdd, Nat.reduceMul, Int.reduceNatCast, reduceCtorEq, Int.cast_ofNat_Int, bi_tr, bi_fa, bi_0, bi_1, not_true_eq_false, not_false_eq_true, rnk_v, rnk_n, ↓reduceIte, i00, i11, ibi, or_true, true_or, and_true, true_and, List.cons_append, List.nil_append, Option.toList, nop])
  rw [if_neg (fun q => q e1)]
  by_cases e2 : n < 0
  · rw [if_pos e2]
    exact okR_rf hC (by omega) (by omega) (by simp (maxSteps := 4000000) (disch := omega) only [e2, k_X11_isShelf (show _ ≤ D by omega), bi_t e1, en_X11_row, s_X11_row_0, s_X11_row_1, s_X11_row_4, s_X11_row_7, s_X11_row_8, s_X11_row_9, s_X11_row_12, s_X11_row_13, s_X11_row_14, s_X11_row_17, s_X11_row_18, s_X11_row_20, s_X11_row_23, s_X11_row_24, s_X11_row_25, s_X11_row_26, s_X11_row_27, s_X11_row_30, s_X11_row_33, s_X11_row_36, s_X11_row_37, s_X11_row_39, s_X11_row_42, s_X11_row_43, s_X11_row_44, s_X11_row_47, s_X11_row_50, s_X11_row_51, s_X11_row_53, s_X11_row_56, s_X11_row_57, s_X11_row_58, s_X11_row_61, s_X11_row_62, s_X11_row_64, s_X11_row_65, s_X11_row_66, s_X11_row_67, s_X11_row_68, s_X11_row_71, s_X11_row_72, s_X11_row_73, s_X11_row_74, s_X11_row_75, s_X11_row_77, s_X11_row_79, s_X11_row_82, s_X11_row_85, s_X11_row_86, s_X11_row_89, s_X11_row_92, s_X11_row_93, s_X11_row_94, s_X11_row_96, s_X11_row_97, s_X11_row_98, s_X11_row_99, s_X11_row_102, s_X11_row_105, s_X11_row_106, cls_90, fv_90_0, fv_90_1, fv_90_2, fv_90_3, fv_90_4, fv_90_5, fv_90_6, fv_90_7, fv_90_8, fv_90_9, fv_90_10, fv_90_11, fv_90_12, fv_90_13, fv_90_14, fv_90_15, fv_90_16, fv_90_17, fv_90_18, fv_90_19, fv_90_20, fv_90_21, fv_90_22, fv_90_23, fv_90_24, fv_90_25, ak_91, al_91, ak_92, al_92, ak_93, al_93, ak_94, al_94, ak_95, al_95, ak_96, al_96, ak_97, al_97, ak_98, al_98, ak_99, al_99, ak_100, al_100, rf_100, ak_101, al_101, ak_102, al_102, ak_103, al_103, ak_104, al_104, ak_105, al_105, ak_106, al_106, tn_add, tn_mul, iI_long, jJ_int, k_X11_refuse (show _ ≤ D by omega), ltT, ltF, leT, leF, eqT, eqF, iI_add, iI_sub, iI_mul, iI_neg, iI_lt, iI_le, iI_eq, iI_toInt, tn_n, tn_1, inb_I, Int.reduceEq, Int.reduceLT, Int.reduceLE, Int.reduceAdd, Int.reduceSub, Int.reduceMul, Int.reduceNeg, Int.reduceToNat, Nat.reduceAdd, Nat.reduceMul, Int.reduceNatCast, reduceCtorEq, Int.cast_ofNat_Int, bi_tr, bi_fa, bi_0, bi_1, not_true_eq_false, not_false_eq_true, rnk_v, rnk_n, ↓reduceIte, i00, i11, ibi, or_true, true_or, and_true, true_and, List.cons_append, List.nil_append, Option.toList, nop])
  rw [if_neg e2]
  by_cases e3 : 0 ≤ sort ∧ sort ≤ 3
  rotate_left
  · rw [if_pos e3]
    exact okR_rf hC (by omega) (by omega) (by simp (maxSteps := 4000000) (disch := omega) only [e3, k_X11_isShelf (show _ ≤ D by omega), bi_t e1, en_X11_row, s_X11_row_0, s_X11_row_1, s_X11_row_4, s_X11_row_7, s_X11_row_8, s_X11_row_9, s_X11_row_12, s_X11_row_13, s_X11_row_14, s_X11_row_17, s_X11_row_18, s_X11_row_20, s_X11_row_23, s_X11_row_24, s_X11_row_25, s_X11_row_26, s_X11_row_27, s_X11_row_30, s_X11_row_33, s_X11_row_36, s_X11_row_37, s_X11_row_39, s_X11_row_42, s_X11_row_43, s_X11_row_44, s_X11_row_47, s_X11_row_50, s_X11_row_51, s_X11_row_53, s_X11_row_56, s_X11_row_57, s_X11_row_58, s_X11_row_61, s_X11_row_62, s_X11_row_64, s_X11_row_65, s_X11_row_66, s_X11_row_67, s_X11_row_68, s_X11_row_71, s_X11_row_72, s_X11_row_73, s_X11_row_74, s_X11_row_75, s_X11_row_77, s_X11_row_79, s_X11_row_82, s_X11_row_85, s_X11_row_86, s_X11_row_89, s_X11_row_92, s_X11_row_93, s_X11_row_94, s_X11_row_96, s_X11_row_97, s_X11_row_98, s_X11_row_99, s_X11_row_102, s_X11_row_105, s_X11_row_106, cls_90, fv_90_0, fv_90_1, fv_90_2, fv_90_3, fv_90_4, fv_90_5, fv_90_6, fv_90_7, fv_90_8, fv_90_9, fv_90_10, fv_90_11, fv_90_12, fv_90_13, fv_90_14, fv_90_15, fv_90_16, fv_90_17, fv_90_18, fv_90_19, fv_90_20, fv_90_21, fv_90_22, fv_90_23, fv_90_24, fv_90_25, ak_91, al_91, ak_92, al_92, ak_93, al_93, ak_94, al_94, ak_95, al_95, ak_96, al_96, ak_97, al_97, ak_98, al_98, ak_99, al_99, ak_100, al_100, rf_100, ak_101, al_101, ak_102, al_102, ak_103, al_103, ak_104, al_104, ak_105, al_105, ak_106, al_106, tn_add, tn_mul, iI_long, jJ_int, k_X11_refuse (show _ ≤ D by omega), k_X11_isIn (show _ ≤ D by omega), ltT, ltF, leT, leF, eqT, eqF, iI_add, iI_sub, iI_mul, iI_neg, iI_lt, iI_le, iI_eq, iI_toInt, tn_n, tn_1, inb_I, Int.reduceEq, Int.reduceLT, Int.reduceLE, Int.reduceAdd, Int.reduceSub, Int.reduceMul, Int.reduceNeg, Int.reduceToNat, Nat.reduceAdd, Nat.reduceMul, Int.reduceNatCast, reduceCtorEq, Int.cast_ofNat_Int, bi_tr, bi_fa, bi_0, bi_1, not_true_eq_false, not_false_eq_true, rnk_v, rnk_n, ↓reduceIte, i00, i11, ibi, or_true, true_or, and_true, true_and, List.cons_append, List.nil_append, Option.toList, nop])
  rw [if_neg (fun q => q e3)]
  by_cases e4 : 160 < n
  · rw [if_pos e4]
    exact okR_rf hC (by omega) (by omega) (by simp (maxSteps := 4000000) (disch := omega) only [e4, k_X11_isShelf (show _ ≤ D by omega), bi_t e1, bi_t e3, en_X11_row, s_X11_row_0, s_X11_row_1, s_X11_row_4, s_X11_row_7, s_X11_row_8, s_X11_row_9, s_X11_row_12, s_X11_row_13, s_X11_row_14, s_X11_row_17, s_X11_row_18, s_X11_row_20, s_X11_row_23, s_X11_row_24, s_X11_row_25, s_X11_row_26, s_X11_row_27, s_X11_row_30, s_X11_row_33, s_X11_row_36, s_X11_row_37, s_X11_row_39, s_X11_row_42, s_X11_row_43, s_X11_row_44, s_X11_row_47, s_X11_row_50, s_X11_row_51, s_X11_row_53, s_X11_row_56, s_X11_row_57, s_X11_row_58, s_X11_row_61, s_X11_row_62, s_X11_row_64, s_X11_row_65, s_X11_row_66, s_X11_row_67, s_X11_row_68, s_X11_row_71, s_X11_row_72, s_X11_row_73, s_X11_row_74, s_X11_row_75, s_X11_row_77, s_X11_row_79, s_X11_row_82, s_X11_row_85, s_X11_row_86, s_X11_row_89, s_X11_row_92, s_X11_row_93, s_X11_row_94, s_X11_row_96, s_X11_row_97, s_X11_row_98, s_X11_row_99, s_X11_row_102, s_X11_row_105, s_X11_row_106, cls_90, fv_90_0, fv_90_1, fv_90_2, fv_90_3, fv_90_4, fv_90_5, fv_90_6, fv_90_7, fv_90_8, fv_90_9, fv_90_10, fv_90_11, fv_90_12, fv_90_13, fv_90_14, fv_90_15, fv_90_16, fv_90_17, fv_90_18, fv_90_19, fv_90_20, fv_90_21, fv_90_22, fv_90_23, fv_90_24, fv_90_25, ak_91, al_91, ak_92, al_92, ak_93, al_93, ak_94, al_94, ak_95, al_95, ak_96, al_96, ak_97, al_97, ak_98, al_98, ak_99, al_99, ak_100, al_100, rf_100, ak_101, al_101, ak_102, al_102, ak_103, al_103, ak_104, al_104, ak_105, al_105, ak_106, al_106, tn_add, tn_mul, iI_long, jJ_int, k_X11_refuse (show _ ≤ D by omega), k_X11_isIn (show _ ≤ D by omega), ltT, ltF, leT, leF, eqT, eqF, iI_add, iI_sub, iI_mul, iI_neg, iI_lt, iI_le, iI_eq, iI_toInt, tn_n, tn_1, inb_I, Int.reduceEq, Int.reduceLT, Int.reduceLE, Int.reduceAdd, Int.reduceSub, Int.reduceMul, Int.reduceNeg, Int.reduceToNat, Nat.reduceAdd, Nat.reduceMul, Int.reduceNatCast, reduceCtorEq, Int.cast_ofNat_Int, bi_tr, bi_fa, bi_0, bi_1, not_true_eq_false, not_false_eq_true, rnk_v, rnk_n, ↓reduceIte, i00, i11, ibi, or_true, true_or, and_true, true_and, List.cons_append, List.nil_append, Option.toList, nop])
  rw [if_neg e4]
  obtain ⟨u, rfl⟩ : ∃ u : Nat, s = u := ⟨s.toNat, by omega⟩
  obtain ⟨v, rfl⟩ : ∃ v : Nat, n = v := ⟨n.toNat, by omega⟩
  have key := lq (f := fun k => rn (exF D) C_X11_row 77 [some (.ref 90), some (.int (iI u)), some (.int (iI sort)), some (.int (iI v)), some (.int (iI k))] [] (rJ (sI (sI M 95 u (iI (100 + sort))) 96 u (iI v)) 97 (fun j => if 160 * u ≤ j ∧ j < 160 * u + k then jJ 0 else M.2 97 j))) (n := 160) (by
    intro k hk X hX
    show rn _ _ _ _ _ _ = X
    rw [s_X11_row_77]
    simp (maxSteps := 4000000) (disch := omega) only [s_X11_row_79, s_X11_row_82, s_X11_row_85, s_X11_row_86, s_X11_row_89, s_X11_row_92, s_X11_row_93, s_X11_row_94, s_X11_row_96, s_X11_row_97, s_X11_row_98, s_X11_row_99, s_X11_row_102, cls_90, fv_90_0, fv_90_1, fv_90_2, fv_90_3, fv_90_4, fv_90_5, fv_90_6, fv_90_7, fv_90_8, fv_90_9, fv_90_10, fv_90_11, fv_90_12, fv_90_13, fv_90_14, fv_90_15, fv_90_16, fv_90_17, fv_90_18, fv_90_19, fv_90_20, fv_90_21, fv_90_22, fv_90_23, fv_90_24, fv_90_25, ak_91, al_91, ak_92, al_92, ak_93, al_93, ak_94, al_94, ak_95, al_95, ak_96, al_96, ak_97, al_97, ak_98, al_98, ak_99, al_99, ak_100, al_100, rf_100, ak_101, al_101, ak_102, al_102, ak_103, al_103, ak_104, al_104, ak_105, al_105, ak_106, al_106, tn_add, tn_mul, iI_long, jJ_int, rJ_set, leF, iI_add, iI_sub, iI_mul, iI_neg, iI_lt, iI_le, iI_eq, iI_toInt, tn_n, tn_1, inb_I, Int.reduceEq, Int.reduceLT, Int.reduceLE, Int.reduceAdd, Int.reduceSub, Int.reduceMul, Int.reduceNeg, Int.reduceToNat, Nat.reduceAdd, Nat.reduceMul, Int.reduceNatCast, reduceCtorEq, Int.cast_ofNat_Int, bi_tr, bi_fa, bi_0, bi_1, not_true_eq_false, not_false_eq_true, rnk_v, rnk_n, ↓reduceIte, i00, i11, ibi, or_true, true_or, and_true, true_and, List.cons_append, List.nil_append, Option.toList, nop]
    rw [← hX]
    show rn _ _ _ _ _ _ = rn _ _ _ _ _ _
    congr 1
    congr 1
    funext j
    by_cases e : j = 160 * u + k
    · subst e; simp
    · simp only [e, if_false, show (j < 160 * u + (k + 1)) = (j < 160 * u + k) by apply propext; omega])
  have e0 : rJ (sI (sI M 95 u (iI (100 + sort))) 96 u (iI v)) 97 (fun j => if 160 * u ≤ j ∧ j < 160 * u + 0 then jJ 0 else M.2 97 j) = sI (sI M 95 u (iI (100 + sort))) 96 u (iI v) := by
    refine Prod.ext rfl ?_
    funext x
    simp only [rJ, sI]
    split
    · rename_i e; rw [e]; funext j; rw [if_neg (by omega)]
    · rfl
  simp only [e0] at key
  have hs : Sm [95, 96, 97] M (rJ (sI (sI M 95 u (iI (100 + sort))) 96 u (iI v)) 97 (fun j => if 160 * u ≤ j ∧ j < 160 * u + 160 then jJ 0 else M.2 97 j)) := Sm_tr (Sm_tr (Sm_sI (by simp)) (Sm_sI (by simp))) (Sm_rJ (by simp))
  refine ⟨_, ?_, RelR_Q hC ?_ hs (by simp), SmR_of hs (by simp)⟩
  · simp (maxSteps := 4000000) (disch := omega) only [en_X11_row, s_X11_row_0, s_X11_row_1, s_X11_row_4, s_X11_row_7, s_X11_row_8, s_X11_row_9, s_X11_row_12, s_X11_row_13, s_X11_row_14, s_X11_row_17, s_X11_row_18, s_X11_row_20, s_X11_row_23, s_X11_row_24, s_X11_row_25, s_X11_row_26, s_X11_row_27, s_X11_row_30, s_X11_row_33, s_X11_row_36, s_X11_row_37, s_X11_row_39, s_X11_row_42, s_X11_row_43, s_X11_row_44, s_X11_row_47, s_X11_row_50, s_X11_row_51, s_X11_row_53, s_X11_row_56, s_X11_row_57, s_X11_row_58, s_X11_row_61, s_X11_row_62, s_X11_row_64, s_X11_row_65, s_X11_row_66, s_X11_row_67, s_X11_row_68, s_X11_row_71, s_X11_row_72, s_X11_row_73, s_X11_row_74, s_X11_row_75, k_X11_isShelf (show _ ≤ D by omega), cls_90, fv_90_0, fv_90_1, fv_90_2, fv_90_3, fv_90_4, fv_90_5, fv_90_6, fv_90_7, fv_90_8, fv_90_9, fv_90_10, fv_90_11, fv_90_12, fv_90_13, fv_90_14, fv_90_15, fv_90_16, fv_90_17, fv_90_18, fv_90_19, fv_90_20, fv_90_21, fv_90_22, fv_90_23, fv_90_24, fv_90_25, ak_91, al_91, ak_92, al_92, ak_93, al_93, ak_94, al_94, ak_95, al_95, ak_96, al_96, ak_97, al_97, ak_98, al_98, ak_99, al_99, ak_100, al_100, rf_100, ak_101, al_101, ak_102, al_102, ak_103, al_103, ak_104, al_104, ak_105, al_105, ak_106, al_106, tn_add, tn_mul, iI_long, jJ_int, k_X11_isIn (show _ ≤ D by omega), bi_t e1, bi_t e3, ltT, ltF, leT, leF, eqT, eqF, iI_add, iI_sub, iI_mul, iI_neg, iI_lt, iI_le, iI_eq, iI_toInt, tn_n, tn_1, inb_I, Int.reduceEq, Int.reduceLT, Int.reduceLE, Int.reduceAdd, Int.reduceSub, Int.reduceMul, Int.reduceNeg, Int.reduceToNat, Nat.reduceAdd, Nat.reduceMul, Int.reduceNatCast, reduceCtorEq, Int.cast_ofNat_Int, bi_tr, bi_fa, bi_0, bi_1, not_true_eq_false, not_false_eq_true, rnk_v, rnk_n, ↓reduceIte, i00, i11, ibi, or_true, true_or, and_true, true_and, List.cons_append, List.nil_append, Option.toList, nop]
    refine key.trans ?_
    simp (maxSteps := 4000000) (disch := omega) only [s_X11_row_77, s_X11_row_79, s_X11_row_82, s_X11_row_85, s_X11_row_86, s_X11_row_89, s_X11_row_92, s_X11_row_93, s_X11_row_94, s_X11_row_96, s_X11_row_97, s_X11_row_98, s_X11_row_99, s_X11_row_102, s_X11_row_105, s_X11_row_106, leT, iI_add, iI_sub, iI_mul, iI_neg, iI_lt, iI_le, iI_eq, iI_toInt, tn_n, tn_1, inb_I, Int.reduceEq, Int.reduceLT, Int.reduceLE, Int.reduceAdd, Int.reduceSub, Int.reduceMul, Int.reduceNeg, Int.reduceToNat, Nat.reduceAdd, Nat.reduceMul, Int.reduceNatCast, reduceCtorEq, Int.cast_ofNat_Int, bi_tr, bi_fa, bi_0, bi_1, not_true_eq_false, not_false_eq_true, rnk_v, rnk_n, ↓reduceIte, i00, i11, ibi, or_true, true_or, and_true, true_and, List.cons_append, List.nil_append, Option.toList, nop]
  · intro x hx
    obtain ⟨f1, f2, f3⟩ := c3 x hx
    simp (disch := omega) only [rJ_1, sI_a, sI_2, rJ_s]
    by_cases e : x = u
    · subst e
      simp (disch := omega) only [sI_s, sI_a]
      refine ⟨by simp [qRow, qH], by simp [qRow, qN], ?_⟩
      intro i hi
      rw [if_pos (by omega)]
      simp [qRow, qE]
    · simp (disch := omega) only [sI_k, sI_a]
      rw [f1, f2]
      refine ⟨by simp [qRow, qH, e], by simp [qRow, qN, e], ?_⟩
      intro i hi
      rw [if_neg (by omega), f3 i hi]
      simp [qRow, qE, e]
theorem d_set {D : Nat} (hD : 4 ≤ D) {M : tM} {S : tS} (hC : RelR S M) (hI : sInv S) {s i : Int} {v : Int64} (gs : -2147483648 ≤ s ∧ s ≤ 2147483647) (gi : -2147483648 ≤ i ∧ i ≤ 2147483647) : okR D m_X11_set [.ref 90, .int (iI s), .int (iI i), .long v] M (p_set S s i v) := by
  obtain ⟨D, rfl⟩ : ∃ D0, D = D0 + 1 := ⟨D - 1, by omega⟩
  obtain ⟨c1, c2, c3, c4, c5, c6, c7, c8, c9⟩ := id hC; obtain ⟨i1, i2, i3, i4, i5, i6, i7⟩ := id hI; have n0 := kI_n i1; obtain ⟨r1, r2, r3, r4, r5, r6⟩ := id c1.1
  have k1 := rrQ_rng (stQ S) s
  have k2 := rrQ_ri (stQ S) s
  have k0 := k_X11_rowIn (show 3 ≤ D by omega) c3 i3 gs.1 gs.2
  unfold p_set
  by_cases e1 : rrQ (stQ S) s < 0
  · rw [if_pos e1]
    rw [k2.1 e1] at k0
    exact okR_rf hC (by omega) (by omega) (by simp (maxSteps := 4000000) (disch := omega) only [k0, en_X11_set, s_X11_set_0, s_X11_set_1, s_X11_set_2, s_X11_set_5, s_X11_set_8, s_X11_set_9, s_X11_set_10, s_X11_set_11, s_X11_set_14, s_X11_set_17, s_X11_set_18, s_X11_set_19, s_X11_set_20, s_X11_set_21, s_X11_set_22, s_X11_set_25, s_X11_set_26, s_X11_set_27, s_X11_set_28, s_X11_set_29, s_X11_set_30, s_X11_set_33, s_X11_set_36, s_X11_set_37, s_X11_set_39, s_X11_set_42, s_X11_set_43, s_X11_set_44, s_X11_set_47, s_X11_set_48, s_X11_set_49, s_X11_set_51, s_X11_set_52, s_X11_set_54, s_X11_set_55, s_X11_set_58, s_X11_set_61, s_X11_set_62, s_X11_set_63, s_X11_set_64, s_X11_set_65, s_X11_set_67, s_X11_set_70, s_X11_set_71, s_X11_set_72, s_X11_set_73, s_X11_set_74, s_X11_set_77, s_X11_set_79, s_X11_set_80, s_X11_set_83, s_X11_set_84, s_X11_set_85, s_X11_set_86, s_X11_set_87, s_X11_set_90, s_X11_set_92, s_X11_set_93, s_X11_set_96, s_X11_set_97, s_X11_set_98, s_X11_set_99, s_X11_set_102, s_X11_set_103, s_X11_set_104, s_X11_set_105, cls_90, fv_90_0, fv_90_1, fv_90_2, fv_90_3, fv_90_4, fv_90_5, fv_90_6, fv_90_7, fv_90_8, fv_90_9, fv_90_10, fv_90_11, fv_90_12, fv_90_13, fv_90_14, fv_90_15, fv_90_16, fv_90_17, fv_90_18, fv_90_19, fv_90_20, fv_90_21, fv_90_22, fv_90_23, fv_90_24, fv_90_25, ak_91, al_91, ak_92, al_92, ak_93, al_93, ak_94, al_94, ak_95, al_95, ak_96, al_96, ak_97, al_97, ak_98, al_98, ak_99, al_99, ak_100, al_100, rf_100, ak_101, al_101, ak_102, al_102, ak_103, al_103, ak_104, al_104, ak_105, al_105, ak_106, al_106, tn_add, tn_mul, iI_long, jJ_int, k_X11_refuse (show _ ≤ D by omega), ltT, ltF, leT, leF, eqT, eqF, iI_add, iI_sub, iI_mul, iI_neg, iI_lt, iI_le, iI_eq, iI_toInt, tn_n, tn_1, inb_I, Int.reduceEq, Int.reduceLT, Int.reduceLE, Int.reduceAdd, Int.reduceSub, Int.reduceMul, Int.reduceNeg, Int.reduceToNat, Nat.reduceAdd, Nat.reduceMul, Int.reduceNatCast, reduceCtorEq, Int.cast_ofNat_Int, bi_tr, bi_fa, bi_0, bi_1, not_true_eq_false, not_false_eq_true, rnk_v, rnk_n, ↓reduceIte, i00, i11, ibi, or_true, true_or, and_true, true_and, List.cons_append, List.nil_append, Option.toList, nop])
  rw [if_neg e1]
  obtain ⟨k3, k4, k5⟩ := k2.2 e1
  rw [k3] at k0
  obtain ⟨u, rfl⟩ : ∃ u : Nat, s = u := ⟨s.toNat, by omega⟩
  simp only [Int.toNat_natCast] at *
  obtain ⟨f1, f2, f3⟩ := c3 u (by omega)
  have k8 := i3 u (by omega)
  have e9 : bi (0 ≤ i ∧ i ≤ (qN (stQ S) u : Int) - 1) = bi (0 ≤ i ∧ i < (qN (stQ S) u : Int)) := bi_cg (by omega)
  by_cases e2 : 0 ≤ i ∧ i < (qN (stQ S) u : Int)
  rotate_left
  · rw [if_pos e2]
    exact okR_rf hC (by omega) (by omega) (by simp (maxSteps := 4000000) (disch := omega) only [e2, k0, f2, e9, en_X11_set, s_X11_set_0, s_X11_set_1, s_X11_set_2, s_X11_set_5, s_X11_set_8, s_X11_set_9, s_X11_set_10, s_X11_set_11, s_X11_set_14, s_X11_set_17, s_X11_set_18, s_X11_set_19, s_X11_set_20, s_X11_set_21, s_X11_set_22, s_X11_set_25, s_X11_set_26, s_X11_set_27, s_X11_set_28, s_X11_set_29, s_X11_set_30, s_X11_set_33, s_X11_set_36, s_X11_set_37, s_X11_set_39, s_X11_set_42, s_X11_set_43, s_X11_set_44, s_X11_set_47, s_X11_set_48, s_X11_set_49, s_X11_set_51, s_X11_set_52, s_X11_set_54, s_X11_set_55, s_X11_set_58, s_X11_set_61, s_X11_set_62, s_X11_set_63, s_X11_set_64, s_X11_set_65, s_X11_set_67, s_X11_set_70, s_X11_set_71, s_X11_set_72, s_X11_set_73, s_X11_set_74, s_X11_set_77, s_X11_set_79, s_X11_set_80, s_X11_set_83, s_X11_set_84, s_X11_set_85, s_X11_set_86, s_X11_set_87, s_X11_set_90, s_X11_set_92, s_X11_set_93, s_X11_set_96, s_X11_set_97, s_X11_set_98, s_X11_set_99, s_X11_set_102, s_X11_set_103, s_X11_set_104, s_X11_set_105, cls_90, fv_90_0, fv_90_1, fv_90_2, fv_90_3, fv_90_4, fv_90_5, fv_90_6, fv_90_7, fv_90_8, fv_90_9, fv_90_10, fv_90_11, fv_90_12, fv_90_13, fv_90_14, fv_90_15, fv_90_16, fv_90_17, fv_90_18, fv_90_19, fv_90_20, fv_90_21, fv_90_22, fv_90_23, fv_90_24, fv_90_25, ak_91, al_91, ak_92, al_92, ak_93, al_93, ak_94, al_94, ak_95, al_95, ak_96, al_96, ak_97, al_97, ak_98, al_98, ak_99, al_99, ak_100, al_100, rf_100, ak_101, al_101, ak_102, al_102, ak_103, al_103, ak_104, al_104, ak_105, al_105, ak_106, al_106, tn_add, tn_mul, iI_long, jJ_int, k_X11_refuse (show _ ≤ D by omega), k_X11_isIn (show _ ≤ D by omega), ltT, ltF, leT, leF, eqT, eqF, iI_add, iI_sub, iI_mul, iI_neg, iI_lt, iI_le, iI_eq, iI_toInt, tn_n, tn_1, inb_I, Int.reduceEq, Int.reduceLT, Int.reduceLE, Int.reduceAdd, Int.reduceSub, Int.reduceMul, Int.reduceNeg, Int.reduceToNat, Nat.reduceAdd, Nat.reduceMul, Int.reduceNatCast, reduceCtorEq, Int.cast_ofNat_Int, bi_tr, bi_fa, bi_0, bi_1, not_true_eq_false, not_false_eq_true, rnk_v, rnk_n, ↓reduceIte, i00, i11, ibi, or_true, true_or, and_true, true_and, List.cons_append, List.nil_append, Option.toList, nop])
  rw [if_neg (fun q => q e2)]
  obtain ⟨w, rfl⟩ : ∃ w : Nat, i = w := ⟨i.toNat, by omega⟩
  have hs : Sm [97] M (sJ M 97 (160 * u + w) (lbQ v (qH (stQ S) u - 100))) := Sm_sJ (by simp)
  refine ⟨_, ?_, RelR_Q hC ?_ hs (by simp), SmR_of hs (by simp)⟩
  · have hk : qH (stQ S) u = 100 ∨ qH (stQ S) u = 101 ∨ qH (stQ S) u = 102 ∨ qH (stQ S) u = 103 := by omega
    unfold lbQ
    rcases hk with hk | hk | hk | hk <;>
    · simp (maxSteps := 4000000) (disch := omega) only [k0, f1, f2, e9, bi_t e2, hk, en_X11_set, s_X11_set_0, s_X11_set_1, s_X11_set_2, s_X11_set_5, s_X11_set_8, s_X11_set_9, s_X11_set_10, s_X11_set_11, s_X11_set_14, s_X11_set_17, s_X11_set_18, s_X11_set_19, s_X11_set_20, s_X11_set_21, s_X11_set_22, s_X11_set_25, s_X11_set_26, s_X11_set_27, s_X11_set_28, s_X11_set_29, s_X11_set_30, s_X11_set_33, s_X11_set_36, s_X11_set_37, s_X11_set_39, s_X11_set_42, s_X11_set_43, s_X11_set_44, s_X11_set_47, s_X11_set_48, s_X11_set_49, s_X11_set_51, s_X11_set_52, s_X11_set_54, s_X11_set_55, s_X11_set_58, s_X11_set_61, s_X11_set_62, s_X11_set_63, s_X11_set_64, s_X11_set_65, s_X11_set_67, s_X11_set_70, s_X11_set_71, s_X11_set_72, s_X11_set_73, s_X11_set_74, s_X11_set_77, s_X11_set_79, s_X11_set_80, s_X11_set_83, s_X11_set_84, s_X11_set_85, s_X11_set_86, s_X11_set_87, s_X11_set_90, s_X11_set_92, s_X11_set_93, s_X11_set_96, s_X11_set_97, s_X11_set_98, s_X11_set_99, s_X11_set_102, s_X11_set_103, s_X11_set_104, s_X11_set_105, cls_90, fv_90_0, fv_90_1, fv_90_2, fv_90_3, fv_90_4, fv_90_5, fv_90_6, fv_90_7, fv_90_8, fv_90_9, fv_90_10, fv_90_11, fv_90_12, fv_90_13, fv_90_14, fv_90_15, fv_90_16, fv_90_17, fv_90_18, fv_90_19, fv_90_20, fv_90_21, fv_90_22, fv_90_23, fv_90_24, fv_90_25, ak_91, al_91, ak_92, al_92, ak_93, al_93, ak_94, al_94, ak_95, al_95, ak_96, al_96, ak_97, al_97, ak_98, al_98, ak_99, al_99, ak_100, al_100, rf_100, ak_101, al_101, ak_102, al_102, ak_103, al_103, ak_104, al_104, ak_105, al_105, ak_106, al_106, tn_add, tn_mul, iI_long, jJ_int, k_X11_refuse (show _ ≤ D by omega), k_X11_isIn (show _ ≤ D by omega), ltT, ltF, leT, leF, eqT, eqF, iI_add, iI_sub, iI_mul, iI_neg, iI_lt, iI_le, iI_eq, iI_toInt, tn_n, tn_1, inb_I, Int.reduceEq, Int.reduceLT, Int.reduceLE, Int.reduceAdd, Int.reduceSub, Int.reduceMul, Int.reduceNeg, Int.reduceToNat, Nat.reduceAdd, Nat.reduceMul, Int.reduceNatCast, reduceCtorEq, Int.cast_ofNat_Int, bi_tr, bi_fa, bi_0, bi_1, not_true_eq_false, not_false_eq_true, rnk_v, rnk_n, ↓reduceIte, i00, i11, ibi, or_true, true_or, and_true, true_and, List.cons_append, List.nil_append, Option.toList, nop]
  · intro x hx
    obtain ⟨h1, h2, h3⟩ := c3 x hx
    refine ⟨h1, h2, ?_⟩
    intro k hk
    by_cases e : x = u ∧ k = w
    · obtain ⟨rfl, rfl⟩ := e
      rw [sJ_s]; simp [qSet, qE]
    · rw [sJ_k _ _ (by omega), h3 k hk]
      simp only [qSet, qE, Int.toNat_natCast, if_neg e]
