/-! THE REFERENCE: ways from all to all -/
def RepF (M : tM) (f : tF) : Prop := ∀ i, i < 8 → ∀ j, j < 8 → M.1 101 (8 * i + j) = iI (f i j) ∧ f i j ≤ 9999
theorem RepF_Sm {l : List Nat} {M M' : tM} {f : tF} (h : RepF M f) (hs : Sm l M M') (hl : 101 ∉ l) : RepF M' f := by
  intro i hi j hj
  rw [(hs 101 hl).1]
  exact h i hi j hj
theorem k_X11_clear {D : Nat} (hD : 1 ≤ D) {M : tM} : ∃ M', exF D m_X11_clear [.ref 90] M = some (none, M') ∧ RepF M' f0 ∧ Sm [101] M M' := by
  obtain ⟨D, rfl⟩ : ∃ D0, D = D0 + 1 := ⟨D - 1, by omega⟩
  obtain ⟨M', e, h3, h4⟩ := lp (f := fun i (N : tM) => rn (exF D) C_X11_clear 2 [some (.ref 90), some (.int (iI i))] [] N) (P := fun i N => Sm [101] M N ∧ ∀ q, q < i → N.1 101 q = iI (if q % 9 = 0 then 0 else 9999)) (n := 64) (by
    rintro i N hi ⟨p1, p2⟩
    refine ⟨sI N 101 i (iI (if i % 9 = 0 then 0 else 9999)), ?_, Sm_tr p1 (Sm_sI (by simp)), ?_⟩
    · intro X hX
      show rn _ _ _ _ _ _ = X
      rw [s_X11_clear_2]
      by_cases q : i % 9 = 0
      · rw [if_pos q] at hX
        have q' : (i : Int) % 9 = 0 := by omega
        simp (maxSteps := 4000000) (disch := omega) only [s_X11_clear_0, s_X11_clear_1, s_X11_clear_3, s_X11_clear_5, s_X11_clear_8, s_X11_clear_9, s_X11_clear_12, s_X11_clear_13, s_X11_clear_14, s_X11_clear_16, s_X11_clear_17, s_X11_clear_20, s_X11_clear_21, s_X11_clear_24, s_X11_clear_27, s_X11_clear_28, s_X11_clear_31, s_X11_clear_34, cls_90, fv_90_0, fv_90_1, fv_90_2, fv_90_3, fv_90_4, fv_90_5, fv_90_6, fv_90_7, fv_90_8, fv_90_9, fv_90_10, fv_90_11, fv_90_12, fv_90_13, fv_90_14, fv_90_15, fv_90_16, fv_90_17, fv_90_18, fv_90_19, fv_90_20, fv_90_21, fv_90_22, fv_90_23, fv_90_24, fv_90_25, ak_91, al_91, ak_92, al_92, ak_93, al_93, ak_94, al_94, ak_95, al_95, ak_96, al_96, ak_97, al_97, ak_98, al_98, ak_99, al_99, ak_100, al_100, rf_100, ak_101, al_101, ak_102, al_102, ak_103, al_103, ak_104, al_104, ak_105, al_105, ak_106, al_106, tn_add, tn_mul, iI_long, jJ_int, irm_iI, q', leF, iI_add, iI_sub, iI_mul, iI_neg, iI_lt, iI_le, iI_eq, iI_toInt, tn_n, tn_1, inb_I, Int.reduceEq, Int.reduceLT, Int.reduceLE, Int.reduceAdd, Int.reduceSub, Int.reduceMul, Int.reduceNeg, Int.reduceToNat, Nat.reduceAdd, Nat.reduceMul, Int.reduceNatCast, reduceCtorEq, Int.cast_ofNat_Int, bi_tr, bi_fa, bi_0, bi_1, not_true_eq_false, not_false_eq_true, rnk_v, rnk_n, ↓reduceIte, i00, i11, ibi, or_true, true_or, and_true, true_and, List.cons_append, List.nil_append, Option.toList, nop]
        exact hX
      · rw [if_neg q] at hX
        have q' : ¬ (i : Int) % 9 = 0 := by omega
        simp (maxSteps := 4000000) (disch := omega) only [s_X11_clear_0, s_X11_clear_1, s_X11_clear_3, s_X11_clear_5, s_X11_clear_8, s_X11_clear_9, s_X11_clear_12, s_X11_clear_13, s_X11_clear_14, s_X11_clear_16, s_X11_clear_17, s_X11_clear_20, s_X11_clear_21, s_X11_clear_24, s_X11_clear_27, s_X11_clear_28, s_X11_clear_31, s_X11_clear_34, cls_90, fv_90_0, fv_90_1, fv_90_2, fv_90_3, fv_90_4, fv_90_5, fv_90_6, fv_90_7, fv_90_8, fv_90_9, fv_90_10, fv_90_11, fv_90_12, fv_90_13, fv_90_14, fv_90_15, fv_90_16, fv_90_17, fv_90_18, fv_90_19, fv_90_20, fv_90_21, fv_90_22, fv_90_23, fv_90_24, fv_90_25, ak_91, al_91, ak_92, al_92, ak_93, al_93, ak_94, al_94, ak_95, al_95, ak_96, al_96, ak_97, al_97, ak_98, al_98, ak_99, al_99, ak_100, al_100, rf_100, ak_101, al_101, ak_102, al_102, ak_103, al_103, ak_104, al_104, ak_105, al_105, ak_106, al_106, tn_add, tn_mul, iI_long, jJ_int, irm_iI, q', leF, iI_add, iI_sub, iI_mul, iI_neg, iI_lt, iI_le, iI_eq, iI_toInt, tn_n, tn_1, inb_I, Int.reduceEq, Int.reduceLT, Int.reduceLE, Int.reduceAdd, Int.reduceSub, Int.reduceMul, Int.reduceNeg, Int.reduceToNat, Nat.reduceAdd, Nat.reduceMul, Int.reduceNatCast, reduceCtorEq, Int.cast_ofNat_Int, bi_tr, bi_fa, bi_0, bi_1, not_true_eq_false, not_false_eq_true, rnk_v, rnk_n, ↓reduceIte, i00, i11, ibi, or_true, true_or, and_true, true_and, List.cons_append, List.nil_append, Option.toList, nop]
        exact hX
    · intro q hq
      by_cases e : q = i
      · subst e; rw [sI_s]
      · rw [sI_k _ _ e]; exact p2 q (by omega)) (Nat.zero_le _) (a := M) ⟨Sm_rf _ _, fun q hq => absurd hq (by omega)⟩
  refine ⟨M', ?_, ?_, h3⟩
  · simp (maxSteps := 4000000) (disch := omega) only [en_X11_clear, s_X11_clear_0, s_X11_clear_1, Int.reduceEq, Int.reduceLT, Int.reduceLE, Int.reduceAdd, Int.reduceSub, Int.reduceMul, Int.reduceNeg, Int.reduceToNat, Nat.reduceAdd, Nat.reduceMul, Int.reduceNatCast, reduceCtorEq, Int.cast_ofNat_Int, bi_tr, bi_fa, bi_0, bi_1, not_true_eq_false, not_false_eq_true, rnk_v, rnk_n, ↓reduceIte, i00, i11, ibi, or_true, true_or, and_true, true_and, List.cons_append, List.nil_append, Option.toList, nop]
    refine e.trans ?_
    simp (maxSteps := 4000000) (disch := omega) only [s_X11_clear_0, s_X11_clear_1, s_X11_clear_2, s_X11_clear_3, s_X11_clear_5, s_X11_clear_8, s_X11_clear_9, s_X11_clear_12, s_X11_clear_13, s_X11_clear_14, s_X11_clear_16, s_X11_clear_17, s_X11_clear_20, s_X11_clear_21, s_X11_clear_24, s_X11_clear_27, s_X11_clear_28, s_X11_clear_31, s_X11_clear_34, leT, iI_add, iI_sub, iI_mul, iI_neg, iI_lt, iI_le, iI_eq, iI_toInt, tn_n, tn_1, inb_I, Int.reduceEq, Int.reduceLT, Int.reduceLE, Int.reduceAdd, Int.reduceSub, Int.reduceMul, Int.reduceNeg, Int.reduceToNat, Nat.reduceAdd, Nat.reduceMul, Int.reduceNatCast, reduceCtorEq, Int.cast_ofNat_Int, bi_tr, bi_fa, bi_0, bi_1, not_true_eq_false, not_false_eq_true, rnk_v, rnk_n, ↓reduceIte, i00, i11, ibi, or_true, true_or, and_true, true_and, List.cons_append, List.nil_append, Option.toList, nop]
  · intro i hi j hj
    rw [h4 _ (by omega)]
    unfold f0
    by_cases q : i = j
    · subst q
      rw [if_pos (by omega), if_pos rfl]
      exact ⟨rfl, by omega⟩
    · rw [if_neg (by omega), if_neg q]
      exact ⟨rfl, by omega⟩
theorem RepF_um {M : tM} {f : tF} (h : RepF M f) {i j x : Nat} (hi : i < 8) (hj : j < 8) : RepF (sI M 101 (8 * i + j) (iI ((min (f i j) x : Nat) : Int))) (um f i j x) := by
  intro a ha b hb
  unfold um
  by_cases e : a = i ∧ b = j
  · obtain ⟨rfl, rfl⟩ := e
    rw [sI_s, if_pos ⟨rfl, rfl⟩]
    have := (h a ha b hb).2
    exact ⟨rfl, by omega⟩
  · rw [sI_k _ _ (by omega), if_neg e]
    exact h a ha b hb
theorem k_X11_nearer {D : Nat} (hD : 1 ≤ D) {M : tM} {f : tF} (h : RepF M f) {i j x : Nat} (hi : i < 8) (hj : j < 8) (hx : x ≤ 20000) : exF D m_X11_nearer [.ref 90, .int (iI i), .int (iI j), .int (iI x)] M = some (none, sI M 101 (8 * i + j) (iI ((min (f i j) x : Nat) : Int))) := by
  obtain ⟨D, rfl⟩ : ∃ D0, D = D0 + 1 := ⟨D - 1, by omega⟩
  obtain ⟨e1, e2⟩ := h i hi j hj
  have e3 : min (f i j : Int) (x : Int) = ((min (f i j) x : Nat) : Int) := by omega
  simp (maxSteps := 4000000) (disch := omega) only [en_X11_nearer, s_X11_nearer_0, s_X11_nearer_1, s_X11_nearer_4, s_X11_nearer_6, s_X11_nearer_7, s_X11_nearer_8, s_X11_nearer_9, s_X11_nearer_10, s_X11_nearer_11, s_X11_nearer_14, s_X11_nearer_16, s_X11_nearer_17, s_X11_nearer_18, s_X11_nearer_19, s_X11_nearer_20, s_X11_nearer_21, s_X11_nearer_22, s_X11_nearer_25, s_X11_nearer_26, cls_90, fv_90_0, fv_90_1, fv_90_2, fv_90_3, fv_90_4, fv_90_5, fv_90_6, fv_90_7, fv_90_8, fv_90_9, fv_90_10, fv_90_11, fv_90_12, fv_90_13, fv_90_14, fv_90_15, fv_90_16, fv_90_17, fv_90_18, fv_90_19, fv_90_20, fv_90_21, fv_90_22, fv_90_23, fv_90_24, fv_90_25, ak_91, al_91, ak_92, al_92, ak_93, al_93, ak_94, al_94, ak_95, al_95, ak_96, al_96, ak_97, al_97, ak_98, al_98, ak_99, al_99, ak_100, al_100, rf_100, ak_101, al_101, ak_102, al_102, ak_103, al_103, ak_104, al_104, ak_105, al_105, ak_106, al_106, tn_add, tn_mul, iI_long, jJ_int, e1, mnI_iI, e3, iI_add, iI_sub, iI_mul, iI_neg, iI_lt, iI_le, iI_eq, iI_toInt, tn_n, tn_1, inb_I, Int.reduceEq, Int.reduceLT, Int.reduceLE, Int.reduceAdd, Int.reduceSub, Int.reduceMul, Int.reduceNeg, Int.reduceToNat, Nat.reduceAdd, Nat.reduceMul, Int.reduceNatCast, reduceCtorEq, Int.cast_ofNat_Int, bi_tr, bi_fa, bi_0, bi_1, not_true_eq_false, not_false_eq_true, rnk_v, rnk_n, ↓reduceIte, i00, i11, ibi, or_true, true_or, and_true, true_and, List.cons_append, List.nil_append, Option.toList, nop]
theorem cl_J {D : Nat} (hD : 1 ≤ D) {M : tM} {K : tK} (hR : RepN M 92 K) (hI : kInv K) {f : tF} (hf : RepF M f) {k i : Nat} (hk : k < kD K) (hi : i < kD K) : ∃ M', rn (exF D) C_X11_close 28 [some (.ref 90), some (.int (iI k)), some (.int (iI i)), some (.int (iI 0))] [] M = rn (exF D) C_X11_close 74 [some (.ref 90), some (.int (iI k)), some (.int (iI i)), some (.int (iI (kD K)))] [] M' ∧ RepF M' (fwJ f k i (kD K)) ∧ Sm [101] M M' := by
  have g0 := kI_n hI
  obtain ⟨M', e, h3, h4⟩ := lp (f := fun j (N : tM) => rn (exF D) C_X11_close 28 [some (.ref 90), some (.int (iI k)), some (.int (iI i)), some (.int (iI j))] [] N) (P := fun j N => Sm [101] M N ∧ RepF N (fwJ f k i j)) (n := kD K) (by
    rintro j N hj ⟨p1, p2⟩
    have g2 := (RepN_Sm hR p1 (by simp)).1.1
    obtain ⟨a1, a2⟩ := p2 i (by omega) k (by omega)
    obtain ⟨a3, a4⟩ := p2 k (by omega) j (by omega)
    have g3 := k_X11_nearer (show _ ≤ D by omega) p2 (i := i) (j := j) (x := fwJ f k i j i k + fwJ f k i j k j) (by omega) (by omega) (by omega)
    refine ⟨sI N 101 (8 * i + j) (iI ((min (fwJ f k i j i j) (fwJ f k i j i k + fwJ f k i j k j) : Nat) : Int)), ?_, Sm_tr p1 (Sm_sI (by simp)), RepF_um p2 (by omega) (by omega)⟩
    intro X hX
    show rn _ _ _ _ _ _ = X
    rw [s_X11_close_28]
    rw [Int.natCast_add] at g3
    simp (maxSteps := 4000000) (disch := omega) only [s_X11_close_29, s_X11_close_30, s_X11_close_33, s_X11_close_35, s_X11_close_36, s_X11_close_39, s_X11_close_40, s_X11_close_41, s_X11_close_42, s_X11_close_43, s_X11_close_46, s_X11_close_48, s_X11_close_49, s_X11_close_50, s_X11_close_51, s_X11_close_52, s_X11_close_53, s_X11_close_54, s_X11_close_57, s_X11_close_59, s_X11_close_60, s_X11_close_61, s_X11_close_62, s_X11_close_63, s_X11_close_64, s_X11_close_65, s_X11_close_68, s_X11_close_71, cls_90, fv_90_0, fv_90_1, fv_90_2, fv_90_3, fv_90_4, fv_90_5, fv_90_6, fv_90_7, fv_90_8, fv_90_9, fv_90_10, fv_90_11, fv_90_12, fv_90_13, fv_90_14, fv_90_15, fv_90_16, fv_90_17, fv_90_18, fv_90_19, fv_90_20, fv_90_21, fv_90_22, fv_90_23, fv_90_24, fv_90_25, ak_91, al_91, ak_92, al_92, ak_93, al_93, ak_94, al_94, ak_95, al_95, ak_96, al_96, ak_97, al_97, ak_98, al_98, ak_99, al_99, ak_100, al_100, rf_100, ak_101, al_101, ak_102, al_102, ak_103, al_103, ak_104, al_104, ak_105, al_105, ak_106, al_106, tn_add, tn_mul, iI_long, jJ_int, g2, a1, a3, g3, leF, iI_add, iI_sub, iI_mul, iI_neg, iI_lt, iI_le, iI_eq, iI_toInt, tn_n, tn_1, inb_I, Int.reduceEq, Int.reduceLT, Int.reduceLE, Int.reduceAdd, Int.reduceSub, Int.reduceMul, Int.reduceNeg, Int.reduceToNat, Nat.reduceAdd, Nat.reduceMul, Int.reduceNatCast, reduceCtorEq, Int.cast_ofNat_Int, bi_tr, bi_fa, bi_0, bi_1, not_true_eq_false, not_false_eq_true, rnk_v, rnk_n, ↓reduceIte, i00, i11, ibi, or_true, true_or, and_true, true_and, List.cons_append, List.nil_append, Option.toList, nop]
    exact hX) (Nat.zero_le _) (a := M) ⟨Sm_rf _ _, hf⟩
  refine ⟨M', e.trans ?_, h4, h3⟩
  have g2 := (RepN_Sm hR h3 (by simp)).1.1
  rw [s_X11_close_28]
  simp (maxSteps := 4000000) (disch := omega) only [s_X11_close_29, s_X11_close_30, s_X11_close_33, s_X11_close_35, s_X11_close_36, s_X11_close_39, s_X11_close_40, s_X11_close_41, s_X11_close_42, s_X11_close_43, s_X11_close_46, s_X11_close_48, s_X11_close_49, s_X11_close_50, s_X11_close_51, s_X11_close_52, s_X11_close_53, s_X11_close_54, s_X11_close_57, s_X11_close_59, s_X11_close_60, s_X11_close_61, s_X11_close_62, s_X11_close_63, s_X11_close_64, s_X11_close_65, s_X11_close_68, s_X11_close_71, cls_90, fv_90_0, fv_90_1, fv_90_2, fv_90_3, fv_90_4, fv_90_5, fv_90_6, fv_90_7, fv_90_8, fv_90_9, fv_90_10, fv_90_11, fv_90_12, fv_90_13, fv_90_14, fv_90_15, fv_90_16, fv_90_17, fv_90_18, fv_90_19, fv_90_20, fv_90_21, fv_90_22, fv_90_23, fv_90_24, fv_90_25, ak_91, al_91, ak_92, al_92, ak_93, al_93, ak_94, al_94, ak_95, al_95, ak_96, al_96, ak_97, al_97, ak_98, al_98, ak_99, al_99, ak_100, al_100, rf_100, ak_101, al_101, ak_102, al_102, ak_103, al_103, ak_104, al_104, ak_105, al_105, ak_106, al_106, tn_add, tn_mul, iI_long, jJ_int, g2, leT, iI_add, iI_sub, iI_mul, iI_neg, iI_lt, iI_le, iI_eq, iI_toInt, tn_n, tn_1, inb_I, Int.reduceEq, Int.reduceLT, Int.reduceLE, Int.reduceAdd, Int.reduceSub, Int.reduceMul, Int.reduceNeg, Int.reduceToNat, Nat.reduceAdd, Nat.reduceMul, Int.reduceNatCast, reduceCtorEq, Int.cast_ofNat_Int, bi_tr, bi_fa, bi_0, bi_1, not_true_eq_false, not_false_eq_true, rnk_v, rnk_n, ↓reduceIte, i00, i11, ibi, or_true, true_or, and_true, true_and, List.cons_append, List.nil_append, Option.toList, nop]
theorem cl_I {D : Nat} (hD : 1 ≤ D) {M : tM} {K : tK} (hR : RepN M 92 K) (hI : kInv K) {f : tF} (hf : RepF M f) {k : Nat} (hk : k < kD K) (x3 : Option Value) : ∃ M' x3', rn (exF D) C_X11_close 15 [some (.ref 90), some (.int (iI k)), some (.int (iI 0)), x3] [] M = rn (exF D) C_X11_close 80 [some (.ref 90), some (.int (iI k)), some (.int (iI (kD K))), x3'] [] M' ∧ RepF M' (fwI f k (kD K) (kD K)) ∧ Sm [101] M M' := by
  have g0 := kI_n hI
  obtain ⟨⟨M', x3'⟩, e, h3, h4⟩ := lp (f := fun i (a : tM × Option Value) => rn (exF D) C_X11_close 15 [some (.ref 90), some (.int (iI k)), some (.int (iI i)), a.2] [] a.1) (P := fun i a => Sm [101] M a.1 ∧ RepF a.1 (fwI f k (kD K) i)) (n := kD K) (by
    rintro i ⟨N, x⟩ hi ⟨p1, p2⟩
    have r1 : RepN N 92 K := RepN_Sm hR p1 (by simp)
    have g2 := r1.1.1
    obtain ⟨N1, a1, a2, a3⟩ := cl_J hD r1 hI p2 hk hi
    refine ⟨(N1, some (.int (iI (kD K)))), ?_, Sm_tr p1 a3, a2⟩
    intro X hX
    show rn _ _ _ _ _ _ = X
    rw [s_X11_close_15]
    simp (maxSteps := 4000000) (disch := omega) only [s_X11_close_16, s_X11_close_17, s_X11_close_20, s_X11_close_22, s_X11_close_23, s_X11_close_26, s_X11_close_27, cls_90, fv_90_0, fv_90_1, fv_90_2, fv_90_3, fv_90_4, fv_90_5, fv_90_6, fv_90_7, fv_90_8, fv_90_9, fv_90_10, fv_90_11, fv_90_12, fv_90_13, fv_90_14, fv_90_15, fv_90_16, fv_90_17, fv_90_18, fv_90_19, fv_90_20, fv_90_21, fv_90_22, fv_90_23, fv_90_24, fv_90_25, ak_91, al_91, ak_92, al_92, ak_93, al_93, ak_94, al_94, ak_95, al_95, ak_96, al_96, ak_97, al_97, ak_98, al_98, ak_99, al_99, ak_100, al_100, rf_100, ak_101, al_101, ak_102, al_102, ak_103, al_103, ak_104, al_104, ak_105, al_105, ak_106, al_106, tn_add, tn_mul, iI_long, jJ_int, g2, leF, iI_add, iI_sub, iI_mul, iI_neg, iI_lt, iI_le, iI_eq, iI_toInt, tn_n, tn_1, inb_I, Int.reduceEq, Int.reduceLT, Int.reduceLE, Int.reduceAdd, Int.reduceSub, Int.reduceMul, Int.reduceNeg, Int.reduceToNat, Nat.reduceAdd, Nat.reduceMul, Int.reduceNatCast, reduceCtorEq, Int.cast_ofNat_Int, bi_tr, bi_fa, bi_0, bi_1, not_true_eq_false, not_false_eq_true, rnk_v, rnk_n, ↓reduceIte, i00, i11, ibi, or_true, true_or, and_true, true_and, List.cons_append, List.nil_append, Option.toList, nop]
    rw [a1]
    simp (maxSteps := 4000000) (disch := omega) only [s_X11_close_74, s_X11_close_77, iI_add, iI_sub, iI_mul, iI_neg, iI_lt, iI_le, iI_eq, iI_toInt, tn_n, tn_1, inb_I, Int.reduceEq, Int.reduceLT, Int.reduceLE, Int.reduceAdd, Int.reduceSub, Int.reduceMul, Int.reduceNeg, Int.reduceToNat, Nat.reduceAdd, Nat.reduceMul, Int.reduceNatCast, reduceCtorEq, Int.cast_ofNat_Int, bi_tr, bi_fa, bi_0, bi_1, not_true_eq_false, not_false_eq_true, rnk_v, rnk_n, ↓reduceIte, i00, i11, ibi, or_true, true_or, and_true, true_and, List.cons_append, List.nil_append, Option.toList, nop]
    exact hX) (Nat.zero_le _) (a := (M, x3)) ⟨Sm_rf _ _, hf⟩
  refine ⟨M', x3', e.trans ?_, h4, h3⟩
  have g2 : M'.1 92 108 = iI (kD K) := (RepN_Sm hR h3 (by simp)).1.1
  rw [s_X11_close_15]
  simp (maxSteps := 4000000) (disch := omega) only [s_X11_close_16, s_X11_close_17, s_X11_close_20, s_X11_close_22, s_X11_close_23, s_X11_close_26, s_X11_close_27, cls_90, fv_90_0, fv_90_1, fv_90_2, fv_90_3, fv_90_4, fv_90_5, fv_90_6, fv_90_7, fv_90_8, fv_90_9, fv_90_10, fv_90_11, fv_90_12, fv_90_13, fv_90_14, fv_90_15, fv_90_16, fv_90_17, fv_90_18, fv_90_19, fv_90_20, fv_90_21, fv_90_22, fv_90_23, fv_90_24, fv_90_25, ak_91, al_91, ak_92, al_92, ak_93, al_93, ak_94, al_94, ak_95, al_95, ak_96, al_96, ak_97, al_97, ak_98, al_98, ak_99, al_99, ak_100, al_100, rf_100, ak_101, al_101, ak_102, al_102, ak_103, al_103, ak_104, al_104, ak_105, al_105, ak_106, al_106, tn_add, tn_mul, iI_long, jJ_int, g2, leT, iI_add, iI_sub, iI_mul, iI_neg, iI_lt, iI_le, iI_eq, iI_toInt, tn_n, tn_1, inb_I, Int.reduceEq, Int.reduceLT, Int.reduceLE, Int.reduceAdd, Int.reduceSub, Int.reduceMul, Int.reduceNeg, Int.reduceToNat, Nat.reduceAdd, Nat.reduceMul, Int.reduceNatCast, reduceCtorEq, Int.cast_ofNat_Int, bi_tr, bi_fa, bi_0, bi_1, not_true_eq_false, not_false_eq_true, rnk_v, rnk_n, ↓reduceIte, i00, i11, ibi, or_true, true_or, and_true, true_and, List.cons_append, List.nil_append, Option.toList, nop]
theorem k_X11_close {D : Nat} (hD : 2 ≤ D) {M : tM} {K : tK} (hR : RepN M 92 K) (hI : kInv K) {f : tF} (hf : RepF M f) : ∃ M', exF D m_X11_close [.ref 90] M = some (none, M') ∧ RepF M' (fwK f (kD K) (kD K)) ∧ Sm [101] M M' := by
  obtain ⟨D, rfl⟩ : ∃ D0, D = D0 + 1 := ⟨D - 1, by omega⟩
  have g0 := kI_n hI
  obtain ⟨⟨M', x2, x3⟩, e, h3, h4⟩ := lp (f := fun k (a : tM × Option Value × Option Value) => rn (exF D) C_X11_close 2 [some (.ref 90), some (.int (iI k)), a.2.1, a.2.2] [] a.1) (P := fun k a => Sm [101] M a.1 ∧ RepF a.1 (fwK f (kD K) k)) (n := kD K) (by
    rintro k ⟨N, x2, x3⟩ hk ⟨p1, p2⟩
    have r1 : RepN N 92 K := RepN_Sm hR p1 (by simp)
    have g2 := r1.1.1
    obtain ⟨N1, y3, a1, a2, a3⟩ := cl_I (show 1 ≤ D by omega) r1 hI p2 hk x3
    refine ⟨(N1, some (.int (iI (kD K))), y3), ?_, Sm_tr p1 a3, a2⟩
    intro X hX
    show rn _ _ _ _ _ _ = X
    rw [s_X11_close_2]
    simp (maxSteps := 4000000) (disch := omega) only [s_X11_close_3, s_X11_close_4, s_X11_close_7, s_X11_close_9, s_X11_close_10, s_X11_close_13, s_X11_close_14, cls_90, fv_90_0, fv_90_1, fv_90_2, fv_90_3, fv_90_4, fv_90_5, fv_90_6, fv_90_7, fv_90_8, fv_90_9, fv_90_10, fv_90_11, fv_90_12, fv_90_13, fv_90_14, fv_90_15, fv_90_16, fv_90_17, fv_90_18, fv_90_19, fv_90_20, fv_90_21, fv_90_22, fv_90_23, fv_90_24, fv_90_25, ak_91, al_91, ak_92, al_92, ak_93, al_93, ak_94, al_94, ak_95, al_95, ak_96, al_96, ak_97, al_97, ak_98, al_98, ak_99, al_99, ak_100, al_100, rf_100, ak_101, al_101, ak_102, al_102, ak_103, al_103, ak_104, al_104, ak_105, al_105, ak_106, al_106, tn_add, tn_mul, iI_long, jJ_int, g2, leF, iI_add, iI_sub, iI_mul, iI_neg, iI_lt, iI_le, iI_eq, iI_toInt, tn_n, tn_1, inb_I, Int.reduceEq, Int.reduceLT, Int.reduceLE, Int.reduceAdd, Int.reduceSub, Int.reduceMul, Int.reduceNeg, Int.reduceToNat, Nat.reduceAdd, Nat.reduceMul, Int.reduceNatCast, reduceCtorEq, Int.cast_ofNat_Int, bi_tr, bi_fa, bi_0, bi_1, not_true_eq_false, not_false_eq_true, rnk_v, rnk_n, ↓reduceIte, i00, i11, ibi, or_true, true_or, and_true, true_and, List.cons_append, List.nil_append, Option.toList, nop]
    rw [a1]
    simp (maxSteps := 4000000) (disch := omega) only [s_X11_close_80, s_X11_close_83, iI_add, iI_sub, iI_mul, iI_neg, iI_lt, iI_le, iI_eq, iI_toInt, tn_n, tn_1, inb_I, Int.reduceEq, Int.reduceLT, Int.reduceLE, Int.reduceAdd, Int.reduceSub, Int.reduceMul, Int.reduceNeg, Int.reduceToNat, Nat.reduceAdd, Nat.reduceMul, Int.reduceNatCast, reduceCtorEq, Int.cast_ofNat_Int, bi_tr, bi_fa, bi_0, bi_1, not_true_eq_false, not_false_eq_true, rnk_v, rnk_n, ↓reduceIte, i00, i11, ibi, or_true, true_or, and_true, true_and, List.cons_append, List.nil_append, Option.toList, nop]
    exact hX) (Nat.zero_le _) (a := (M, none, none)) ⟨Sm_rf _ _, hf⟩
  refine ⟨M', ?_, h4, h3⟩
  simp (maxSteps := 4000000) (disch := omega) only [en_X11_close, s_X11_close_0, s_X11_close_1, Int.reduceEq, Int.reduceLT, Int.reduceLE, Int.reduceAdd, Int.reduceSub, Int.reduceMul, Int.reduceNeg, Int.reduceToNat, Nat.reduceAdd, Nat.reduceMul, Int.reduceNatCast, reduceCtorEq, Int.cast_ofNat_Int, bi_tr, bi_fa, bi_0, bi_1, not_true_eq_false, not_false_eq_true, rnk_v, rnk_n, ↓reduceIte, i00, i11, ibi, or_true, true_or, and_true, true_and, List.cons_append, List.nil_append, Option.toList, nop]
  refine e.trans ?_
  have g2 : M'.1 92 108 = iI (kD K) := (RepN_Sm hR h3 (by simp)).1.1
  simp (maxSteps := 4000000) (disch := omega) only [s_X11_close_0, s_X11_close_1, s_X11_close_2, s_X11_close_3, s_X11_close_4, s_X11_close_7, s_X11_close_9, s_X11_close_10, s_X11_close_13, s_X11_close_14, s_X11_close_15, s_X11_close_16, s_X11_close_17, s_X11_close_20, s_X11_close_22, s_X11_close_23, s_X11_close_26, s_X11_close_27, s_X11_close_28, s_X11_close_29, s_X11_close_30, s_X11_close_33, s_X11_close_35, s_X11_close_36, s_X11_close_39, s_X11_close_40, s_X11_close_41, s_X11_close_42, s_X11_close_43, s_X11_close_46, s_X11_close_48, s_X11_close_49, s_X11_close_50, s_X11_close_51, s_X11_close_52, s_X11_close_53, s_X11_close_54, s_X11_close_57, s_X11_close_59, s_X11_close_60, s_X11_close_61, s_X11_close_62, s_X11_close_63, s_X11_close_64, s_X11_close_65, s_X11_close_68, s_X11_close_71, s_X11_close_74, s_X11_close_77, s_X11_close_80, s_X11_close_83, s_X11_close_86, cls_90, fv_90_0, fv_90_1, fv_90_2, fv_90_3, fv_90_4, fv_90_5, fv_90_6, fv_90_7, fv_90_8, fv_90_9, fv_90_10, fv_90_11, fv_90_12, fv_90_13, fv_90_14, fv_90_15, fv_90_16, fv_90_17, fv_90_18, fv_90_19, fv_90_20, fv_90_21, fv_90_22, fv_90_23, fv_90_24, fv_90_25, ak_91, al_91, ak_92, al_92, ak_93, al_93, ak_94, al_94, ak_95, al_95, ak_96, al_96, ak_97, al_97, ak_98, al_98, ak_99, al_99, ak_100, al_100, rf_100, ak_101, al_101, ak_102, al_102, ak_103, al_103, ak_104, al_104, ak_105, al_105, ak_106, al_106, tn_add, tn_mul, iI_long, jJ_int, g2, leT, iI_add, iI_sub, iI_mul, iI_neg, iI_lt, iI_le, iI_eq, iI_toInt, tn_n, tn_1, inb_I, Int.reduceEq, Int.reduceLT, Int.reduceLE, Int.reduceAdd, Int.reduceSub, Int.reduceMul, Int.reduceNeg, Int.reduceToNat, Nat.reduceAdd, Nat.reduceMul, Int.reduceNatCast, reduceCtorEq, Int.cast_ofNat_Int, bi_tr, bi_fa, bi_0, bi_1, not_true_eq_false, not_false_eq_true, rnk_v, rnk_n, ↓reduceIte, i00, i11, ibi, or_true, true_or, and_true, true_and, List.cons_append, List.nil_append, Option.toList, nop]
/-- a capsule's tubes; by steps -/
def gF (K : tK) (c : Nat) (st : Bool) : tG := if st = true then gU (gK K c (kP K)) else gK K c (kP K)
theorem gF_1 (K : tK) (c : Nat) (st : Bool) (t : Nat) : (gF K c st).2.1 t = mayK K c t false := by cases st <;> rfl
theorem gF_2 (K : tK) (c : Nat) (st : Bool) (t : Nat) : (gF K c st).2.2 t = mayK K c t true := by cases st <;> rfl
theorem gF_I {K : tK} (hI : kInv K) {c : Nat} (hc : c < kC K) (st : Bool) : gI K (gF K c st) := by
  have := kI_n hI
  cases st
  · exact gK_I hI hc (by omega) (by omega)
  · exact gU_I _ _
theorem l_fill1 {D : Nat} (hD : 2 ≤ D) {M : tM} {K : tK} (hR : RepN M 92 K) (hI : kInv K) {c : Nat} (hc : c < kC K) (st : Bool) {f : tF} (hf : RepF M f) {t : Nat} (ht : t < kT K) {z : Int} : ∃ M', rn (exF D) C_X11_fill 33 [some (.ref 90), some (.int (iI c)), some (.int (iI z)), some (.int (iI t)), some (.int (iI ((gF K c st).1 t)))] [] M = rn (exF D) C_X11_fill 59 [some (.ref 90), some (.int (iI c)), some (.int (iI z)), some (.int (iI t)), some (.int (iI ((gF K c st).1 t)))] [] M' ∧ RepF M' (fi1 K (gF K c st) t f) ∧ Sm [101] M M' := by
  have g0 := kI_n hI
  have g1 := kI_t hI ht
  have g2 := gF_I hI hc st t ht
  have m1 := k_X11_may (show _ ≤ D by omega) hR hI hc ht 0 false rfl
  unfold fi1
  rw [gF_1]
  by_cases q : mayK K c t false = true
  · rw [bi_t q] at m1
    rw [if_pos q]
    refine ⟨_, ?_, RepF_um hf (by omega) (by omega), Sm_sI (by simp)⟩
    simp (maxSteps := 4000000) (disch := omega) only [s_X11_fill_33, s_X11_fill_34, s_X11_fill_35, s_X11_fill_36, s_X11_fill_37, s_X11_fill_40, s_X11_fill_43, s_X11_fill_44, s_X11_fill_45, s_X11_fill_46, s_X11_fill_49, s_X11_fill_50, s_X11_fill_51, s_X11_fill_54, s_X11_fill_56, cls_90, fv_90_0, fv_90_1, fv_90_2, fv_90_3, fv_90_4, fv_90_5, fv_90_6, fv_90_7, fv_90_8, fv_90_9, fv_90_10, fv_90_11, fv_90_12, fv_90_13, fv_90_14, fv_90_15, fv_90_16, fv_90_17, fv_90_18, fv_90_19, fv_90_20, fv_90_21, fv_90_22, fv_90_23, fv_90_24, fv_90_25, ak_91, al_91, ak_92, al_92, ak_93, al_93, ak_94, al_94, ak_95, al_95, ak_96, al_96, ak_97, al_97, ak_98, al_98, ak_99, al_99, ak_100, al_100, rf_100, ak_101, al_101, ak_102, al_102, ak_103, al_103, ak_104, al_104, ak_105, al_105, ak_106, al_106, tn_add, tn_mul, iI_long, jJ_int, m1, k_X11_from (show _ ≤ D by omega) hR hI ht, k_X11_to (show _ ≤ D by omega) hR hI ht, k_X11_nearer (show _ ≤ D by omega) hf (show kF K t < 8 by omega) (show kO K t < 8 by omega) (show (gF K c st).1 t ≤ 20000 by omega), iI_add, iI_sub, iI_mul, iI_neg, iI_lt, iI_le, iI_eq, iI_toInt, tn_n, tn_1, inb_I, Int.reduceEq, Int.reduceLT, Int.reduceLE, Int.reduceAdd, Int.reduceSub, Int.reduceMul, Int.reduceNeg, Int.reduceToNat, Nat.reduceAdd, Nat.reduceMul, Int.reduceNatCast, reduceCtorEq, Int.cast_ofNat_Int, bi_tr, bi_fa, bi_0, bi_1, not_true_eq_false, not_false_eq_true, rnk_v, rnk_n, ↓reduceIte, i00, i11, ibi, or_true, true_or, and_true, true_and, List.cons_append, List.nil_append, Option.toList, nop]
  · rw [bi_f q] at m1
    rw [if_neg q]
    refine ⟨M, ?_, hf, Sm_rf _ _⟩
    simp (maxSteps := 4000000) (disch := omega) only [s_X11_fill_33, s_X11_fill_34, s_X11_fill_35, s_X11_fill_36, s_X11_fill_37, s_X11_fill_40, s_X11_fill_43, s_X11_fill_44, s_X11_fill_45, s_X11_fill_46, s_X11_fill_49, s_X11_fill_50, s_X11_fill_51, s_X11_fill_54, s_X11_fill_56, cls_90, fv_90_0, fv_90_1, fv_90_2, fv_90_3, fv_90_4, fv_90_5, fv_90_6, fv_90_7, fv_90_8, fv_90_9, fv_90_10, fv_90_11, fv_90_12, fv_90_13, fv_90_14, fv_90_15, fv_90_16, fv_90_17, fv_90_18, fv_90_19, fv_90_20, fv_90_21, fv_90_22, fv_90_23, fv_90_24, fv_90_25, ak_91, al_91, ak_92, al_92, ak_93, al_93, ak_94, al_94, ak_95, al_95, ak_96, al_96, ak_97, al_97, ak_98, al_98, ak_99, al_99, ak_100, al_100, rf_100, ak_101, al_101, ak_102, al_102, ak_103, al_103, ak_104, al_104, ak_105, al_105, ak_106, al_106, tn_add, tn_mul, iI_long, jJ_int, m1, iI_add, iI_sub, iI_mul, iI_neg, iI_lt, iI_le, iI_eq, iI_toInt, tn_n, tn_1, inb_I, Int.reduceEq, Int.reduceLT, Int.reduceLE, Int.reduceAdd, Int.reduceSub, Int.reduceMul, Int.reduceNeg, Int.reduceToNat, Nat.reduceAdd, Nat.reduceMul, Int.reduceNatCast, reduceCtorEq, Int.cast_ofNat_Int, bi_tr, bi_fa, bi_0, bi_1, not_true_eq_false, not_false_eq_true, rnk_v, rnk_n, ↓reduceIte, i00, i11, ibi, or_true, true_or, and_true, true_and, List.cons_append, List.nil_append, Option.toList, nop]
theorem l_fill2 {D : Nat} (hD : 2 ≤ D) {M : tM} {K : tK} (hR : RepN M 92 K) (hI : kInv K) {c : Nat} (hc : c < kC K) (st : Bool) {f : tF} (hf : RepF M f) {t : Nat} (ht : t < kT K) {z : Int} : ∃ M', rn (exF D) C_X11_fill 59 [some (.ref 90), some (.int (iI c)), some (.int (iI z)), some (.int (iI t)), some (.int (iI ((gF K c st).1 t)))] [] M = rn (exF D) C_X11_fill 85 [some (.ref 90), some (.int (iI c)), some (.int (iI z)), some (.int (iI t)), some (.int (iI ((gF K c st).1 t)))] [] M' ∧ RepF M' (fi2 K (gF K c st) t f) ∧ Sm [101] M M' := by
  have g0 := kI_n hI
  have g1 := kI_t hI ht
  have g2 := gF_I hI hc st t ht
  have m1 := k_X11_may (show _ ≤ D by omega) hR hI hc ht 1 true rfl
  unfold fi2
  rw [gF_2]
  by_cases q : mayK K c t true = true
  · rw [bi_t q] at m1
    rw [if_pos q]
    refine ⟨_, ?_, RepF_um hf (by omega) (by omega), Sm_sI (by simp)⟩
    simp (maxSteps := 4000000) (disch := omega) only [s_X11_fill_59, s_X11_fill_60, s_X11_fill_61, s_X11_fill_62, s_X11_fill_63, s_X11_fill_66, s_X11_fill_69, s_X11_fill_70, s_X11_fill_71, s_X11_fill_72, s_X11_fill_75, s_X11_fill_76, s_X11_fill_77, s_X11_fill_80, s_X11_fill_82, cls_90, fv_90_0, fv_90_1, fv_90_2, fv_90_3, fv_90_4, fv_90_5, fv_90_6, fv_90_7, fv_90_8, fv_90_9, fv_90_10, fv_90_11, fv_90_12, fv_90_13, fv_90_14, fv_90_15, fv_90_16, fv_90_17, fv_90_18, fv_90_19, fv_90_20, fv_90_21, fv_90_22, fv_90_23, fv_90_24, fv_90_25, ak_91, al_91, ak_92, al_92, ak_93, al_93, ak_94, al_94, ak_95, al_95, ak_96, al_96, ak_97, al_97, ak_98, al_98, ak_99, al_99, ak_100, al_100, rf_100, ak_101, al_101, ak_102, al_102, ak_103, al_103, ak_104, al_104, ak_105, al_105, ak_106, al_106, tn_add, tn_mul, iI_long, jJ_int, m1, k_X11_from (show _ ≤ D by omega) hR hI ht, k_X11_to (show _ ≤ D by omega) hR hI ht, k_X11_nearer (show _ ≤ D by omega) hf (show kO K t < 8 by omega) (show kF K t < 8 by omega) (show (gF K c st).1 t ≤ 20000 by omega), iI_add, iI_sub, iI_mul, iI_neg, iI_lt, iI_le, iI_eq, iI_toInt, tn_n, tn_1, inb_I, Int.reduceEq, Int.reduceLT, Int.reduceLE, Int.reduceAdd, Int.reduceSub, Int.reduceMul, Int.reduceNeg, Int.reduceToNat, Nat.reduceAdd, Nat.reduceMul, Int.reduceNatCast, reduceCtorEq, Int.cast_ofNat_Int, bi_tr, bi_fa, bi_0, bi_1, not_true_eq_false, not_false_eq_true, rnk_v, rnk_n, ↓reduceIte, i00, i11, ibi, or_true, true_or, and_true, true_and, List.cons_append, List.nil_append, Option.toList, nop]
  · rw [bi_f q] at m1
    rw [if_neg q]
    refine ⟨M, ?_, hf, Sm_rf _ _⟩
    simp (maxSteps := 4000000) (disch := omega) only [s_X11_fill_59, s_X11_fill_60, s_X11_fill_61, s_X11_fill_62, s_X11_fill_63, s_X11_fill_66, s_X11_fill_69, s_X11_fill_70, s_X11_fill_71, s_X11_fill_72, s_X11_fill_75, s_X11_fill_76, s_X11_fill_77, s_X11_fill_80, s_X11_fill_82, cls_90, fv_90_0, fv_90_1, fv_90_2, fv_90_3, fv_90_4, fv_90_5, fv_90_6, fv_90_7, fv_90_8, fv_90_9, fv_90_10, fv_90_11, fv_90_12, fv_90_13, fv_90_14, fv_90_15, fv_90_16, fv_90_17, fv_90_18, fv_90_19, fv_90_20, fv_90_21, fv_90_22, fv_90_23, fv_90_24, fv_90_25, ak_91, al_91, ak_92, al_92, ak_93, al_93, ak_94, al_94, ak_95, al_95, ak_96, al_96, ak_97, al_97, ak_98, al_98, ak_99, al_99, ak_100, al_100, rf_100, ak_101, al_101, ak_102, al_102, ak_103, al_103, ak_104, al_104, ak_105, al_105, ak_106, al_106, tn_add, tn_mul, iI_long, jJ_int, m1, iI_add, iI_sub, iI_mul, iI_neg, iI_lt, iI_le, iI_eq, iI_toInt, tn_n, tn_1, inb_I, Int.reduceEq, Int.reduceLT, Int.reduceLE, Int.reduceAdd, Int.reduceSub, Int.reduceMul, Int.reduceNeg, Int.reduceToNat, Nat.reduceAdd, Nat.reduceMul, Int.reduceNatCast, reduceCtorEq, Int.cast_ofNat_Int, bi_tr, bi_fa, bi_0, bi_1, not_true_eq_false, not_false_eq_true, rnk_v, rnk_n, ↓reduceIte, i00, i11, ibi, or_true, true_or, and_true, true_and, List.cons_append, List.nil_append, Option.toList, nop]
theorem k_X11_fill {D : Nat} (hD : 3 ≤ D) {M : tM} {K : tK} (hR : RepN M 92 K) (hI : kInv K) {c : Nat} (hc : c < kC K) (z : Int) (st : Bool) (hz : z = if st then 1 else 0) : ∃ M', exF D m_X11_fill [.ref 90, .int (iI c), .int (iI z)] M = some (none, M') ∧ RepF M' (dG K (gF K c st)) ∧ Sm [101] M M' := by
  obtain ⟨D, rfl⟩ : ∃ D0, D = D0 + 1 := ⟨D - 1, by omega⟩
  have g0 := kI_n hI
  obtain ⟨M0, b1, b2, b3⟩ := k_X11_clear (show _ ≤ D by omega) (M := M)
  have r0 : RepN M0 92 K := RepN_Sm hR b3 (by simp)
  obtain ⟨⟨M1, x4⟩, e, h3, h4⟩ := lp (f := fun i (a : tM × Option Value) => rn (exF D) C_X11_fill 6 [some (.ref 90), some (.int (iI c)), some (.int (iI z)), some (.int (iI i)), a.2] [] a.1) (P := fun i a => Sm [101] M0 a.1 ∧ RepF a.1 (fi K (gF K c st) i)) (n := kT K) (by
    rintro t ⟨N, x⟩ ht ⟨p1, p2⟩
    have r1 : RepN N 92 K := RepN_Sm r0 p1 (by simp)
    obtain ⟨N1, a1, a2, a3⟩ := l_fill1 (show 2 ≤ D by omega) r1 hI hc st p2 ht (z := z)
    have r2 : RepN N1 92 K := RepN_Sm r1 a3 (by simp)
    obtain ⟨N2, c1, c2, c3⟩ := l_fill2 (show 2 ≤ D by omega) r2 hI hc st a2 ht (z := z)
    refine ⟨(N2, some (.int (iI ((gF K c st).1 t)))), ?_, Sm_tr p1 (Sm_tr a3 c3), c2⟩
    intro X hX
    show rn _ _ _ _ _ _ = X
    have g2 := r1.1.2.1
    have m1 := k_X11_timeOf (show _ ≤ D by omega) r1 hI hc ht
    rw [← gK_tm hI hc ht (p := (kP K : Int)) (by omega) (by omega)] at m1
    have mid : rn (exF D) C_X11_fill 6 [some (.ref 90), some (.int (iI c)), some (.int (iI z)), some (.int (iI t)), x] [] N = rn (exF D) C_X11_fill 33 [some (.ref 90), some (.int (iI c)), some (.int (iI z)), some (.int (iI t)), some (.int (iI ((gF K c st).1 t)))] [] N := by
      cases st
      · subst hz
        simp (maxSteps := 4000000) (disch := omega) only [s_X11_fill_6, s_X11_fill_7, s_X11_fill_8, s_X11_fill_11, s_X11_fill_13, s_X11_fill_14, s_X11_fill_17, s_X11_fill_18, s_X11_fill_21, s_X11_fill_22, s_X11_fill_25, s_X11_fill_26, s_X11_fill_27, s_X11_fill_28, s_X11_fill_31, cls_90, fv_90_0, fv_90_1, fv_90_2, fv_90_3, fv_90_4, fv_90_5, fv_90_6, fv_90_7, fv_90_8, fv_90_9, fv_90_10, fv_90_11, fv_90_12, fv_90_13, fv_90_14, fv_90_15, fv_90_16, fv_90_17, fv_90_18, fv_90_19, fv_90_20, fv_90_21, fv_90_22, fv_90_23, fv_90_24, fv_90_25, ak_91, al_91, ak_92, al_92, ak_93, al_93, ak_94, al_94, ak_95, al_95, ak_96, al_96, ak_97, al_97, ak_98, al_98, ak_99, al_99, ak_100, al_100, rf_100, ak_101, al_101, ak_102, al_102, ak_103, al_103, ak_104, al_104, ak_105, al_105, ak_106, al_106, tn_add, tn_mul, iI_long, jJ_int, g2, m1, leF, Bool.false_eq_true, iI_add, iI_sub, iI_mul, iI_neg, iI_lt, iI_le, iI_eq, iI_toInt, tn_n, tn_1, inb_I, Int.reduceEq, Int.reduceLT, Int.reduceLE, Int.reduceAdd, Int.reduceSub, Int.reduceMul, Int.reduceNeg, Int.reduceToNat, Nat.reduceAdd, Nat.reduceMul, Int.reduceNatCast, reduceCtorEq, Int.cast_ofNat_Int, bi_tr, bi_fa, bi_0, bi_1, not_true_eq_false, not_false_eq_true, rnk_v, rnk_n, ↓reduceIte, i00, i11, ibi, or_true, true_or, and_true, true_and, List.cons_append, List.nil_append, Option.toList, nop]
        rfl
      · subst hz
        simp (maxSteps := 4000000) (disch := omega) only [s_X11_fill_6, s_X11_fill_7, s_X11_fill_8, s_X11_fill_11, s_X11_fill_13, s_X11_fill_14, s_X11_fill_17, s_X11_fill_18, s_X11_fill_21, s_X11_fill_22, s_X11_fill_25, s_X11_fill_26, s_X11_fill_27, s_X11_fill_28, s_X11_fill_31, cls_90, fv_90_0, fv_90_1, fv_90_2, fv_90_3, fv_90_4, fv_90_5, fv_90_6, fv_90_7, fv_90_8, fv_90_9, fv_90_10, fv_90_11, fv_90_12, fv_90_13, fv_90_14, fv_90_15, fv_90_16, fv_90_17, fv_90_18, fv_90_19, fv_90_20, fv_90_21, fv_90_22, fv_90_23, fv_90_24, fv_90_25, ak_91, al_91, ak_92, al_92, ak_93, al_93, ak_94, al_94, ak_95, al_95, ak_96, al_96, ak_97, al_97, ak_98, al_98, ak_99, al_99, ak_100, al_100, rf_100, ak_101, al_101, ak_102, al_102, ak_103, al_103, ak_104, al_104, ak_105, al_105, ak_106, al_106, tn_add, tn_mul, iI_long, jJ_int, g2, leF, iI_add, iI_sub, iI_mul, iI_neg, iI_lt, iI_le, iI_eq, iI_toInt, tn_n, tn_1, inb_I, Int.reduceEq, Int.reduceLT, Int.reduceLE, Int.reduceAdd, Int.reduceSub, Int.reduceMul, Int.reduceNeg, Int.reduceToNat, Nat.reduceAdd, Nat.reduceMul, Int.reduceNatCast, reduceCtorEq, Int.cast_ofNat_Int, bi_tr, bi_fa, bi_0, bi_1, not_true_eq_false, not_false_eq_true, rnk_v, rnk_n, ↓reduceIte, i00, i11, ibi, or_true, true_or, and_true, true_and, List.cons_append, List.nil_append, Option.toList, nop]
        rfl
    rw [mid, a1, c1]
    simp (maxSteps := 4000000) (disch := omega) only [s_X11_fill_85, s_X11_fill_88, iI_add, iI_sub, iI_mul, iI_neg, iI_lt, iI_le, iI_eq, iI_toInt, tn_n, tn_1, inb_I, Int.reduceEq, Int.reduceLT, Int.reduceLE, Int.reduceAdd, Int.reduceSub, Int.reduceMul, Int.reduceNeg, Int.reduceToNat, Nat.reduceAdd, Nat.reduceMul, Int.reduceNatCast, reduceCtorEq, Int.cast_ofNat_Int, bi_tr, bi_fa, bi_0, bi_1, not_true_eq_false, not_false_eq_true, rnk_v, rnk_n, ↓reduceIte, i00, i11, ibi, or_true, true_or, and_true, true_and, List.cons_append, List.nil_append, Option.toList, nop]
    exact hX) (Nat.zero_le _) (a := (M0, none)) ⟨Sm_rf _ _, b2⟩
  have h3' : Sm [101] M0 M1 := h3
  have r2 : RepN M1 92 K := RepN_Sm r0 h3' (by simp)
  obtain ⟨M2, d1, d2, d3⟩ := k_X11_close (show _ ≤ D by omega) r2 hI h4
  refine ⟨M2, ?_, d2, Sm_tr b3 (Sm_tr h3' d3)⟩
  have g2 := r2.1.2.1
  simp (maxSteps := 4000000) (disch := omega) only [en_X11_fill, s_X11_fill_0, s_X11_fill_1, s_X11_fill_4, s_X11_fill_5, cls_90, fv_90_0, fv_90_1, fv_90_2, fv_90_3, fv_90_4, fv_90_5, fv_90_6, fv_90_7, fv_90_8, fv_90_9, fv_90_10, fv_90_11, fv_90_12, fv_90_13, fv_90_14, fv_90_15, fv_90_16, fv_90_17, fv_90_18, fv_90_19, fv_90_20, fv_90_21, fv_90_22, fv_90_23, fv_90_24, fv_90_25, ak_91, al_91, ak_92, al_92, ak_93, al_93, ak_94, al_94, ak_95, al_95, ak_96, al_96, ak_97, al_97, ak_98, al_98, ak_99, al_99, ak_100, al_100, rf_100, ak_101, al_101, ak_102, al_102, ak_103, al_103, ak_104, al_104, ak_105, al_105, ak_106, al_106, tn_add, tn_mul, iI_long, jJ_int, b1, Int.reduceEq, Int.reduceLT, Int.reduceLE, Int.reduceAdd, Int.reduceSub, Int.reduceMul, Int.reduceNeg, Int.reduceToNat, Nat.reduceAdd, Nat.reduceMul, Int.reduceNatCast, reduceCtorEq, Int.cast_ofNat_Int, bi_tr, bi_fa, bi_0, bi_1, not_true_eq_false, not_false_eq_true, rnk_v, rnk_n, ↓reduceIte, i00, i11, ibi, or_true, true_or, and_true, true_and, List.cons_append, List.nil_append, Option.toList, nop]
  refine e.trans ?_
  simp (maxSteps := 4000000) (disch := omega) only [s_X11_fill_6, s_X11_fill_7, s_X11_fill_8, s_X11_fill_11, s_X11_fill_13, s_X11_fill_14, s_X11_fill_91, s_X11_fill_92, s_X11_fill_95, cls_90, fv_90_0, fv_90_1, fv_90_2, fv_90_3, fv_90_4, fv_90_5, fv_90_6, fv_90_7, fv_90_8, fv_90_9, fv_90_10, fv_90_11, fv_90_12, fv_90_13, fv_90_14, fv_90_15, fv_90_16, fv_90_17, fv_90_18, fv_90_19, fv_90_20, fv_90_21, fv_90_22, fv_90_23, fv_90_24, fv_90_25, ak_91, al_91, ak_92, al_92, ak_93, al_93, ak_94, al_94, ak_95, al_95, ak_96, al_96, ak_97, al_97, ak_98, al_98, ak_99, al_99, ak_100, al_100, rf_100, ak_101, al_101, ak_102, al_102, ak_103, al_103, ak_104, al_104, ak_105, al_105, ak_106, al_106, tn_add, tn_mul, iI_long, jJ_int, g2, d1, leT, iI_add, iI_sub, iI_mul, iI_neg, iI_lt, iI_le, iI_eq, iI_toInt, tn_n, tn_1, inb_I, Int.reduceEq, Int.reduceLT, Int.reduceLE, Int.reduceAdd, Int.reduceSub, Int.reduceMul, Int.reduceNeg, Int.reduceToNat, Nat.reduceAdd, Nat.reduceMul, Int.reduceNatCast, reduceCtorEq, Int.cast_ofNat_Int, bi_tr, bi_fa, bi_0, bi_1, not_true_eq_false, not_false_eq_true, rnk_v, rnk_n, ↓reduceIte, i00, i11, ibi, or_true, true_or, and_true, true_and, List.cons_append, List.nil_append, Option.toList, nop]
theorem k_X11_sound {D : Nat} (hD : 3 ≤ D) {M : tM} {K : tK} (hR : RepN M 92 K) (hI : kInv K) : ∃ M', exF D m_X11_sound [.ref 90] M = some (none, M') ∧ RepF M' (dG K (gS K)) ∧ Sm [101] M M' := by
  obtain ⟨D, rfl⟩ : ∃ D0, D = D0 + 1 := ⟨D - 1, by omega⟩
  have g0 := kI_n hI
  obtain ⟨M0, b1, b2, b3⟩ := k_X11_clear (show _ ≤ D by omega) (M := M)
  have r0 : RepN M0 92 K := RepN_Sm hR b3 (by simp)
  obtain ⟨M1, e, h3, h4⟩ := lp (f := fun i (N : tM) => rn (exF D) C_X11_sound 6 [some (.ref 90), some (.int (iI i))] [] N) (P := fun i N => Sm [101] M0 N ∧ RepF N (fi K (gS K) i)) (n := kT K) (by
    rintro t N ht ⟨p1, p2⟩
    have r1 : RepN N 92 K := RepN_Sm r0 p1 (by simp)
    have g1 := kI_t hI ht
    have g2 := r1.1.2.1
    have m1 := k_X11_isShut (show _ ≤ D by omega) r1 hI ht
    by_cases q : kH K t = 1
    · have q1 : (gS K).2.1 t = false := by simp [gS, q]
      have q2 : (gS K).2.2 t = false := by simp [gS, q]
      refine ⟨N, ?_, p1, ?_⟩
      · intro X hX
        show rn _ _ _ _ _ _ = X
        rw [bi_t q] at m1
        rw [s_X11_sound_6]
        simp (maxSteps := 4000000) (disch := omega) only [s_X11_sound_7, s_X11_sound_8, s_X11_sound_11, s_X11_sound_13, s_X11_sound_14, s_X11_sound_17, s_X11_sound_18, s_X11_sound_19, s_X11_sound_22, s_X11_sound_63, s_X11_sound_66, cls_90, fv_90_0, fv_90_1, fv_90_2, fv_90_3, fv_90_4, fv_90_5, fv_90_6, fv_90_7, fv_90_8, fv_90_9, fv_90_10, fv_90_11, fv_90_12, fv_90_13, fv_90_14, fv_90_15, fv_90_16, fv_90_17, fv_90_18, fv_90_19, fv_90_20, fv_90_21, fv_90_22, fv_90_23, fv_90_24, fv_90_25, ak_91, al_91, ak_92, al_92, ak_93, al_93, ak_94, al_94, ak_95, al_95, ak_96, al_96, ak_97, al_97, ak_98, al_98, ak_99, al_99, ak_100, al_100, rf_100, ak_101, al_101, ak_102, al_102, ak_103, al_103, ak_104, al_104, ak_105, al_105, ak_106, al_106, tn_add, tn_mul, iI_long, jJ_int, g2, m1, leF, iI_add, iI_sub, iI_mul, iI_neg, iI_lt, iI_le, iI_eq, iI_toInt, tn_n, tn_1, inb_I, Int.reduceEq, Int.reduceLT, Int.reduceLE, Int.reduceAdd, Int.reduceSub, Int.reduceMul, Int.reduceNeg, Int.reduceToNat, Nat.reduceAdd, Nat.reduceMul, Int.reduceNatCast, reduceCtorEq, Int.cast_ofNat_Int, bi_tr, bi_fa, bi_0, bi_1, not_true_eq_false, not_false_eq_true, rnk_v, rnk_n, ↓reduceIte, i00, i11, ibi, or_true, true_or, and_true, true_and, List.cons_append, List.nil_append, Option.toList, nop]
        exact hX
      · show RepF N (fi2 _ _ _ (fi1 _ _ _ _))
        unfold fi2 fi1
        rw [q1, q2]
        exact p2
    · have q1 : (gS K).2.1 t = true := by simp [gS, q]
      have q2 : (gS K).2.2 t = true := by simp [gS, q]
      have p3 := RepF_um p2 (i := kF K t) (j := kO K t) (x := kL K t) (by omega) (by omega)
      have s3 : Sm [101] N (sI N 101 (8 * kF K t + kO K t) (iI ((min (fi K (gS K) t (kF K t) (kO K t)) (kL K t) : Nat) : Int))) := Sm_sI (by simp)
      have r3 := RepN_Sm r1 s3 (by simp)
      have p4 := RepF_um p3 (i := kO K t) (j := kF K t) (x := kL K t) (by omega) (by omega)
      refine ⟨sI (sI N 101 (8 * kF K t + kO K t) (iI ((min (fi K (gS K) t (kF K t) (kO K t)) (kL K t) : Nat) : Int))) 101 (8 * kO K t + kF K t) (iI ((min (um (fi K (gS K) t) (kF K t) (kO K t) (kL K t) (kO K t) (kF K t)) (kL K t) : Nat) : Int)), ?_, Sm_tr p1 (Sm_tr s3 (Sm_sI (by simp))), ?_⟩
      · intro X hX
        show rn _ _ _ _ _ _ = X
        rw [bi_f q] at m1
        rw [s_X11_sound_6]
        simp (maxSteps := 4000000) (disch := omega) only [s_X11_sound_7, s_X11_sound_8, s_X11_sound_11, s_X11_sound_13, s_X11_sound_14, s_X11_sound_17, s_X11_sound_18, s_X11_sound_19, s_X11_sound_22, s_X11_sound_25, s_X11_sound_26, s_X11_sound_27, s_X11_sound_28, s_X11_sound_31, s_X11_sound_32, s_X11_sound_33, s_X11_sound_36, s_X11_sound_37, s_X11_sound_38, s_X11_sound_41, s_X11_sound_44, s_X11_sound_45, s_X11_sound_46, s_X11_sound_47, s_X11_sound_50, s_X11_sound_51, s_X11_sound_52, s_X11_sound_55, s_X11_sound_56, s_X11_sound_57, s_X11_sound_60, s_X11_sound_63, s_X11_sound_66, cls_90, fv_90_0, fv_90_1, fv_90_2, fv_90_3, fv_90_4, fv_90_5, fv_90_6, fv_90_7, fv_90_8, fv_90_9, fv_90_10, fv_90_11, fv_90_12, fv_90_13, fv_90_14, fv_90_15, fv_90_16, fv_90_17, fv_90_18, fv_90_19, fv_90_20, fv_90_21, fv_90_22, fv_90_23, fv_90_24, fv_90_25, ak_91, al_91, ak_92, al_92, ak_93, al_93, ak_94, al_94, ak_95, al_95, ak_96, al_96, ak_97, al_97, ak_98, al_98, ak_99, al_99, ak_100, al_100, rf_100, ak_101, al_101, ak_102, al_102, ak_103, al_103, ak_104, al_104, ak_105, al_105, ak_106, al_106, tn_add, tn_mul, iI_long, jJ_int, g2, m1, k_X11_from (show _ ≤ D by omega) r1 hI ht, k_X11_to (show _ ≤ D by omega) r1 hI ht, k_X11_length (show _ ≤ D by omega) r1 hI ht, k_X11_from (show _ ≤ D by omega) r3 hI ht, k_X11_to (show _ ≤ D by omega) r3 hI ht, k_X11_length (show _ ≤ D by omega) r3 hI ht, k_X11_nearer (show _ ≤ D by omega) p2 (show kF K t < 8 by omega) (show kO K t < 8 by omega) (show kL K t ≤ 20000 by omega), k_X11_nearer (show _ ≤ D by omega) p3 (show kO K t < 8 by omega) (show kF K t < 8 by omega) (show kL K t ≤ 20000 by omega), leF, iI_add, iI_sub, iI_mul, iI_neg, iI_lt, iI_le, iI_eq, iI_toInt, tn_n, tn_1, inb_I, Int.reduceEq, Int.reduceLT, Int.reduceLE, Int.reduceAdd, Int.reduceSub, Int.reduceMul, Int.reduceNeg, Int.reduceToNat, Nat.reduceAdd, Nat.reduceMul, Int.reduceNatCast, reduceCtorEq, Int.cast_ofNat_Int, bi_tr, bi_fa, bi_0, bi_1, not_true_eq_false, not_false_eq_true, rnk_v, rnk_n, ↓reduceIte, i00, i11, ibi, or_true, true_or, and_true, true_and, List.cons_append, List.nil_append, Option.toList, nop]
        exact hX
      · show RepF _ (fi2 _ _ _ (fi1 _ _ _ _))
        unfold fi2 fi1
        rw [q1, q2]
        exact p4) (Nat.zero_le _) (a := M0) ⟨Sm_rf _ _, b2⟩
  have r2 : RepN M1 92 K := RepN_Sm r0 h3 (by simp)
  obtain ⟨M2, d1, d2, d3⟩ := k_X11_close (show _ ≤ D by omega) r2 hI h4
  refine ⟨M2, ?_, d2, Sm_tr b3 (Sm_tr h3 d3)⟩
  have g2 := r2.1.2.1
  simp (maxSteps := 4000000) (disch := omega) only [en_X11_sound, s_X11_sound_0, s_X11_sound_1, s_X11_sound_4, s_X11_sound_5, cls_90, fv_90_0, fv_90_1, fv_90_2, fv_90_3, fv_90_4, fv_90_5, fv_90_6, fv_90_7, fv_90_8, fv_90_9, fv_90_10, fv_90_11, fv_90_12, fv_90_13, fv_90_14, fv_90_15, fv_90_16, fv_90_17, fv_90_18, fv_90_19, fv_90_20, fv_90_21, fv_90_22, fv_90_23, fv_90_24, fv_90_25, ak_91, al_91, ak_92, al_92, ak_93, al_93, ak_94, al_94, ak_95, al_95, ak_96, al_96, ak_97, al_97, ak_98, al_98, ak_99, al_99, ak_100, al_100, rf_100, ak_101, al_101, ak_102, al_102, ak_103, al_103, ak_104, al_104, ak_105, al_105, ak_106, al_106, tn_add, tn_mul, iI_long, jJ_int, b1, Int.reduceEq, Int.reduceLT, Int.reduceLE, Int.reduceAdd, Int.reduceSub, Int.reduceMul, Int.reduceNeg, Int.reduceToNat, Nat.reduceAdd, Nat.reduceMul, Int.reduceNatCast, reduceCtorEq, Int.cast_ofNat_Int, bi_tr, bi_fa, bi_0, bi_1, not_true_eq_false, not_false_eq_true, rnk_v, rnk_n, ↓reduceIte, i00, i11, ibi, or_true, true_or, and_true, true_and, List.cons_append, List.nil_append, Option.toList, nop]
  refine e.trans ?_
  simp (maxSteps := 4000000) (disch := omega) only [s_X11_sound_6, s_X11_sound_7, s_X11_sound_8, s_X11_sound_11, s_X11_sound_13, s_X11_sound_14, s_X11_sound_69, s_X11_sound_70, s_X11_sound_73, cls_90, fv_90_0, fv_90_1, fv_90_2, fv_90_3, fv_90_4, fv_90_5, fv_90_6, fv_90_7, fv_90_8, fv_90_9, fv_90_10, fv_90_11, fv_90_12, fv_90_13, fv_90_14, fv_90_15, fv_90_16, fv_90_17, fv_90_18, fv_90_19, fv_90_20, fv_90_21, fv_90_22, fv_90_23, fv_90_24, fv_90_25, ak_91, al_91, ak_92, al_92, ak_93, al_93, ak_94, al_94, ak_95, al_95, ak_96, al_96, ak_97, al_97, ak_98, al_98, ak_99, al_99, ak_100, al_100, rf_100, ak_101, al_101, ak_102, al_102, ak_103, al_103, ak_104, al_104, ak_105, al_105, ak_106, al_106, tn_add, tn_mul, iI_long, jJ_int, g2, d1, leT, iI_add, iI_sub, iI_mul, iI_neg, iI_lt, iI_le, iI_eq, iI_toInt, tn_n, tn_1, inb_I, Int.reduceEq, Int.reduceLT, Int.reduceLE, Int.reduceAdd, Int.reduceSub, Int.reduceMul, Int.reduceNeg, Int.reduceToNat, Nat.reduceAdd, Nat.reduceMul, Int.reduceNatCast, reduceCtorEq, Int.cast_ofNat_Int, bi_tr, bi_fa, bi_0, bi_1, not_true_eq_false, not_false_eq_true, rnk_v, rnk_n, ↓reduceIte, i00, i11, ibi, or_true, true_or, and_true, true_and, List.cons_append, List.nil_append, Option.toList, nop]
theorem k_X11_way {D : Nat} (hD : 2 ≤ D) {M : tM} {K : tK} (hR : RepN M 92 K) (hI : kInv K) {f : tF} (hf : RepF M f) {c d : Nat} (hc : c < kC K) (hd : d < 8) : exF D m_X11_way [.ref 90, .int (iI c), .int (iI d)] M = some (some (.int (iI (f (kX K c) d))), M) := by
  obtain ⟨D, rfl⟩ : ∃ D0, D = D0 + 1 := ⟨D - 1, by omega⟩
  have g0 := kI_n hI
  have g1 := kI_c hI hc
  obtain ⟨e1, e2⟩ := hf (kX K c) (by omega) d hd
  simp (maxSteps := 4000000) (disch := omega) only [en_X11_way, s_X11_way_0, s_X11_way_1, s_X11_way_4, s_X11_way_6, s_X11_way_7, s_X11_way_8, s_X11_way_11, s_X11_way_12, s_X11_way_13, s_X11_way_14, s_X11_way_15, cls_90, fv_90_0, fv_90_1, fv_90_2, fv_90_3, fv_90_4, fv_90_5, fv_90_6, fv_90_7, fv_90_8, fv_90_9, fv_90_10, fv_90_11, fv_90_12, fv_90_13, fv_90_14, fv_90_15, fv_90_16, fv_90_17, fv_90_18, fv_90_19, fv_90_20, fv_90_21, fv_90_22, fv_90_23, fv_90_24, fv_90_25, ak_91, al_91, ak_92, al_92, ak_93, al_93, ak_94, al_94, ak_95, al_95, ak_96, al_96, ak_97, al_97, ak_98, al_98, ak_99, al_99, ak_100, al_100, rf_100, ak_101, al_101, ak_102, al_102, ak_103, al_103, ak_104, al_104, ak_105, al_105, ak_106, al_106, tn_add, tn_mul, iI_long, jJ_int, k_X11_at (show _ ≤ D by omega) hR hI hc, e1, iI_add, iI_sub, iI_mul, iI_neg, iI_lt, iI_le, iI_eq, iI_toInt, tn_n, tn_1, inb_I, Int.reduceEq, Int.reduceLT, Int.reduceLE, Int.reduceAdd, Int.reduceSub, Int.reduceMul, Int.reduceNeg, Int.reduceToNat, Nat.reduceAdd, Nat.reduceMul, Int.reduceNatCast, reduceCtorEq, Int.cast_ofNat_Int, bi_tr, bi_fa, bi_0, bi_1, not_true_eq_false, not_false_eq_true, rnk_v, rnk_n, ↓reduceIte, i00, i11, ibi, or_true, true_or, and_true, true_and, List.cons_append, List.nil_append, Option.toList, nop]
