/-! ROUNDS of the class -/
theorem RepTb_Sm {M M' : tM} {K : tK} {f : tF} (hI : kInv K) (h : RepTb M K f) {l : List Nat} (hs : Sm l M M') (hl : ∀ a ∈ l, a < 49 ∨ 57 ≤ a) : RepTb M' K f := by
  intro u hu v hv
  have := (kI_n hI).1
  rw [(hs (49 + u) (fun q => by have := hl _ q; omega)).1]
  exact h u hu v hv
theorem lt09 : ((0 : Nat) < 9) = True := eq_true (by decide)
theorem sub_lt8 {l : Nat} (d : Nat) (hl : l < 256) : l - 2 ^ d < 256 := Nat.lt_of_le_of_lt (Nat.sub_le _ _) hl
theorem k_X7_bestOf {D : Nat} (hD : 1 ≤ D) {M : tM} {l a : Nat} (hl : l < 256) (ha : a < 8) {x : Int} (h : M.1 58 (l * 8 + a) = iI x) : exF D m_X7_bestOf [.ref 57, .int (iI l), .int (iI a)] M = some (some (.int (iI x)), M) := by
  obtain ⟨D, rfl⟩ : ∃ D0, D = D0 + 1 := ⟨D - 1, by omega⟩
  simp (maxSteps := 4000000) (disch := omega) only [en_X7_bestOf, s_X7_bestOf_0, s_X7_bestOf_1, s_X7_bestOf_3, s_X7_bestOf_4, s_X7_bestOf_5, s_X7_bestOf_6, s_X7_bestOf_7, s_X7_bestOf_8, s_X7_bestOf_11, s_X7_bestOf_12, s_X7_bestOf_13, s_X7_bestOf_16, s_X7_bestOf_17, s_X7_bestOf_20, s_X7_bestOf_21, s_X7_bestOf_24, s_X7_bestOf_25, s_X7_bestOf_26, s_X7_bestOf_29, s_X7_bestOf_32, cls_57, fv_57_0, ak_58, al_58, lt09, tn_add, tn_mul, h, ltF (show (0 : Int) ≤ (l : Int) * 8 + a by omega), leF (show (l : Int) * 8 + a < 2048 by omega), iI_add, iI_sub, iI_mul, iI_neg, iI_lt, iI_le, iI_eq, iI_toInt, tn_n, tn_1, inb_I, Int.reduceEq, Int.reduceLT, Int.reduceLE, Int.reduceAdd, Int.reduceSub, Int.reduceMul, Int.reduceNeg, Int.reduceToNat, Nat.reduceAdd, Nat.reduceMul, Int.reduceNatCast, reduceCtorEq, Int.cast_ofNat_Int, bi_tr, bi_fa, bi_0, bi_1, not_true_eq_false, not_false_eq_true, rnk_v, rnk_n, ↓reduceIte, i00, i11, ibi, or_true, true_or, and_true, true_and, List.cons_append, List.nil_append, Option.toList, nop]
theorem k_X7_leastOver {D : Nat} (hD : 3 ≤ D) {M : tM} {K : tK} {f : tF} (hI : kInv K) (hT : RepTb M K f) (hf : dOK f (kD K)) {l a d st : Nat} (hl : l < 256) (ha : a < kD K) (hd : d < kD K) (hst : st ≤ 60) (q : l.testBit d = true) (h : M.1 58 ((l - 2 ^ d) * 8 + d) = iI (rB f (kD K) st (l - 2 ^ d) d)) : exF D m_X7_leastOver [.ref 57, .ref 42, .int (iI l), .int (iI a), .int (iI d), .int (iI st)] M = some (some (.int (iI (rCd f (kD K) st l a d))), M) := by
  obtain ⟨D, rfl⟩ : ∃ D0, D = D0 + 1 := ⟨D - 1, by omega⟩
  have n0 := kI_n hI
  obtain ⟨t1, t2⟩ := hT a ha d hd
  have e1 := andn_p2 (show l < 65536 by omega) (show d < 16 by omega) q
  have e2 := p2_le q
  have k1 := k_X7_bestOf (D := D) (by omega) (sub_lt8 d hl) (show d < 8 by omega) h
  have e3 := rB_rng n0.1 hf hst (sub_lt8 d hl) hd
  have e4 : ((f a d + st + rB f (kD K) st (l - 2 ^ d) d : Nat) : Int) = (f a d : Int) + st + rB f (kD K) st (l - 2 ^ d) d := by omega
  simp (maxSteps := 4000000) (disch := omega) only [en_X7_leastOver, s_X7_leastOver_0, s_X7_leastOver_1, s_X7_leastOver_2, s_X7_leastOver_4, s_X7_leastOver_7, s_X7_leastOver_9, s_X7_leastOver_10, s_X7_leastOver_11, s_X7_leastOver_12, s_X7_leastOver_14, s_X7_leastOver_15, s_X7_leastOver_16, s_X7_leastOver_17, s_X7_leastOver_18, s_X7_leastOver_20, s_X7_leastOver_23, s_X7_leastOver_25, s_X7_leastOver_27, s_X7_leastOver_30, s_X7_leastOver_33, s_X7_leastOver_35, s_X7_leastOver_38, s_X7_leastOver_41, s_X7_leastOver_44, s_X7_leastOver_47, s_X7_leastOver_49, s_X7_leastOver_51, s_X7_leastOver_52, s_X7_leastOver_54, s_X7_leastOver_55, cls_57, fv_57_0, ak_58, al_58, cls_42, fv_42_0, fv_42_1, fv_42_2, fv_42_3, fv_42_4, fv_42_5, ak_43, al_43, ak_44, al_44, ak_45, al_45, ak_46, al_46, ak_47, al_47, ak_48, al_48, rf_48, ak_49, al_49, ak_50, al_50, ak_51, al_51, ak_52, al_52, ak_53, al_53, ak_54, al_54, ak_55, al_55, ak_56, al_56, tn_add, tn_mul, k_X9_between (D := D) (show _ ≤ D by omega) hI hT, iI_shl1, iI_andn, e1, k1, iI_add, iI_sub, iI_mul, iI_neg, iI_lt, iI_le, iI_eq, iI_toInt, tn_n, tn_1, inb_I, Int.reduceEq, Int.reduceLT, Int.reduceLE, Int.reduceAdd, Int.reduceSub, Int.reduceMul, Int.reduceNeg, Int.reduceToNat, Nat.reduceAdd, Nat.reduceMul, Int.reduceNatCast, reduceCtorEq, Int.cast_ofNat_Int, bi_tr, bi_fa, bi_0, bi_1, not_true_eq_false, not_false_eq_true, rnk_v, rnk_n, ↓reduceIte, i00, i11, ibi, or_true, true_or, and_true, true_and, List.cons_append, List.nil_append, Option.toList, nop]
  unfold rCd
  by_cases c1 : f a d = 9999
  · rw [if_pos (Or.inl c1), if_pos (by omega)]
    rfl
  · rw [if_neg (by omega)]
    by_cases c2 : rB f (kD K) st (l - 2 ^ d) d = 9999
    · rw [if_pos (Or.inr c2), if_neg (by omega)]
      rfl
    · rw [if_pos (by omega), if_neg (by omega), e4]
/-- what the table of rounds tells -/
def RepB (M : tM) (f : tF) (N st s a0 m : Nat) : Prop := ∀ l, l < m → subB l s → ∀ a, a < 8 → (a = a0 ∨ (s.testBit a = true ∧ l.testBit a = false)) → M.1 58 (l * 8 + a) = iI (rB f N st l a)
theorem RepB_in {M : tM} {f : tF} {N st s a0 m : Nat} (h : RepB M f N st s a0 m) {l d : Nat} (hm : l ≤ m) (hl : l < 256) (hd : d < 8) (hs : subB l s) (q : l.testBit d = true) : M.1 58 ((l - 2 ^ d) * 8 + d) = iI (rB f N st (l - 2 ^ d) d) := by
  have e2 := p2_le q
  have e3 : 0 < 2 ^ d := Nat.pow_pos (by omega)
  refine h _ (by omega) (subB_sub (by omega) (by omega) q hs) d hd (Or.inr ⟨hs d q, ?_⟩)
  rw [sub_bit (by omega) (by omega) q]; simp
theorem rB_0 (f : tF) (N st a : Nat) : rB f N st 0 a = 0 := by
  have e : ∀ n, rmn (rR f N) f 0 a n = 0 := by
    intro n
    induction n with
    | zero => rfl
    | succ n ih => simp only [rmn]; rw [if_neg (by simp)]; exact ih
  unfold rB
  rw [rR_eq (by omega), e]
  have : popc 0 = 0 := by decide
  rw [this]
  rfl
theorem k_X7_leastFrom {D : Nat} (hD : 4 ≤ D) {M : tM} {K : tK} {f : tF} (hI : kInv K) (hT : RepTb M K f) (hf : dOK f (kD K)) {l a st s a0 : Nat} (hs : s < 2 ^ kD K) (hl : l < 256) (hb : subB l s) (ha : a < kD K) (hst : st ≤ 60) (h : RepB M f (kD K) st s a0 l) : exF D m_X7_leastFrom [.ref 57, .ref 42, .int (iI l), .int (iI a), .int (iI st)] M = some (some (.int (iI (rB f (kD K) st l a))), M) := by
  obtain ⟨D, rfl⟩ : ∃ D0, D = D0 + 1 := ⟨D - 1, by omega⟩
  have n0 := kI_n hI
  by_cases q0 : l = 0
  · subst q0
    rw [rB_0]
    simp (maxSteps := 4000000) (disch := omega) only [en_X7_leastFrom, s_X7_leastFrom_0, s_X7_leastFrom_1, s_X7_leastFrom_4, s_X7_leastFrom_5, s_X7_leastFrom_6, s_X7_leastFrom_9, s_X7_leastFrom_11, s_X7_leastFrom_12, s_X7_leastFrom_14, s_X7_leastFrom_16, s_X7_leastFrom_18, s_X7_leastFrom_21, s_X7_leastFrom_22, s_X7_leastFrom_23, s_X7_leastFrom_25, s_X7_leastFrom_26, s_X7_leastFrom_27, s_X7_leastFrom_30, s_X7_leastFrom_32, s_X7_leastFrom_33, s_X7_leastFrom_34, s_X7_leastFrom_35, s_X7_leastFrom_36, s_X7_leastFrom_38, s_X7_leastFrom_40, s_X7_leastFrom_43, s_X7_leastFrom_46, s_X7_leastFrom_48, s_X7_leastFrom_51, s_X7_leastFrom_54, s_X7_leastFrom_56, iI_add, iI_sub, iI_mul, iI_neg, iI_lt, iI_le, iI_eq, iI_toInt, tn_n, tn_1, inb_I, Int.reduceEq, Int.reduceLT, Int.reduceLE, Int.reduceAdd, Int.reduceSub, Int.reduceMul, Int.reduceNeg, Int.reduceToNat, Nat.reduceAdd, Nat.reduceMul, Int.reduceNatCast, reduceCtorEq, Int.cast_ofNat_Int, bi_tr, bi_fa, bi_0, bi_1, not_true_eq_false, not_false_eq_true, rnk_v, rnk_n, ↓reduceIte, i00, i11, ibi, or_true, true_or, and_true, true_and, List.cons_append, List.nil_append, Option.toList, nop]
  have hlN : l < 2 ^ kD K := by
    by_cases q : l < 2 ^ kD K
    · exact q
    · exfalso
      have h1 : bts l.testBit (kD K) = l := by
        apply Nat.eq_of_testBit_eq
        intro i
        rw [bts_bit]
        by_cases hi : i < kD K
        · simp [hi]
        · by_cases hq : l.testBit i = true
          · have := lt_bit hs (hb i hq); omega
          · have hq' : l.testBit i = false := by simpa using hq
            simp [hi, hq']
      have := bts_lt l.testBit (kD K)
      omega
  have key := lq (f := fun d => rn (exF D) C_X7_leastFrom 14 [some (.ref 57), some (.ref 42), some (.int (iI l)), some (.int (iI a)), some (.int (iI st)), some (.int (iI (rBn f (kD K) st l a d))), some (.int (iI d))] [] M) (n := 8) (by
    intro d hd X hX
    show rn _ _ _ _ _ _ = X
    rw [s_X7_leastFrom_14]
    by_cases q : l.testBit d = true
    · have hd2 := lt_bit hlN q
      have k1 := k_X7_leastOver (D := D) (by omega) hI hT hf hl ha hd2 hst q (RepB_in h (Nat.le_refl _) hl hd hb q)
      have e1 := rBn_up (D := f) (st := st) n0.1 hf hst hl ha hd2
      rw [if_pos q] at e1
      simp only [e1] at hX
      have e2 := rBn_le (D := f) (st := st) n0.1 hf hst hl ha (show d ≤ kD K by omega)
      have e3 := rCd_eq (st := st) n0.1 hf hst hl ha hd2 q
      have e4 : min (rBn f (kD K) st l a d : Int) (rCd f (kD K) st l a d : Int) = ((min (rBn f (kD K) st l a d) (rCd f (kD K) st l a d) : Nat) : Int) := by omega
      simp (maxSteps := 4000000) (disch := omega) only [s_X7_leastFrom_16, s_X7_leastFrom_18, s_X7_leastFrom_21, s_X7_leastFrom_22, s_X7_leastFrom_23, s_X7_leastFrom_25, s_X7_leastFrom_26, s_X7_leastFrom_27, s_X7_leastFrom_30, s_X7_leastFrom_32, s_X7_leastFrom_33, s_X7_leastFrom_34, s_X7_leastFrom_35, s_X7_leastFrom_36, s_X7_leastFrom_38, s_X7_leastFrom_40, s_X7_leastFrom_43, s_X7_leastFrom_46, s_X7_leastFrom_48, s_X7_leastFrom_51, cls_57, fv_57_0, iI_shl1, bit_get1 (show l < 2147483648 by omega), q, k1, mnI_iI, e4, leF (show (d : Int) < 8 by omega), iI_add, iI_sub, iI_mul, iI_neg, iI_lt, iI_le, iI_eq, iI_toInt, tn_n, tn_1, inb_I, Int.reduceEq, Int.reduceLT, Int.reduceLE, Int.reduceAdd, Int.reduceSub, Int.reduceMul, Int.reduceNeg, Int.reduceToNat, Nat.reduceAdd, Nat.reduceMul, Int.reduceNatCast, reduceCtorEq, Int.cast_ofNat_Int, bi_tr, bi_fa, bi_0, bi_1, not_true_eq_false, not_false_eq_true, rnk_v, rnk_n, ↓reduceIte, i00, i11, ibi, or_true, true_or, and_true, true_and, List.cons_append, List.nil_append, Option.toList, nop]
      exact hX
    · have e1 : rBn f (kD K) st l a (d + 1) = rBn f (kD K) st l a d := by
        by_cases hd2 : d < kD K
        · rw [rBn_up n0.1 hf hst hl ha hd2, if_neg q]
        · have e5 := rBn_hi (D := f) (st := st) (a := a) hlN (d - kD K)
          have e6 := rBn_hi (D := f) (st := st) (a := a) hlN (d + 1 - kD K)
          rw [show kD K + (d - kD K) = d by omega] at e5
          rw [show kD K + (d + 1 - kD K) = d + 1 by omega] at e6
          rw [e5, e6]
      simp only [e1] at hX
      simp (maxSteps := 4000000) (disch := omega) only [s_X7_leastFrom_16, s_X7_leastFrom_18, s_X7_leastFrom_21, s_X7_leastFrom_22, s_X7_leastFrom_23, s_X7_leastFrom_25, s_X7_leastFrom_26, s_X7_leastFrom_27, s_X7_leastFrom_30, s_X7_leastFrom_32, s_X7_leastFrom_33, s_X7_leastFrom_34, s_X7_leastFrom_35, s_X7_leastFrom_36, s_X7_leastFrom_38, s_X7_leastFrom_40, s_X7_leastFrom_43, s_X7_leastFrom_46, s_X7_leastFrom_48, s_X7_leastFrom_51, iI_shl1, bit_get1 (show l < 2147483648 by omega), q, leF (show (d : Int) < 8 by omega), iI_add, iI_sub, iI_mul, iI_neg, iI_lt, iI_le, iI_eq, iI_toInt, tn_n, tn_1, inb_I, Int.reduceEq, Int.reduceLT, Int.reduceLE, Int.reduceAdd, Int.reduceSub, Int.reduceMul, Int.reduceNeg, Int.reduceToNat, Nat.reduceAdd, Nat.reduceMul, Int.reduceNatCast, reduceCtorEq, Int.cast_ofNat_Int, bi_tr, bi_fa, bi_0, bi_1, not_true_eq_false, not_false_eq_true, rnk_v, rnk_n, ↓reduceIte, i00, i11, ibi, or_true, true_or, and_true, true_and, List.cons_append, List.nil_append, Option.toList, nop]
      exact hX)
  have e0 : rBn f (kD K) st l a 0 = 9999 := by
    unfold rBn
    simp only [rmn]
    simp [q0]
  have e8 : rBn f (kD K) st l a 8 = rB f (kD K) st l a := by
    have := rBn_hi (D := f) (st := st) (a := a) hlN (8 - kD K)
    rw [show kD K + (8 - kD K) = 8 by omega] at this
    rw [this, rBn_N hl]
  simp only [e0, e8] at key
  have hl0 : ¬ (l : Int) = 0 := by omega
  simp (maxSteps := 4000000) (disch := omega) only [en_X7_leastFrom, s_X7_leastFrom_0, s_X7_leastFrom_1, s_X7_leastFrom_4, s_X7_leastFrom_5, s_X7_leastFrom_6, s_X7_leastFrom_9, s_X7_leastFrom_11, s_X7_leastFrom_12, hl0, iI_add, iI_sub, iI_mul, iI_neg, iI_lt, iI_le, iI_eq, iI_toInt, tn_n, tn_1, inb_I, Int.reduceEq, Int.reduceLT, Int.reduceLE, Int.reduceAdd, Int.reduceSub, Int.reduceMul, Int.reduceNeg, Int.reduceToNat, Nat.reduceAdd, Nat.reduceMul, Int.reduceNatCast, reduceCtorEq, Int.cast_ofNat_Int, bi_tr, bi_fa, bi_0, bi_1, not_true_eq_false, not_false_eq_true, rnk_v, rnk_n, ↓reduceIte, i00, i11, ibi, or_true, true_or, and_true, true_and, List.cons_append, List.nil_append, Option.toList, nop]
  refine key.trans ?_
  simp (maxSteps := 4000000) (disch := omega) only [s_X7_leastFrom_14, s_X7_leastFrom_16, s_X7_leastFrom_18, s_X7_leastFrom_21, s_X7_leastFrom_22, s_X7_leastFrom_23, s_X7_leastFrom_25, s_X7_leastFrom_26, s_X7_leastFrom_27, s_X7_leastFrom_30, s_X7_leastFrom_32, s_X7_leastFrom_33, s_X7_leastFrom_34, s_X7_leastFrom_35, s_X7_leastFrom_36, s_X7_leastFrom_38, s_X7_leastFrom_40, s_X7_leastFrom_43, s_X7_leastFrom_46, s_X7_leastFrom_48, s_X7_leastFrom_51, s_X7_leastFrom_54, s_X7_leastFrom_56, leT (show (8 : Int) ≤ 8 by omega), iI_add, iI_sub, iI_mul, iI_neg, iI_lt, iI_le, iI_eq, iI_toInt, tn_n, tn_1, inb_I, Int.reduceEq, Int.reduceLT, Int.reduceLE, Int.reduceAdd, Int.reduceSub, Int.reduceMul, Int.reduceNeg, Int.reduceToNat, Nat.reduceAdd, Nat.reduceMul, Int.reduceNatCast, reduceCtorEq, Int.cast_ofNat_Int, bi_tr, bi_fa, bi_0, bi_1, not_true_eq_false, not_false_eq_true, rnk_v, rnk_n, ↓reduceIte, i00, i11, ibi, or_true, true_or, and_true, true_and, List.cons_append, List.nil_append, Option.toList, nop]
/-- all desks of one row of the table -/
theorem l_roundRow {D : Nat} (hD : 4 ≤ D) {M : tM} {K : tK} {f : tF} (hI : kInv K) (hT : RepTb M K f) (hf : dOK f (kD K)) {l st s a0 : Nat} (hs : s < 2 ^ kD K) (hl : l < 256) (hb : subB l s) (ha : a0 < kD K) (hst : st ≤ 60) (h : RepB M f (kD K) st s a0 l) : ∃ M', rn (exF D) C_X7_leastMinutes 32 [some (.ref 57), some (.ref 42), some (.int (iI a0)), some (.int (iI s)), some (.int (iI st)), some (.int (iI l)), some (.int (iI 0))] [] M = rn (exF D) C_X7_leastMinutes 89 [some (.ref 57), some (.ref 42), some (.int (iI a0)), some (.int (iI s)), some (.int (iI st)), some (.int (iI l)), some (.int (iI 8))] [] M' ∧ RepB M' f (kD K) st s a0 (l + 1) ∧ Sm [58] M M' := by
  have n0 := kI_n hI
  have hs8 : s < 256 := by
    have : 2 ^ kD K ≤ 2 ^ 8 := Nat.pow_le_pow_right (by omega) n0.1
    omega
  obtain ⟨M', e, p1, p2, p3⟩ := lp (f := fun d (N : tM) => rn (exF D) C_X7_leastMinutes 32 [some (.ref 57), some (.ref 42), some (.int (iI a0)), some (.int (iI s)), some (.int (iI st)), some (.int (iI l)), some (.int (iI d))] [] N) (P := fun d N => Sm [58] M N ∧ RepB N f (kD K) st s a0 l ∧ ∀ a, a < d → (a = a0 ∨ (s.testBit a = true ∧ l.testBit a = false)) → N.1 58 (l * 8 + a) = iI (rB f (kD K) st l a)) (n := 8) (by
    rintro d N hd ⟨p1, p2, p3⟩
    have hT' := RepTb_Sm hI hT p1 (by simp)
    by_cases q : d = a0 ∨ (s.testBit d = true ∧ l.testBit d = false)
    · have hd2 : d < kD K := by
        rcases q with q | q
        · omega
        · exact lt_bit hs q.1
      have k1 := k_X7_leastFrom (D := D) hD hI hT' hf hs hl hb hd2 hst p2
      refine ⟨sI N 58 (l * 8 + d) (iI (rB f (kD K) st l d)), ?_, Sm_tr p1 (Sm_sI (by simp)), ?_, ?_⟩
      · intro X hX
        show rn _ _ _ _ _ _ = X
        rw [s_X7_leastMinutes_32]
        by_cases q1 : d = a0
        · subst q1
          simp (maxSteps := 4000000) (disch := omega) only [s_X7_leastMinutes_34, s_X7_leastMinutes_36, s_X7_leastMinutes_39, s_X7_leastMinutes_41, s_X7_leastMinutes_42, s_X7_leastMinutes_45, s_X7_leastMinutes_46, s_X7_leastMinutes_48, s_X7_leastMinutes_49, s_X7_leastMinutes_50, s_X7_leastMinutes_51, s_X7_leastMinutes_52, s_X7_leastMinutes_54, s_X7_leastMinutes_55, s_X7_leastMinutes_56, s_X7_leastMinutes_59, s_X7_leastMinutes_60, s_X7_leastMinutes_63, s_X7_leastMinutes_65, s_X7_leastMinutes_67, s_X7_leastMinutes_68, s_X7_leastMinutes_70, s_X7_leastMinutes_71, s_X7_leastMinutes_72, s_X7_leastMinutes_73, s_X7_leastMinutes_75, s_X7_leastMinutes_77, s_X7_leastMinutes_79, s_X7_leastMinutes_82, s_X7_leastMinutes_83, s_X7_leastMinutes_86, cls_57, fv_57_0, ak_58, al_58, tn_add, tn_mul, k1, leF (show (d : Int) < 8 by omega), iI_add, iI_sub, iI_mul, iI_neg, iI_lt, iI_le, iI_eq, iI_toInt, tn_n, tn_1, inb_I, Int.reduceEq, Int.reduceLT, Int.reduceLE, Int.reduceAdd, Int.reduceSub, Int.reduceMul, Int.reduceNeg, Int.reduceToNat, Nat.reduceAdd, Nat.reduceMul, Int.reduceNatCast, reduceCtorEq, Int.cast_ofNat_Int, bi_tr, bi_fa, bi_0, bi_1, not_true_eq_false, not_false_eq_true, rnk_v, rnk_n, ↓reduceIte, i00, i11, ibi, or_true, true_or, and_true, true_and, List.cons_append, List.nil_append, Option.toList, nop]
          exact hX
        · have q2 : s.testBit d = true ∧ l.testBit d = false := q.resolve_left q1
          have q3 : (andn s l).testBit d = true := by rw [andn_bit _ _ _ (by omega), q2.1, q2.2]; rfl
          have q4 := andn_le s l
          simp (maxSteps := 4000000) (disch := omega) only [s_X7_leastMinutes_34, s_X7_leastMinutes_36, s_X7_leastMinutes_39, s_X7_leastMinutes_41, s_X7_leastMinutes_42, s_X7_leastMinutes_45, s_X7_leastMinutes_46, s_X7_leastMinutes_48, s_X7_leastMinutes_49, s_X7_leastMinutes_50, s_X7_leastMinutes_51, s_X7_leastMinutes_52, s_X7_leastMinutes_54, s_X7_leastMinutes_55, s_X7_leastMinutes_56, s_X7_leastMinutes_59, s_X7_leastMinutes_60, s_X7_leastMinutes_63, s_X7_leastMinutes_65, s_X7_leastMinutes_67, s_X7_leastMinutes_68, s_X7_leastMinutes_70, s_X7_leastMinutes_71, s_X7_leastMinutes_72, s_X7_leastMinutes_73, s_X7_leastMinutes_75, s_X7_leastMinutes_77, s_X7_leastMinutes_79, s_X7_leastMinutes_82, s_X7_leastMinutes_83, s_X7_leastMinutes_86, cls_57, fv_57_0, ak_58, al_58, tn_add, tn_mul, k1, iI_andn, iI_shl1, bit_get1 (show andn s l < 2147483648 by omega), q3, eqF (show ¬ (d : Int) = (a0 : Int) by omega), leF (show (d : Int) < 8 by omega), iI_add, iI_sub, iI_mul, iI_neg, iI_lt, iI_le, iI_eq, iI_toInt, tn_n, tn_1, inb_I, Int.reduceEq, Int.reduceLT, Int.reduceLE, Int.reduceAdd, Int.reduceSub, Int.reduceMul, Int.reduceNeg, Int.reduceToNat, Nat.reduceAdd, Nat.reduceMul, Int.reduceNatCast, reduceCtorEq, Int.cast_ofNat_Int, bi_tr, bi_fa, bi_0, bi_1, not_true_eq_false, not_false_eq_true, rnk_v, rnk_n, ↓reduceIte, i00, i11, ibi, or_true, true_or, and_true, true_and, List.cons_append, List.nil_append, Option.toList, nop]
          exact hX
      · intro l' hl' hb' a ha' hq
        rw [sI_k _ _ (by omega)]
        exact p2 l' hl' hb' a ha' hq
      · intro a ha' hq
        by_cases e : a = d
        · subst e; rw [sI_s]
        · rw [sI_k _ _ (by omega)]; exact p3 a (by omega) hq
    · refine ⟨N, ?_, p1, p2, ?_⟩
      · intro X hX
        show rn _ _ _ _ _ _ = X
        rw [s_X7_leastMinutes_32]
        have q3 : (andn s l).testBit d = false := by
          rw [andn_bit _ _ _ (by omega)]
          by_cases c1 : s.testBit d = true
          · by_cases c2 : l.testBit d = true
            · rw [c1, c2]; rfl
            · exact absurd (Or.inr ⟨c1, by simpa using c2⟩) q
          · have c1' : s.testBit d = false := by simpa using c1
            rw [c1']; rfl
        have q4 := andn_le s l
        have q5 : ¬ (d : Int) = (a0 : Int) := fun x => q (Or.inl (by omega))
        simp (maxSteps := 4000000) (disch := omega) only [s_X7_leastMinutes_34, s_X7_leastMinutes_36, s_X7_leastMinutes_39, s_X7_leastMinutes_41, s_X7_leastMinutes_42, s_X7_leastMinutes_45, s_X7_leastMinutes_46, s_X7_leastMinutes_48, s_X7_leastMinutes_49, s_X7_leastMinutes_50, s_X7_leastMinutes_51, s_X7_leastMinutes_52, s_X7_leastMinutes_54, s_X7_leastMinutes_55, s_X7_leastMinutes_56, s_X7_leastMinutes_59, s_X7_leastMinutes_60, s_X7_leastMinutes_63, s_X7_leastMinutes_65, s_X7_leastMinutes_67, s_X7_leastMinutes_68, s_X7_leastMinutes_70, s_X7_leastMinutes_71, s_X7_leastMinutes_72, s_X7_leastMinutes_73, s_X7_leastMinutes_75, s_X7_leastMinutes_77, s_X7_leastMinutes_79, s_X7_leastMinutes_82, s_X7_leastMinutes_83, s_X7_leastMinutes_86, iI_andn, iI_shl1, bit_get1 (show andn s l < 2147483648 by omega), q3, q5, Bool.false_eq_true, leF (show (d : Int) < 8 by omega), iI_add, iI_sub, iI_mul, iI_neg, iI_lt, iI_le, iI_eq, iI_toInt, tn_n, tn_1, inb_I, Int.reduceEq, Int.reduceLT, Int.reduceLE, Int.reduceAdd, Int.reduceSub, Int.reduceMul, Int.reduceNeg, Int.reduceToNat, Nat.reduceAdd, Nat.reduceMul, Int.reduceNatCast, reduceCtorEq, Int.cast_ofNat_Int, bi_tr, bi_fa, bi_0, bi_1, not_true_eq_false, not_false_eq_true, rnk_v, rnk_n, ↓reduceIte, i00, i11, ibi, or_true, true_or, and_true, true_and, List.cons_append, List.nil_append, Option.toList, nop]
        exact hX
      · intro a ha' hq
        by_cases e : a = d
        · subst e; exact absurd hq q
        · exact p3 a (by omega) hq) (Nat.zero_le _) (a := M) ⟨Sm_rf _ _, h, fun a ha' => absurd ha' (by omega)⟩
  refine ⟨M', e.trans ?_, ?_, p1⟩
  · simp (maxSteps := 4000000) (disch := omega) only [s_X7_leastMinutes_32, s_X7_leastMinutes_34, s_X7_leastMinutes_36, leT (show (8 : Int) ≤ 8 by omega), iI_add, iI_sub, iI_mul, iI_neg, iI_lt, iI_le, iI_eq, iI_toInt, tn_n, tn_1, inb_I, Int.reduceEq, Int.reduceLT, Int.reduceLE, Int.reduceAdd, Int.reduceSub, Int.reduceMul, Int.reduceNeg, Int.reduceToNat, Nat.reduceAdd, Nat.reduceMul, Int.reduceNatCast, reduceCtorEq, Int.cast_ofNat_Int, bi_tr, bi_fa, bi_0, bi_1, not_true_eq_false, not_false_eq_true, rnk_v, rnk_n, ↓reduceIte, i00, i11, ibi, or_true, true_or, and_true, true_and, List.cons_append, List.nil_append, Option.toList, nop]
  · intro l' hl' hb' a ha' hq
    by_cases e' : l' = l
    · subst e'; exact p3 a ha' hq
    · exact p2 l' (by omega) hb' a ha' hq
theorem k_X7_leastMinutes {D : Nat} (hD : 5 ≤ D) {M : tM} {K : tK} {f : tF} (hI : kInv K) (hT : RepTb M K f) (hf : dOK f (kD K)) {st s a0 : Nat} (hs : s < 2 ^ kD K) (ha : a0 < kD K) (hst : st ≤ 60) : ∃ M', exF D m_X7_leastMinutes [.ref 57, .ref 42, .int (iI a0), .int (iI s), .int (iI st)] M = some (some (.int (iI (rB f (kD K) st s a0))), M') ∧ RepB M' f (kD K) st s a0 (s + 1) ∧ Sm [58] M M' := by
  obtain ⟨D, rfl⟩ : ∃ D0, D = D0 + 1 := ⟨D - 1, by omega⟩
  have n0 := kI_n hI
  have hs8 : s < 256 := by
    have : 2 ^ kD K ≤ 2 ^ 8 := Nat.pow_le_pow_right (by omega) n0.1
    omega
  obtain ⟨⟨M', x6⟩, e, p1, p2⟩ := lp (f := fun l (a : tM × Option Value) => rn (exF D) C_X7_leastMinutes 3 [some (.ref 57), some (.ref 42), some (.int (iI a0)), some (.int (iI s)), some (.int (iI st)), some (.int (iI l)), a.2] [] a.1) (P := fun l a => Sm [58] M a.1 ∧ RepB a.1 f (kD K) st s a0 l) (n := s + 1) (by
    rintro l ⟨N, x⟩ hl ⟨p1, p2⟩
    have hT' := RepTb_Sm hI hT p1 (by simp)
    have q4 := andn_le l s
    by_cases q : subB l s
    · obtain ⟨N1, a1, a2, a3⟩ := l_roundRow (D := D) (by omega) hI hT' hf hs (show l < 256 by omega) q ha hst p2
      refine ⟨(N1, some (.int (iI 8))), ?_, Sm_tr p1 a3, a2⟩
      intro X hX
      show rn _ _ _ _ _ _ = X
      rw [s_X7_leastMinutes_3]
      have q5 : (andn l s : Int) = 0 := by have := (andn_0 (show l < 65536 by omega)).mpr q; omega
      simp (maxSteps := 4000000) (disch := omega) only [s_X7_leastMinutes_5, s_X7_leastMinutes_6, s_X7_leastMinutes_9, s_X7_leastMinutes_11, s_X7_leastMinutes_14, s_X7_leastMinutes_17, s_X7_leastMinutes_19, s_X7_leastMinutes_20, s_X7_leastMinutes_21, s_X7_leastMinutes_22, s_X7_leastMinutes_23, s_X7_leastMinutes_26, s_X7_leastMinutes_29, s_X7_leastMinutes_30, iI_andn, q5, ltF (show (l : Int) ≤ s by omega), leF (show (l : Int) < 256 by omega), iI_add, iI_sub, iI_mul, iI_neg, iI_lt, iI_le, iI_eq, iI_toInt, tn_n, tn_1, inb_I, Int.reduceEq, Int.reduceLT, Int.reduceLE, Int.reduceAdd, Int.reduceSub, Int.reduceMul, Int.reduceNeg, Int.reduceToNat, Nat.reduceAdd, Nat.reduceMul, Int.reduceNatCast, reduceCtorEq, Int.cast_ofNat_Int, bi_tr, bi_fa, bi_0, bi_1, not_true_eq_false, not_false_eq_true, rnk_v, rnk_n, ↓reduceIte, i00, i11, ibi, or_true, true_or, and_true, true_and, List.cons_append, List.nil_append, Option.toList, nop]
      rw [a1]
      simp (maxSteps := 4000000) (disch := omega) only [s_X7_leastMinutes_89, s_X7_leastMinutes_92, iI_add, iI_sub, iI_mul, iI_neg, iI_lt, iI_le, iI_eq, iI_toInt, tn_n, tn_1, inb_I, Int.reduceEq, Int.reduceLT, Int.reduceLE, Int.reduceAdd, Int.reduceSub, Int.reduceMul, Int.reduceNeg, Int.reduceToNat, Nat.reduceAdd, Nat.reduceMul, Int.reduceNatCast, reduceCtorEq, Int.cast_ofNat_Int, bi_tr, bi_fa, bi_0, bi_1, not_true_eq_false, not_false_eq_true, rnk_v, rnk_n, ↓reduceIte, i00, i11, ibi, or_true, true_or, and_true, true_and, List.cons_append, List.nil_append, Option.toList, nop]
      exact hX
    · refine ⟨(N, x), ?_, p1, ?_⟩
      · intro X hX
        show rn _ _ _ _ _ _ = X
        rw [s_X7_leastMinutes_3]
        have q5 : ¬ (andn l s : Int) = 0 := fun x => q ((andn_0 (by omega)).mp (by omega))
        simp (maxSteps := 4000000) (disch := omega) only [s_X7_leastMinutes_5, s_X7_leastMinutes_6, s_X7_leastMinutes_9, s_X7_leastMinutes_11, s_X7_leastMinutes_14, s_X7_leastMinutes_17, s_X7_leastMinutes_19, s_X7_leastMinutes_20, s_X7_leastMinutes_21, s_X7_leastMinutes_22, s_X7_leastMinutes_23, s_X7_leastMinutes_26, s_X7_leastMinutes_89, s_X7_leastMinutes_92, iI_andn, q5, ltF (show (l : Int) ≤ s by omega), leF (show (l : Int) < 256 by omega), iI_add, iI_sub, iI_mul, iI_neg, iI_lt, iI_le, iI_eq, iI_toInt, tn_n, tn_1, inb_I, Int.reduceEq, Int.reduceLT, Int.reduceLE, Int.reduceAdd, Int.reduceSub, Int.reduceMul, Int.reduceNeg, Int.reduceToNat, Nat.reduceAdd, Nat.reduceMul, Int.reduceNatCast, reduceCtorEq, Int.cast_ofNat_Int, bi_tr, bi_fa, bi_0, bi_1, not_true_eq_false, not_false_eq_true, rnk_v, rnk_n, ↓reduceIte, i00, i11, ibi, or_true, true_or, and_true, true_and, List.cons_append, List.nil_append, Option.toList, nop]
        exact hX
      · intro l' hl' hb' a ha' hq
        by_cases e' : l' = l
        · subst e'; exact absurd hb' q
        · exact p2 l' (by omega) hb' a ha' hq) (Nat.zero_le _) (a := (M, none)) ⟨Sm_rf _ _, fun l hl => absurd hl (by omega)⟩
  have p1' : Sm [58] M M' := p1
  have p2' : RepB M' f (kD K) st s a0 (s + 1) := p2
  refine ⟨M', ?_, p2', p1'⟩
  have k1 := k_X7_bestOf (D := D) (by omega) hs8 (show a0 < 8 by omega) (p2' s (by omega) (fun _ h => h) a0 (by omega) (Or.inl rfl))
  simp (maxSteps := 4000000) (disch := omega) only [en_X7_leastMinutes, s_X7_leastMinutes_0, s_X7_leastMinutes_1, Int.reduceEq, Int.reduceLT, Int.reduceLE, Int.reduceAdd, Int.reduceSub, Int.reduceMul, Int.reduceNeg, Int.reduceToNat, Nat.reduceAdd, Nat.reduceMul, Int.reduceNatCast, reduceCtorEq, Int.cast_ofNat_Int, bi_tr, bi_fa, bi_0, bi_1, not_true_eq_false, not_false_eq_true, rnk_v, rnk_n, ↓reduceIte, i00, i11, ibi, or_true, true_or, and_true, true_and, List.cons_append, List.nil_append, Option.toList, nop]
  refine e.trans ?_
  simp (maxSteps := 4000000) (disch := omega) only [s_X7_leastMinutes_3, s_X7_leastMinutes_5, s_X7_leastMinutes_6, s_X7_leastMinutes_95, s_X7_leastMinutes_96, s_X7_leastMinutes_97, s_X7_leastMinutes_98, s_X7_leastMinutes_101, cls_57, fv_57_0, k1, ltT (show (s : Int) < ((s + 1 : Nat) : Int) by omega), iI_add, iI_sub, iI_mul, iI_neg, iI_lt, iI_le, iI_eq, iI_toInt, tn_n, tn_1, inb_I, Int.reduceEq, Int.reduceLT, Int.reduceLE, Int.reduceAdd, Int.reduceSub, Int.reduceMul, Int.reduceNeg, Int.reduceToNat, Nat.reduceAdd, Nat.reduceMul, Int.reduceNatCast, reduceCtorEq, Int.cast_ofNat_Int, bi_tr, bi_fa, bi_0, bi_1, not_true_eq_false, not_false_eq_true, rnk_v, rnk_n, ↓reduceIte, i00, i11, ibi, or_true, true_or, and_true, true_and, List.cons_append, List.nil_append, Option.toList, nop]
theorem k_X7_nextOfOrder {D : Nat} (hD : 4 ≤ D) {M : tM} {K : tK} {f : tF} (hI : kInv K) (hT : RepTb M K f) (hf : dOK f (kD K)) {l a st s a0 : Nat} (hs : s < 2 ^ kD K) (hl : l ≤ s) (hb : subB l s) (ha : a < kD K) (hst : st ≤ 60) (h : RepB M f (kD K) st s a0 (s + 1)) (h0 : l ≠ 0) (hR : rR f (kD K) l a ≠ 9999) (hm : a = a0 ∨ (s.testBit a = true ∧ l.testBit a = false)) : exF D m_X7_nextOfOrder [.ref 57, .ref 42, .int (iI l), .int (iI a), .int (iI st)] M = some (some (.int (iI (rnx' f (kD K) l a))), M) := by
  obtain ⟨D, rfl⟩ : ∃ D0, D = D0 + 1 := ⟨D - 1, by omega⟩
  have n0 := kI_n hI
  have hs8 : s < 256 := by
    have : 2 ^ kD K ≤ 2 ^ 8 := Nat.pow_le_pow_right (by omega) n0.1
    omega
  obtain ⟨i, i1, i2, i3, i4⟩ := rnx_ex (show l < 256 by omega) h0 hR
  have kb := k_X7_bestOf (D := D) (by omega) (show l < 256 by omega) (show a < 8 by omega) (h l (by omega) hb a (by omega) hm)
  have hRl := rR_le (D := f) (N := kD K) (a := a) (show l < 256 by omega)
  have hRB : rB f (kD K) st l a = rR f (kD K) l a + st * popc l := if_neg hR
  have hRg := rR_rng n0.1 hf _ l (Nat.lt_succ_self l) (by omega) a ha
  have hp8 := popc_8 (show l < 256 by omega)
  have hpm := pc_mul hst hp8
  have cnd : ∀ d, d < kD K → l.testBit d = true → (rnP f (kD K) l a d = true ↔ rCd f (kD K) st l a d = rB f (kD K) st l a) := by
    intro d hd q
    have e3 := rCd_eq (st := st) n0.1 hf hst (show l < 256 by omega) ha hd q
    simp only [rnP, q, Bool.true_and, beq_iff_eq]
    rw [hRB]
    omega
  rw [i3]
  have key := lq (f := fun d => rn (exF D) C_X7_nextOfOrder 3 [some (.ref 57), some (.ref 42), some (.int (iI l)), some (.int (iI a)), some (.int (iI st)), some (.int (iI d))] [] M) (n := i) (by
    intro d hd X hX
    show rn _ _ _ _ _ _ = X
    rw [s_X7_nextOfOrder_3]
    by_cases q : l.testBit d = true
    · have k1 := k_X7_leastOver (D := D) (by omega) hI hT hf (show l < 256 by omega) ha (show d < kD K by omega) hst q (RepB_in h (by omega) (by omega) (by omega) hb q)
      have e3 := rCd_eq (st := st) n0.1 hf hst (show l < 256 by omega) ha (show d < kD K by omega) q
      have e4 : ¬ rCd f (kD K) st l a d = rB f (kD K) st l a := fun x => by
        have := (cnd d (by omega) q).mpr x
        rw [i4 d hd] at this
        cases this
      simp (maxSteps := 4000000) (disch := omega) only [s_X7_nextOfOrder_5, s_X7_nextOfOrder_7, s_X7_nextOfOrder_10, s_X7_nextOfOrder_11, s_X7_nextOfOrder_12, s_X7_nextOfOrder_14, s_X7_nextOfOrder_15, s_X7_nextOfOrder_16, s_X7_nextOfOrder_19, s_X7_nextOfOrder_20, s_X7_nextOfOrder_21, s_X7_nextOfOrder_22, s_X7_nextOfOrder_23, s_X7_nextOfOrder_25, s_X7_nextOfOrder_27, s_X7_nextOfOrder_30, s_X7_nextOfOrder_31, s_X7_nextOfOrder_32, s_X7_nextOfOrder_33, s_X7_nextOfOrder_36, s_X7_nextOfOrder_39, s_X7_nextOfOrder_41, s_X7_nextOfOrder_42, s_X7_nextOfOrder_45, cls_57, fv_57_0, iI_shl1, bit_get1 (show l < 2147483648 by omega), q, k1, kb, eqF (show ¬ (rCd f (kD K) st l a d : Int) = (rB f (kD K) st l a : Int) by omega), leF (show (d : Int) < 8 by omega), iI_add, iI_sub, iI_mul, iI_neg, iI_lt, iI_le, iI_eq, iI_toInt, tn_n, tn_1, inb_I, Int.reduceEq, Int.reduceLT, Int.reduceLE, Int.reduceAdd, Int.reduceSub, Int.reduceMul, Int.reduceNeg, Int.reduceToNat, Nat.reduceAdd, Nat.reduceMul, Int.reduceNatCast, reduceCtorEq, Int.cast_ofNat_Int, bi_tr, bi_fa, bi_0, bi_1, not_true_eq_false, not_false_eq_true, rnk_v, rnk_n, ↓reduceIte, i00, i11, ibi, or_true, true_or, and_true, true_and, List.cons_append, List.nil_append, Option.toList, nop]
      exact hX
    · simp (maxSteps := 4000000) (disch := omega) only [s_X7_nextOfOrder_5, s_X7_nextOfOrder_7, s_X7_nextOfOrder_10, s_X7_nextOfOrder_11, s_X7_nextOfOrder_12, s_X7_nextOfOrder_14, s_X7_nextOfOrder_15, s_X7_nextOfOrder_16, s_X7_nextOfOrder_19, s_X7_nextOfOrder_20, s_X7_nextOfOrder_21, s_X7_nextOfOrder_22, s_X7_nextOfOrder_23, s_X7_nextOfOrder_25, s_X7_nextOfOrder_27, s_X7_nextOfOrder_30, s_X7_nextOfOrder_31, s_X7_nextOfOrder_32, s_X7_nextOfOrder_33, s_X7_nextOfOrder_36, s_X7_nextOfOrder_39, s_X7_nextOfOrder_41, s_X7_nextOfOrder_42, s_X7_nextOfOrder_45, iI_shl1, bit_get1 (show l < 2147483648 by omega), q, leF (show (d : Int) < 8 by omega), iI_add, iI_sub, iI_mul, iI_neg, iI_lt, iI_le, iI_eq, iI_toInt, tn_n, tn_1, inb_I, Int.reduceEq, Int.reduceLT, Int.reduceLE, Int.reduceAdd, Int.reduceSub, Int.reduceMul, Int.reduceNeg, Int.reduceToNat, Nat.reduceAdd, Nat.reduceMul, Int.reduceNatCast, reduceCtorEq, Int.cast_ofNat_Int, bi_tr, bi_fa, bi_0, bi_1, not_true_eq_false, not_false_eq_true, rnk_v, rnk_n, ↓reduceIte, i00, i11, ibi, or_true, true_or, and_true, true_and, List.cons_append, List.nil_append, Option.toList, nop]
      exact hX)
  simp (maxSteps := 4000000) (disch := omega) only [en_X7_nextOfOrder, s_X7_nextOfOrder_0, s_X7_nextOfOrder_1, Int.reduceEq, Int.reduceLT, Int.reduceLE, Int.reduceAdd, Int.reduceSub, Int.reduceMul, Int.reduceNeg, Int.reduceToNat, Nat.reduceAdd, Nat.reduceMul, Int.reduceNatCast, reduceCtorEq, Int.cast_ofNat_Int, bi_tr, bi_fa, bi_0, bi_1, not_true_eq_false, not_false_eq_true, rnk_v, rnk_n, ↓reduceIte, i00, i11, ibi, or_true, true_or, and_true, true_and, List.cons_append, List.nil_append, Option.toList, nop]
  refine key.trans ?_
  have q : l.testBit i = true := by
    simp only [rnP, Bool.and_eq_true] at i2
    exact i2.1
  have k1 := k_X7_leastOver (D := D) (by omega) hI hT hf (show l < 256 by omega) ha i1 hst q (RepB_in h (by omega) (by omega) (by omega) hb q)
  rw [(cnd i i1 q).mp i2] at k1
  simp (maxSteps := 4000000) (disch := omega) only [s_X7_nextOfOrder_3, s_X7_nextOfOrder_5, s_X7_nextOfOrder_7, s_X7_nextOfOrder_10, s_X7_nextOfOrder_11, s_X7_nextOfOrder_12, s_X7_nextOfOrder_14, s_X7_nextOfOrder_15, s_X7_nextOfOrder_16, s_X7_nextOfOrder_19, s_X7_nextOfOrder_20, s_X7_nextOfOrder_21, s_X7_nextOfOrder_22, s_X7_nextOfOrder_23, s_X7_nextOfOrder_25, s_X7_nextOfOrder_27, s_X7_nextOfOrder_30, s_X7_nextOfOrder_31, s_X7_nextOfOrder_32, s_X7_nextOfOrder_33, s_X7_nextOfOrder_36, s_X7_nextOfOrder_39, s_X7_nextOfOrder_41, cls_57, fv_57_0, iI_shl1, bit_get1 (show l < 2147483648 by omega), q, k1, kb, leF (show (i : Int) < 8 by omega), iI_add, iI_sub, iI_mul, iI_neg, iI_lt, iI_le, iI_eq, iI_toInt, tn_n, tn_1, inb_I, Int.reduceEq, Int.reduceLT, Int.reduceLE, Int.reduceAdd, Int.reduceSub, Int.reduceMul, Int.reduceNeg, Int.reduceToNat, Nat.reduceAdd, Nat.reduceMul, Int.reduceNatCast, reduceCtorEq, Int.cast_ofNat_Int, bi_tr, bi_fa, bi_0, bi_1, not_true_eq_false, not_false_eq_true, rnk_v, rnk_n, ↓reduceIte, i00, i11, ibi, or_true, true_or, and_true, true_and, List.cons_append, List.nil_append, Option.toList, nop]
theorem k_X7_deskOfOrder {D : Nat} (hD : 5 ≤ D) {M : tM} {K : tK} {f : tF} (hI : kInv K) (hT : RepTb M K f) (hf : dOK f (kD K)) {st s a0 i : Nat} (hs : s < 2 ^ kD K) (ha : a0 < kD K) (hst : st ≤ 60) (h : RepB M f (kD K) st s a0 (s + 1)) (hR : rR f (kD K) s a0 ≠ 9999) (hi : i < popc s) : exF D m_X7_deskOfOrder [.ref 57, .ref 42, .int (iI a0), .int (iI s), .int (iI st), .int (iI i)] M = some (some (.int (iI (rod f (kD K) s a0 (i + 1)).2)), M) := by
  obtain ⟨D, rfl⟩ : ∃ D0, D = D0 + 1 := ⟨D - 1, by omega⟩
  have n0 := kI_n hI
  have hs8 : s < 256 := by
    have : 2 ^ kD K ≤ 2 ^ 8 := Nat.pow_le_pow_right (by omega) n0.1
    omega
  have hp8 := popc_8 hs8
  obtain ⟨x9, key, -⟩ := lp (f := fun k (x : Option Value) => rn (exF D) C_X7_deskOfOrder 9 [some (.ref 57), some (.ref 42), some (.int (iI a0)), some (.int (iI s)), some (.int (iI st)), some (.int (iI i)), some (.int (iI (rod f (kD K) s a0 k).1)), some (.int (iI (rod f (kD K) s a0 k).2)), some (.int (iI k)), x] [] M) (P := fun _ _ => True) (n := i + 1) (by
    rintro k x hk -
    obtain ⟨e1, e2, e3, e4, e5, e6⟩ := rod_ok n0.1 hf hs ha hR k (by omega)
    have e7 : (rod f (kD K) s a0 k).1 ≤ s := by
      have h1 := andn_0 (l := (rod f (kD K) s a0 k).1) (s := s) (by omega)
      have h2 : (rod f (kD K) s a0 k).1 &&& s = (rod f (kD K) s a0 k).1 := by
        apply Nat.eq_of_testBit_eq
        intro j
        rw [Nat.testBit_and]
        by_cases q : (rod f (kD K) s a0 k).1.testBit j = true
        · rw [q, e1 j q]; rfl
        · have q' : (rod f (kD K) s a0 k).1.testBit j = false := by simpa using q
          rw [q']; rfl
      rw [← h2]
      exact Nat.and_le_right
    have e8 : (rod f (kD K) s a0 k).1 ≠ 0 := by
      intro e
      rw [e] at e5
      have : popc 0 = 0 := by decide
      omega
    have k1 := k_X7_nextOfOrder (D := D) (by omega) hI hT hf hs e7 e1 e3 hst h e8 e4 (by
      rcases e6 with q | q
      · exact Or.inl q.1
      · exact Or.inr q)
    obtain ⟨j, j1, j2, j3, j4⟩ := rnx_ex e2 e8 e4
    rw [j3] at k1
    have q : (rod f (kD K) s a0 k).1.testBit j = true := by
      simp only [rnP, Bool.and_eq_true] at j2
      exact j2.1
    have q2 := andn_p2 (show (rod f (kD K) s a0 k).1 < 65536 by omega) (show j < 16 by omega) q
    have q3 : rod f (kD K) s a0 (k + 1) = ((rod f (kD K) s a0 k).1 - 2 ^ j, j) := by
      simp only [rod, j3, Int.toNat_natCast]
    refine ⟨some (.int (iI j)), ?_, trivial⟩
    intro X hX
    show rn _ _ _ _ _ _ = X
    simp only [q3] at hX
    rw [s_X7_deskOfOrder_9]
    simp (maxSteps := 4000000) (disch := omega) only [s_X7_deskOfOrder_11, s_X7_deskOfOrder_13, s_X7_deskOfOrder_16, s_X7_deskOfOrder_18, s_X7_deskOfOrder_20, s_X7_deskOfOrder_23, s_X7_deskOfOrder_24, s_X7_deskOfOrder_25, s_X7_deskOfOrder_27, s_X7_deskOfOrder_29, s_X7_deskOfOrder_31, s_X7_deskOfOrder_34, s_X7_deskOfOrder_36, s_X7_deskOfOrder_38, s_X7_deskOfOrder_39, s_X7_deskOfOrder_42, s_X7_deskOfOrder_43, s_X7_deskOfOrder_44, s_X7_deskOfOrder_46, s_X7_deskOfOrder_47, s_X7_deskOfOrder_49, s_X7_deskOfOrder_50, s_X7_deskOfOrder_51, s_X7_deskOfOrder_52, s_X7_deskOfOrder_53, s_X7_deskOfOrder_55, s_X7_deskOfOrder_57, s_X7_deskOfOrder_59, s_X7_deskOfOrder_62, cls_57, fv_57_0, k1, iI_shl1, iI_andn, q2, ltF (show (k : Int) ≤ i by omega), leF (show (k : Int) < 8 by omega), iI_add, iI_sub, iI_mul, iI_neg, iI_lt, iI_le, iI_eq, iI_toInt, tn_n, tn_1, inb_I, Int.reduceEq, Int.reduceLT, Int.reduceLE, Int.reduceAdd, Int.reduceSub, Int.reduceMul, Int.reduceNeg, Int.reduceToNat, Nat.reduceAdd, Nat.reduceMul, Int.reduceNatCast, reduceCtorEq, Int.cast_ofNat_Int, bi_tr, bi_fa, bi_0, bi_1, not_true_eq_false, not_false_eq_true, rnk_v, rnk_n, ↓reduceIte, i00, i11, ibi, or_true, true_or, and_true, true_and, List.cons_append, List.nil_append, Option.toList, nop]
    exact hX) (Nat.zero_le _) (a := none) trivial
  simp (maxSteps := 4000000) (disch := omega) only [en_X7_deskOfOrder, s_X7_deskOfOrder_0, s_X7_deskOfOrder_1, s_X7_deskOfOrder_3, s_X7_deskOfOrder_4, s_X7_deskOfOrder_6, s_X7_deskOfOrder_7, Int.reduceEq, Int.reduceLT, Int.reduceLE, Int.reduceAdd, Int.reduceSub, Int.reduceMul, Int.reduceNeg, Int.reduceToNat, Nat.reduceAdd, Nat.reduceMul, Int.reduceNatCast, reduceCtorEq, Int.cast_ofNat_Int, bi_tr, bi_fa, bi_0, bi_1, not_true_eq_false, not_false_eq_true, rnk_v, rnk_n, ↓reduceIte, i00, i11, ibi, or_true, true_or, and_true, true_and, List.cons_append, List.nil_append, Option.toList, nop]
  refine key.trans ?_
  simp (maxSteps := 4000000) (disch := omega) only [s_X7_deskOfOrder_9, s_X7_deskOfOrder_11, s_X7_deskOfOrder_13, s_X7_deskOfOrder_65, s_X7_deskOfOrder_67, ltT (show (i : Int) < ((i + 1 : Nat) : Int) by omega), iI_add, iI_sub, iI_mul, iI_neg, iI_lt, iI_le, iI_eq, iI_toInt, tn_n, tn_1, inb_I, Int.reduceEq, Int.reduceLT, Int.reduceLE, Int.reduceAdd, Int.reduceSub, Int.reduceMul, Int.reduceNeg, Int.reduceToNat, Nat.reduceAdd, Nat.reduceMul, Int.reduceNatCast, reduceCtorEq, Int.cast_ofNat_Int, bi_tr, bi_fa, bi_0, bi_1, not_true_eq_false, not_false_eq_true, rnk_v, rnk_n, ↓reduceIte, i00, i11, ibi, or_true, true_or, and_true, true_and, List.cons_append, List.nil_append, Option.toList, nop]
theorem dG_dOK {K : tK} {G : tG} (hI : kInv K) (hG : gI K G) : dOK (dG K G) (kD K) := fun _ hu _ hv => dG_rng hI hG hu hv
def p_round (S : tS) (c s st i : Int) : Int × tS :=
  if ¬ (0 ≤ c ∧ c < (kC (stK S) : Int)) then rz10 S (-1)
  else if ¬ (1 ≤ s ∧ s ≤ ((2 ^ kD (stK S) : Nat) : Int) - 1) then rz10 S (-6)
  else if ¬ (-1 ≤ i ∧ i ≤ (popc s.toNat : Int) - 1) then rz10 S (-5)
  else if ¬ (0 ≤ st ∧ st ≤ 60) then rz10 S (-6)
  else (rdZ (dG (stK S) (gK (stK S) c.toNat (kP (stK S)))) (kD (stK S)) s.toNat (kX (stK S) c.toNat) st.toNat i, S)
theorem c_round {D : Nat} (hD : 6 ≤ D) {M : tM} {S : tS} (hC : RelC S M) (hI : sInv S) {c s st i : Int} (gc : -2147483648 ≤ c ∧ c ≤ 2147483647) (gs : -2147483648 ≤ s ∧ s ≤ 2147483647) (gst : -2147483648 ≤ st ∧ st ≤ 2147483647) (gi : -2147483648 ≤ i ∧ i ≤ 2147483647) : okC D m_X10_round [.ref 88, .int (iI c), .int (iI s), .int (iI st), .int (iI i)] M (p_round S c s st i) := by
  obtain ⟨D, rfl⟩ : ∃ D0, D = D0 + 1 := ⟨D - 1, by omega⟩
  obtain ⟨c1, c2, c3, c4, c5, c6, c7, c8, c9⟩ := id hC; obtain ⟨i1, i2, i3, i4, i5, i6, i7⟩ := id hI; have n0 := kI_n i1; obtain ⟨r1, r2, r3, r4, r5, r6⟩ := R0_n c1
  unfold p_round
  by_cases e1 : 0 ≤ c ∧ c < (kC (stK S) : Int)
  rotate_left
  · rw [if_pos e1]
    exact okC_rf10 hC (by omega) (by omega) (by simp (maxSteps := 4000000) (disch := omega) only [e1, k_X4_hasCapsule (show _ ≤ D by omega) h0 c1 i1, en_X10_round, s_X10_round_0, s_X10_round_1, s_X10_round_4, s_X10_round_5, s_X10_round_8, s_X10_round_11, s_X10_round_12, s_X10_round_14, s_X10_round_17, s_X10_round_18, s_X10_round_19, s_X10_round_22, s_X10_round_23, s_X10_round_24, s_X10_round_27, s_X10_round_30, s_X10_round_31, s_X10_round_34, s_X10_round_35, s_X10_round_38, s_X10_round_39, s_X10_round_41, s_X10_round_43, s_X10_round_46, s_X10_round_48, s_X10_round_49, s_X10_round_52, s_X10_round_54, s_X10_round_55, s_X10_round_58, s_X10_round_61, s_X10_round_62, s_X10_round_64, s_X10_round_67, s_X10_round_68, s_X10_round_70, s_X10_round_73, s_X10_round_74, s_X10_round_77, s_X10_round_78, s_X10_round_80, s_X10_round_83, s_X10_round_84, s_X10_round_86, s_X10_round_89, s_X10_round_90, s_X10_round_91, s_X10_round_94, s_X10_round_95, s_X10_round_98, s_X10_round_99, s_X10_round_100, s_X10_round_103, s_X10_round_106, s_X10_round_109, s_X10_round_110, s_X10_round_113, s_X10_round_114, s_X10_round_117, s_X10_round_120, s_X10_round_121, s_X10_round_124, s_X10_round_127, s_X10_round_128, s_X10_round_129, s_X10_round_131, s_X10_round_132, s_X10_round_135, s_X10_round_136, s_X10_round_139, s_X10_round_141, s_X10_round_142, s_X10_round_143, s_X10_round_146, s_X10_round_148, s_X10_round_150, s_X10_round_153, s_X10_round_156, s_X10_round_157, s_X10_round_158, s_X10_round_160, s_X10_round_161, s_X10_round_164, s_X10_round_166, s_X10_round_169, s_X10_round_170, s_X10_round_173, s_X10_round_174, s_X10_round_177, s_X10_round_179, s_X10_round_180, s_X10_round_181, s_X10_round_183, s_X10_round_186, cls_88, fv_88_0, fv_88_1, fv_88_2, fv_88_3, fv_88_4, fv_88_5, fv_88_6, fv_88_7, fv_88_8, fv_88_9, fv_88_10, fv_88_11, fv_88_12, fv_88_13, fv_88_14, ak_89, al_89, cls_0, fv_0_0, fv_0_1, fv_0_2, fv_0_3, fv_0_4, fv_0_5, fv_0_6, fv_0_7, fv_0_8, fv_0_9, fv_0_10, fv_0_11, fv_0_12, fv_0_13, fv_0_14, fv_0_15, ak_1, al_1, ak_2, al_2, ak_3, al_3, ak_4, al_4, ak_5, al_5, ak_6, al_6, ak_7, al_7, ak_8, al_8, ak_9, al_9, cls_10, cls_20, cls_30, cls_42, cls_57, cls_59, cls_62, cls_80, cls_82, cls_85, cls_86, k_X10_refuse (show _ ≤ D by omega), k_X10_refuse10 (show _ ≤ D by omega), ltT, ltF, leT, leF, eqT, eqF, iI_add, iI_sub, iI_mul, iI_neg, iI_lt, iI_le, iI_eq, iI_toInt, tn_n, tn_1, inb_I, Int.reduceEq, Int.reduceLT, Int.reduceLE, Int.reduceAdd, Int.reduceSub, Int.reduceMul, Int.reduceNeg, Int.reduceToNat, Nat.reduceAdd, Nat.reduceMul, Int.reduceNatCast, reduceCtorEq, Int.cast_ofNat_Int, bi_tr, bi_fa, bi_0, bi_1, not_true_eq_false, not_false_eq_true, rnk_v, rnk_n, ↓reduceIte, i00, i11, ibi, or_true, true_or, and_true, true_and, List.cons_append, List.nil_append, Option.toList, nop])
  rw [if_neg (fun q => q e1)]
  have p8 : 2 ^ kD (stK S) ≤ 2 ^ 8 := Nat.pow_le_pow_right (by omega) n0.1
  by_cases e2 : 1 ≤ s ∧ s ≤ ((2 ^ kD (stK S) : Nat) : Int) - 1
  rotate_left
  · rw [if_pos e2]
    by_cases e3 : s ≤ 0
    · exact okC_rf10 hC (by omega) (by omega) (by simp (maxSteps := 4000000) (disch := omega) only [k_X4_hasCapsule (show _ ≤ D by omega) h0 c1 i1, bi_t e1, leT e3, en_X10_round, s_X10_round_0, s_X10_round_1, s_X10_round_4, s_X10_round_5, s_X10_round_8, s_X10_round_11, s_X10_round_12, s_X10_round_14, s_X10_round_17, s_X10_round_18, s_X10_round_19, s_X10_round_22, s_X10_round_23, s_X10_round_24, s_X10_round_27, s_X10_round_30, s_X10_round_31, s_X10_round_34, s_X10_round_35, s_X10_round_38, s_X10_round_39, s_X10_round_41, s_X10_round_43, s_X10_round_46, s_X10_round_48, s_X10_round_49, s_X10_round_52, s_X10_round_54, s_X10_round_55, s_X10_round_58, s_X10_round_61, s_X10_round_62, s_X10_round_64, s_X10_round_67, s_X10_round_68, s_X10_round_70, s_X10_round_73, s_X10_round_74, s_X10_round_77, s_X10_round_78, s_X10_round_80, s_X10_round_83, s_X10_round_84, s_X10_round_86, s_X10_round_89, s_X10_round_90, s_X10_round_91, s_X10_round_94, s_X10_round_95, s_X10_round_98, s_X10_round_99, s_X10_round_100, s_X10_round_103, s_X10_round_106, s_X10_round_109, s_X10_round_110, s_X10_round_113, s_X10_round_114, s_X10_round_117, s_X10_round_120, s_X10_round_121, s_X10_round_124, s_X10_round_127, s_X10_round_128, s_X10_round_129, s_X10_round_131, s_X10_round_132, s_X10_round_135, s_X10_round_136, s_X10_round_139, s_X10_round_141, s_X10_round_142, s_X10_round_143, s_X10_round_146, s_X10_round_148, s_X10_round_150, s_X10_round_153, s_X10_round_156, s_X10_round_157, s_X10_round_158, s_X10_round_160, s_X10_round_161, s_X10_round_164, s_X10_round_166, s_X10_round_169, s_X10_round_170, s_X10_round_173, s_X10_round_174, s_X10_round_177, s_X10_round_179, s_X10_round_180, s_X10_round_181, s_X10_round_183, s_X10_round_186, cls_88, fv_88_0, fv_88_1, fv_88_2, fv_88_3, fv_88_4, fv_88_5, fv_88_6, fv_88_7, fv_88_8, fv_88_9, fv_88_10, fv_88_11, fv_88_12, fv_88_13, fv_88_14, cls_0, k_X10_refuse10 (show _ ≤ D by omega), iI_add, iI_sub, iI_mul, iI_neg, iI_lt, iI_le, iI_eq, iI_toInt, tn_n, tn_1, inb_I, Int.reduceEq, Int.reduceLT, Int.reduceLE, Int.reduceAdd, Int.reduceSub, Int.reduceMul, Int.reduceNeg, Int.reduceToNat, Nat.reduceAdd, Nat.reduceMul, Int.reduceNatCast, reduceCtorEq, Int.cast_ofNat_Int, bi_tr, bi_fa, bi_0, bi_1, not_true_eq_false, not_false_eq_true, rnk_v, rnk_n, ↓reduceIte, i00, i11, ibi, or_true, true_or, and_true, true_and, List.cons_append, List.nil_append, Option.toList, nop])
    · obtain ⟨s, rfl⟩ : ∃ u : Nat, s = u := ⟨s.toNat, by omega⟩
      obtain ⟨w, hw, hw1, hw2⟩ : ∃ w : Nat, s / 2 ^ kD (stK S) = w ∧ w ≤ s ∧ 0 < w := ⟨_, rfl, Nat.div_le_self _ _, Nat.div_pos (by omega) (Nat.pow_pos (by omega))⟩
      have sh := iI_shr (show s < 2147483648 by omega) (show kD (stK S) < 32 by omega)
      rw [hw] at sh
      have e4 : ¬ (w : Int) = 0 := by omega
      exact okC_rf10 hC (by omega) (by omega) (by simp (maxSteps := 4000000) (disch := omega) only [k_X4_hasCapsule (show _ ≤ D by omega) h0 c1 i1, bi_t e1, leF (show (0 : Int) < s by omega), en_X10_round, s_X10_round_0, s_X10_round_1, s_X10_round_4, s_X10_round_5, s_X10_round_8, s_X10_round_11, s_X10_round_12, s_X10_round_14, s_X10_round_17, s_X10_round_18, s_X10_round_19, s_X10_round_22, s_X10_round_23, s_X10_round_24, s_X10_round_27, s_X10_round_30, s_X10_round_31, s_X10_round_34, s_X10_round_35, s_X10_round_38, s_X10_round_39, s_X10_round_41, s_X10_round_43, s_X10_round_46, s_X10_round_48, s_X10_round_49, s_X10_round_52, s_X10_round_54, s_X10_round_55, s_X10_round_58, s_X10_round_61, s_X10_round_62, s_X10_round_64, s_X10_round_67, s_X10_round_68, s_X10_round_70, s_X10_round_73, s_X10_round_74, s_X10_round_77, s_X10_round_78, s_X10_round_80, s_X10_round_83, s_X10_round_84, s_X10_round_86, s_X10_round_89, s_X10_round_90, s_X10_round_91, s_X10_round_94, s_X10_round_95, s_X10_round_98, s_X10_round_99, s_X10_round_100, s_X10_round_103, s_X10_round_106, s_X10_round_109, s_X10_round_110, s_X10_round_113, s_X10_round_114, s_X10_round_117, s_X10_round_120, s_X10_round_121, s_X10_round_124, s_X10_round_127, s_X10_round_128, s_X10_round_129, s_X10_round_131, s_X10_round_132, s_X10_round_135, s_X10_round_136, s_X10_round_139, s_X10_round_141, s_X10_round_142, s_X10_round_143, s_X10_round_146, s_X10_round_148, s_X10_round_150, s_X10_round_153, s_X10_round_156, s_X10_round_157, s_X10_round_158, s_X10_round_160, s_X10_round_161, s_X10_round_164, s_X10_round_166, s_X10_round_169, s_X10_round_170, s_X10_round_173, s_X10_round_174, s_X10_round_177, s_X10_round_179, s_X10_round_180, s_X10_round_181, s_X10_round_183, s_X10_round_186, cls_88, fv_88_0, fv_88_1, fv_88_2, fv_88_3, fv_88_4, fv_88_5, fv_88_6, fv_88_7, fv_88_8, fv_88_9, fv_88_10, fv_88_11, fv_88_12, fv_88_13, fv_88_14, cls_0, fv_0_0, fv_0_1, fv_0_2, fv_0_3, fv_0_4, fv_0_5, fv_0_6, fv_0_7, fv_0_8, fv_0_9, fv_0_10, fv_0_11, fv_0_12, fv_0_13, fv_0_14, fv_0_15, r1, sh, e4, k_X10_refuse10 (show _ ≤ D by omega), iI_add, iI_sub, iI_mul, iI_neg, iI_lt, iI_le, iI_eq, iI_toInt, tn_n, tn_1, inb_I, Int.reduceEq, Int.reduceLT, Int.reduceLE, Int.reduceAdd, Int.reduceSub, Int.reduceMul, Int.reduceNeg, Int.reduceToNat, Nat.reduceAdd, Nat.reduceMul, Int.reduceNatCast, reduceCtorEq, Int.cast_ofNat_Int, bi_tr, bi_fa, bi_0, bi_1, not_true_eq_false, not_false_eq_true, rnk_v, rnk_n, ↓reduceIte, i00, i11, ibi, or_true, true_or, and_true, true_and, List.cons_append, List.nil_append, Option.toList, nop])
  rw [if_neg (fun q => q e2)]
  obtain ⟨s, rfl⟩ : ∃ u : Nat, s = u := ⟨s.toNat, by omega⟩
  simp only [Int.toNat_natCast]
  have e4 : s / 2 ^ kD (stK S) = 0 := Nat.div_eq_of_lt (by omega)
  have m1 := k_bitCount (D := D) (by omega) (M := M) (show s < 65536 by omega)
  have hp := popc_le s
  have sh := iI_shr (show s < 2147483648 by omega) (show kD (stK S) < 32 by omega)
  rw [e4] at sh
  have sh2 : iI ((0 : Nat) : Int) = iI 0 := rfl
  rw [sh2] at sh
  by_cases e5 : -1 ≤ i ∧ i ≤ (popc s : Int) - 1
  rotate_left
  · rw [if_pos e5]
    by_cases e6 : i < -1
    · exact okC_rf10 hC (by omega) (by omega) (by simp (maxSteps := 4000000) (disch := omega) only [k_X4_hasCapsule (show _ ≤ D by omega) h0 c1 i1, bi_t e1, leF (show (0 : Int) < s by omega), en_X10_round, s_X10_round_0, s_X10_round_1, s_X10_round_4, s_X10_round_5, s_X10_round_8, s_X10_round_11, s_X10_round_12, s_X10_round_14, s_X10_round_17, s_X10_round_18, s_X10_round_19, s_X10_round_22, s_X10_round_23, s_X10_round_24, s_X10_round_27, s_X10_round_30, s_X10_round_31, s_X10_round_34, s_X10_round_35, s_X10_round_38, s_X10_round_39, s_X10_round_41, s_X10_round_43, s_X10_round_46, s_X10_round_48, s_X10_round_49, s_X10_round_52, s_X10_round_54, s_X10_round_55, s_X10_round_58, s_X10_round_61, s_X10_round_62, s_X10_round_64, s_X10_round_67, s_X10_round_68, s_X10_round_70, s_X10_round_73, s_X10_round_74, s_X10_round_77, s_X10_round_78, s_X10_round_80, s_X10_round_83, s_X10_round_84, s_X10_round_86, s_X10_round_89, s_X10_round_90, s_X10_round_91, s_X10_round_94, s_X10_round_95, s_X10_round_98, s_X10_round_99, s_X10_round_100, s_X10_round_103, s_X10_round_106, s_X10_round_109, s_X10_round_110, s_X10_round_113, s_X10_round_114, s_X10_round_117, s_X10_round_120, s_X10_round_121, s_X10_round_124, s_X10_round_127, s_X10_round_128, s_X10_round_129, s_X10_round_131, s_X10_round_132, s_X10_round_135, s_X10_round_136, s_X10_round_139, s_X10_round_141, s_X10_round_142, s_X10_round_143, s_X10_round_146, s_X10_round_148, s_X10_round_150, s_X10_round_153, s_X10_round_156, s_X10_round_157, s_X10_round_158, s_X10_round_160, s_X10_round_161, s_X10_round_164, s_X10_round_166, s_X10_round_169, s_X10_round_170, s_X10_round_173, s_X10_round_174, s_X10_round_177, s_X10_round_179, s_X10_round_180, s_X10_round_181, s_X10_round_183, s_X10_round_186, cls_88, fv_88_0, fv_88_1, fv_88_2, fv_88_3, fv_88_4, fv_88_5, fv_88_6, fv_88_7, fv_88_8, fv_88_9, fv_88_10, fv_88_11, fv_88_12, fv_88_13, fv_88_14, cls_0, fv_0_0, fv_0_1, fv_0_2, fv_0_3, fv_0_4, fv_0_5, fv_0_6, fv_0_7, fv_0_8, fv_0_9, fv_0_10, fv_0_11, fv_0_12, fv_0_13, fv_0_14, fv_0_15, r1, sh, ltT e6, k_X10_refuse10 (show _ ≤ D by omega), iI_add, iI_sub, iI_mul, iI_neg, iI_lt, iI_le, iI_eq, iI_toInt, tn_n, tn_1, inb_I, Int.reduceEq, Int.reduceLT, Int.reduceLE, Int.reduceAdd, Int.reduceSub, Int.reduceMul, Int.reduceNeg, Int.reduceToNat, Nat.reduceAdd, Nat.reduceMul, Int.reduceNatCast, reduceCtorEq, Int.cast_ofNat_Int, bi_tr, bi_fa, bi_0, bi_1, not_true_eq_false, not_false_eq_true, rnk_v, rnk_n, ↓reduceIte, i00, i11, ibi, or_true, true_or, and_true, true_and, List.cons_append, List.nil_append, Option.toList, nop])
    · exact okC_rf10 hC (by omega) (by omega) (by simp (maxSteps := 4000000) (disch := omega) only [k_X4_hasCapsule (show _ ≤ D by omega) h0 c1 i1, bi_t e1, leF (show (0 : Int) < s by omega), en_X10_round, s_X10_round_0, s_X10_round_1, s_X10_round_4, s_X10_round_5, s_X10_round_8, s_X10_round_11, s_X10_round_12, s_X10_round_14, s_X10_round_17, s_X10_round_18, s_X10_round_19, s_X10_round_22, s_X10_round_23, s_X10_round_24, s_X10_round_27, s_X10_round_30, s_X10_round_31, s_X10_round_34, s_X10_round_35, s_X10_round_38, s_X10_round_39, s_X10_round_41, s_X10_round_43, s_X10_round_46, s_X10_round_48, s_X10_round_49, s_X10_round_52, s_X10_round_54, s_X10_round_55, s_X10_round_58, s_X10_round_61, s_X10_round_62, s_X10_round_64, s_X10_round_67, s_X10_round_68, s_X10_round_70, s_X10_round_73, s_X10_round_74, s_X10_round_77, s_X10_round_78, s_X10_round_80, s_X10_round_83, s_X10_round_84, s_X10_round_86, s_X10_round_89, s_X10_round_90, s_X10_round_91, s_X10_round_94, s_X10_round_95, s_X10_round_98, s_X10_round_99, s_X10_round_100, s_X10_round_103, s_X10_round_106, s_X10_round_109, s_X10_round_110, s_X10_round_113, s_X10_round_114, s_X10_round_117, s_X10_round_120, s_X10_round_121, s_X10_round_124, s_X10_round_127, s_X10_round_128, s_X10_round_129, s_X10_round_131, s_X10_round_132, s_X10_round_135, s_X10_round_136, s_X10_round_139, s_X10_round_141, s_X10_round_142, s_X10_round_143, s_X10_round_146, s_X10_round_148, s_X10_round_150, s_X10_round_153, s_X10_round_156, s_X10_round_157, s_X10_round_158, s_X10_round_160, s_X10_round_161, s_X10_round_164, s_X10_round_166, s_X10_round_169, s_X10_round_170, s_X10_round_173, s_X10_round_174, s_X10_round_177, s_X10_round_179, s_X10_round_180, s_X10_round_181, s_X10_round_183, s_X10_round_186, cls_88, fv_88_0, fv_88_1, fv_88_2, fv_88_3, fv_88_4, fv_88_5, fv_88_6, fv_88_7, fv_88_8, fv_88_9, fv_88_10, fv_88_11, fv_88_12, fv_88_13, fv_88_14, cls_0, fv_0_0, fv_0_1, fv_0_2, fv_0_3, fv_0_4, fv_0_5, fv_0_6, fv_0_7, fv_0_8, fv_0_9, fv_0_10, fv_0_11, fv_0_12, fv_0_13, fv_0_14, fv_0_15, r1, sh, m1, ltF (show -1 ≤ i by omega), ltF (show (popc s : Int) ≤ i by omega), k_X10_refuse10 (show _ ≤ D by omega), iI_add, iI_sub, iI_mul, iI_neg, iI_lt, iI_le, iI_eq, iI_toInt, tn_n, tn_1, inb_I, Int.reduceEq, Int.reduceLT, Int.reduceLE, Int.reduceAdd, Int.reduceSub, Int.reduceMul, Int.reduceNeg, Int.reduceToNat, Nat.reduceAdd, Nat.reduceMul, Int.reduceNatCast, reduceCtorEq, Int.cast_ofNat_Int, bi_tr, bi_fa, bi_0, bi_1, not_true_eq_false, not_false_eq_true, rnk_v, rnk_n, ↓reduceIte, i00, i11, ibi, or_true, true_or, and_true, true_and, List.cons_append, List.nil_append, Option.toList, nop])
  rw [if_neg (fun q => q e5)]
  by_cases e6 : 0 ≤ st ∧ st ≤ 60
  rotate_left
  · rw [if_pos e6]
    by_cases e7 : st < 0
    · exact okC_rf10 hC (by omega) (by omega) (by simp (maxSteps := 4000000) (disch := omega) only [k_X4_hasCapsule (show _ ≤ D by omega) h0 c1 i1, bi_t e1, leF (show (0 : Int) < s by omega), en_X10_round, s_X10_round_0, s_X10_round_1, s_X10_round_4, s_X10_round_5, s_X10_round_8, s_X10_round_11, s_X10_round_12, s_X10_round_14, s_X10_round_17, s_X10_round_18, s_X10_round_19, s_X10_round_22, s_X10_round_23, s_X10_round_24, s_X10_round_27, s_X10_round_30, s_X10_round_31, s_X10_round_34, s_X10_round_35, s_X10_round_38, s_X10_round_39, s_X10_round_41, s_X10_round_43, s_X10_round_46, s_X10_round_48, s_X10_round_49, s_X10_round_52, s_X10_round_54, s_X10_round_55, s_X10_round_58, s_X10_round_61, s_X10_round_62, s_X10_round_64, s_X10_round_67, s_X10_round_68, s_X10_round_70, s_X10_round_73, s_X10_round_74, s_X10_round_77, s_X10_round_78, s_X10_round_80, s_X10_round_83, s_X10_round_84, s_X10_round_86, s_X10_round_89, s_X10_round_90, s_X10_round_91, s_X10_round_94, s_X10_round_95, s_X10_round_98, s_X10_round_99, s_X10_round_100, s_X10_round_103, s_X10_round_106, s_X10_round_109, s_X10_round_110, s_X10_round_113, s_X10_round_114, s_X10_round_117, s_X10_round_120, s_X10_round_121, s_X10_round_124, s_X10_round_127, s_X10_round_128, s_X10_round_129, s_X10_round_131, s_X10_round_132, s_X10_round_135, s_X10_round_136, s_X10_round_139, s_X10_round_141, s_X10_round_142, s_X10_round_143, s_X10_round_146, s_X10_round_148, s_X10_round_150, s_X10_round_153, s_X10_round_156, s_X10_round_157, s_X10_round_158, s_X10_round_160, s_X10_round_161, s_X10_round_164, s_X10_round_166, s_X10_round_169, s_X10_round_170, s_X10_round_173, s_X10_round_174, s_X10_round_177, s_X10_round_179, s_X10_round_180, s_X10_round_181, s_X10_round_183, s_X10_round_186, cls_88, fv_88_0, fv_88_1, fv_88_2, fv_88_3, fv_88_4, fv_88_5, fv_88_6, fv_88_7, fv_88_8, fv_88_9, fv_88_10, fv_88_11, fv_88_12, fv_88_13, fv_88_14, cls_0, fv_0_0, fv_0_1, fv_0_2, fv_0_3, fv_0_4, fv_0_5, fv_0_6, fv_0_7, fv_0_8, fv_0_9, fv_0_10, fv_0_11, fv_0_12, fv_0_13, fv_0_14, fv_0_15, r1, sh, m1, ltF (show -1 ≤ i by omega), ltT (show i < (popc s : Int) by omega), ltT e7, k_X10_refuse10 (show _ ≤ D by omega), iI_add, iI_sub, iI_mul, iI_neg, iI_lt, iI_le, iI_eq, iI_toInt, tn_n, tn_1, inb_I, Int.reduceEq, Int.reduceLT, Int.reduceLE, Int.reduceAdd, Int.reduceSub, Int.reduceMul, Int.reduceNeg, Int.reduceToNat, Nat.reduceAdd, Nat.reduceMul, Int.reduceNatCast, reduceCtorEq, Int.cast_ofNat_Int, bi_tr, bi_fa, bi_0, bi_1, not_true_eq_false, not_false_eq_true, rnk_v, rnk_n, ↓reduceIte, i00, i11, ibi, or_true, true_or, and_true, true_and, List.cons_append, List.nil_append, Option.toList, nop])
    · exact okC_rf10 hC (by omega) (by omega) (by simp (maxSteps := 4000000) (disch := omega) only [k_X4_hasCapsule (show _ ≤ D by omega) h0 c1 i1, bi_t e1, leF (show (0 : Int) < s by omega), en_X10_round, s_X10_round_0, s_X10_round_1, s_X10_round_4, s_X10_round_5, s_X10_round_8, s_X10_round_11, s_X10_round_12, s_X10_round_14, s_X10_round_17, s_X10_round_18, s_X10_round_19, s_X10_round_22, s_X10_round_23, s_X10_round_24, s_X10_round_27, s_X10_round_30, s_X10_round_31, s_X10_round_34, s_X10_round_35, s_X10_round_38, s_X10_round_39, s_X10_round_41, s_X10_round_43, s_X10_round_46, s_X10_round_48, s_X10_round_49, s_X10_round_52, s_X10_round_54, s_X10_round_55, s_X10_round_58, s_X10_round_61, s_X10_round_62, s_X10_round_64, s_X10_round_67, s_X10_round_68, s_X10_round_70, s_X10_round_73, s_X10_round_74, s_X10_round_77, s_X10_round_78, s_X10_round_80, s_X10_round_83, s_X10_round_84, s_X10_round_86, s_X10_round_89, s_X10_round_90, s_X10_round_91, s_X10_round_94, s_X10_round_95, s_X10_round_98, s_X10_round_99, s_X10_round_100, s_X10_round_103, s_X10_round_106, s_X10_round_109, s_X10_round_110, s_X10_round_113, s_X10_round_114, s_X10_round_117, s_X10_round_120, s_X10_round_121, s_X10_round_124, s_X10_round_127, s_X10_round_128, s_X10_round_129, s_X10_round_131, s_X10_round_132, s_X10_round_135, s_X10_round_136, s_X10_round_139, s_X10_round_141, s_X10_round_142, s_X10_round_143, s_X10_round_146, s_X10_round_148, s_X10_round_150, s_X10_round_153, s_X10_round_156, s_X10_round_157, s_X10_round_158, s_X10_round_160, s_X10_round_161, s_X10_round_164, s_X10_round_166, s_X10_round_169, s_X10_round_170, s_X10_round_173, s_X10_round_174, s_X10_round_177, s_X10_round_179, s_X10_round_180, s_X10_round_181, s_X10_round_183, s_X10_round_186, cls_88, fv_88_0, fv_88_1, fv_88_2, fv_88_3, fv_88_4, fv_88_5, fv_88_6, fv_88_7, fv_88_8, fv_88_9, fv_88_10, fv_88_11, fv_88_12, fv_88_13, fv_88_14, cls_0, fv_0_0, fv_0_1, fv_0_2, fv_0_3, fv_0_4, fv_0_5, fv_0_6, fv_0_7, fv_0_8, fv_0_9, fv_0_10, fv_0_11, fv_0_12, fv_0_13, fv_0_14, fv_0_15, r1, sh, m1, ltF (show -1 ≤ i by omega), ltT (show i < (popc s : Int) by omega), ltF (show 0 ≤ st by omega), leF (show 60 < st by omega), k_X10_refuse10 (show _ ≤ D by omega), iI_add, iI_sub, iI_mul, iI_neg, iI_lt, iI_le, iI_eq, iI_toInt, tn_n, tn_1, inb_I, Int.reduceEq, Int.reduceLT, Int.reduceLE, Int.reduceAdd, Int.reduceSub, Int.reduceMul, Int.reduceNeg, Int.reduceToNat, Nat.reduceAdd, Nat.reduceMul, Int.reduceNatCast, reduceCtorEq, Int.cast_ofNat_Int, bi_tr, bi_fa, bi_0, bi_1, not_true_eq_false, not_false_eq_true, rnk_v, rnk_n, ↓reduceIte, i00, i11, ibi, or_true, true_or, and_true, true_and, List.cons_append, List.nil_append, Option.toList, nop])
  rw [if_neg (fun q => q e6)]
  obtain ⟨st, rfl⟩ : ∃ u : Nat, st = u := ⟨st.toNat, by omega⟩
  obtain ⟨c, rfl⟩ : ∃ u : Nat, c = u := ⟨c.toNat, by omega⟩
  simp only [Int.toNat_natCast]
  have hc : c < kC (stK S) := by omega
  have hst : st ≤ 60 := by omega
  have hs : s < 2 ^ kD (stK S) := by omega
  have hx := (kI_c i1 hc).2.2.2
  have hG := gK_I i1 hc (show 1 ≤ (kP (stK S) : Int) by omega) (show (kP (stK S) : Int) ≤ 9 by omega)
  obtain ⟨M1, q1, q2, q3⟩ := k_X9_prepareFor (D := D) (by omega) h0 c1 i1 hc (kP (stK S)) (by omega) (by omega)
  have w1 : Rep M1 0 (stK S) := Rep_o h0 c1 q3 (by simp)
  obtain ⟨M2, p1, p2, p3⟩ := k_X9_fillTable (D := D) (by omega) h0 w1 i1 hG q2
  have w2 : Rep M2 0 (stK S) := Rep_o h0 w1 p3 (by simp)
  have v2 := (R0_c w2 hc).2.2.2
  have hf := dG_dOK i1 hG
  obtain ⟨M3, b1, b2, b3⟩ := k_X7_leastMinutes (D := D) (by omega) i1 p2 hf hs hx hst
  have hT3 := RepTb_Sm i1 p2 b3 (by simp)
  have hsm : Sm [43, 44, 45, 46, 49, 50, 51, 52, 53, 54, 55, 56, 58] M M3 := Sm_tr (Sm_mono (by simp) q3) (Sm_tr (Sm_mono (by simp) p3) (Sm_mono (by simp) b3))
  refine okC_scr hC ?_ hsm (by simp)
  have g1 := rR_rng n0.1 hf _ s (Nat.lt_succ_self s) (by omega) _ hx
  have g2 := pc_mul hst (popc_8 (show s < 256 by omega))
  have g3 := popc_8 (show s < 256 by omega)
  unfold rdZ
  unfold rB at b1
  by_cases e7 : rR (dG (stK S) (gK (stK S) c (kP (stK S)))) (kD (stK S)) s (kX (stK S) c) = 9999
  · rw [if_pos e7] at b1 ⊢
    simp (maxSteps := 4000000) (disch := omega) only [k_X4_hasCapsule (show _ ≤ D by omega) h0 c1 i1, bi_t e1, leF (show (0 : Int) < s by omega), en_X10_round, s_X10_round_0, s_X10_round_1, s_X10_round_4, s_X10_round_5, s_X10_round_8, s_X10_round_11, s_X10_round_12, s_X10_round_14, s_X10_round_17, s_X10_round_18, s_X10_round_19, s_X10_round_22, s_X10_round_23, s_X10_round_24, s_X10_round_27, s_X10_round_30, s_X10_round_31, s_X10_round_34, s_X10_round_35, s_X10_round_38, s_X10_round_39, s_X10_round_41, s_X10_round_43, s_X10_round_46, s_X10_round_48, s_X10_round_49, s_X10_round_52, s_X10_round_54, s_X10_round_55, s_X10_round_58, s_X10_round_61, s_X10_round_62, s_X10_round_64, s_X10_round_67, s_X10_round_68, s_X10_round_70, s_X10_round_73, s_X10_round_74, s_X10_round_77, s_X10_round_78, s_X10_round_80, s_X10_round_83, s_X10_round_84, s_X10_round_86, s_X10_round_89, s_X10_round_90, s_X10_round_91, s_X10_round_94, s_X10_round_95, s_X10_round_98, s_X10_round_99, s_X10_round_100, s_X10_round_103, s_X10_round_106, s_X10_round_109, s_X10_round_110, s_X10_round_113, s_X10_round_114, s_X10_round_117, s_X10_round_120, s_X10_round_121, s_X10_round_124, s_X10_round_127, s_X10_round_128, s_X10_round_129, s_X10_round_131, s_X10_round_132, s_X10_round_135, s_X10_round_136, s_X10_round_139, s_X10_round_141, s_X10_round_142, s_X10_round_143, s_X10_round_146, s_X10_round_148, s_X10_round_150, s_X10_round_153, s_X10_round_156, s_X10_round_157, s_X10_round_158, s_X10_round_160, s_X10_round_161, s_X10_round_164, s_X10_round_166, s_X10_round_169, s_X10_round_170, s_X10_round_173, s_X10_round_174, s_X10_round_177, s_X10_round_179, s_X10_round_180, s_X10_round_181, s_X10_round_183, s_X10_round_186, cls_88, fv_88_0, fv_88_1, fv_88_2, fv_88_3, fv_88_4, fv_88_5, fv_88_6, fv_88_7, fv_88_8, fv_88_9, fv_88_10, fv_88_11, fv_88_12, fv_88_13, fv_88_14, cls_42, cls_57, cls_0, fv_0_0, fv_0_1, fv_0_2, fv_0_3, fv_0_4, fv_0_5, fv_0_6, fv_0_7, fv_0_8, fv_0_9, fv_0_10, fv_0_11, fv_0_12, fv_0_13, fv_0_14, fv_0_15, ak_1, al_1, ak_2, al_2, ak_3, al_3, ak_4, al_4, ak_5, al_5, ak_6, al_6, ak_7, al_7, ak_8, al_8, ak_9, al_9, r1, r4, sh, m1, ltF (show -1 ≤ i by omega), ltT (show i < (popc s : Int) by omega), ltF (show (0 : Int) ≤ st by omega), leT (show (st : Int) ≤ 60 by omega), q1, p1, v2, b1, iI_add, iI_sub, iI_mul, iI_neg, iI_lt, iI_le, iI_eq, iI_toInt, tn_n, tn_1, inb_I, Int.reduceEq, Int.reduceLT, Int.reduceLE, Int.reduceAdd, Int.reduceSub, Int.reduceMul, Int.reduceNeg, Int.reduceToNat, Nat.reduceAdd, Nat.reduceMul, Int.reduceNatCast, reduceCtorEq, Int.cast_ofNat_Int, bi_tr, bi_fa, bi_0, bi_1, not_true_eq_false, not_false_eq_true, rnk_v, rnk_n, ↓reduceIte, i00, i11, ibi, or_true, true_or, and_true, true_and, List.cons_append, List.nil_append, Option.toList, nop]
  · rw [if_neg e7] at b1 ⊢
    by_cases e8 : i = -1
    · rw [if_pos e8]
      subst e8
      simp (maxSteps := 4000000) (disch := omega) only [k_X4_hasCapsule (show _ ≤ D by omega) h0 c1 i1, bi_t e1, leF (show (0 : Int) < s by omega), en_X10_round, s_X10_round_0, s_X10_round_1, s_X10_round_4, s_X10_round_5, s_X10_round_8, s_X10_round_11, s_X10_round_12, s_X10_round_14, s_X10_round_17, s_X10_round_18, s_X10_round_19, s_X10_round_22, s_X10_round_23, s_X10_round_24, s_X10_round_27, s_X10_round_30, s_X10_round_31, s_X10_round_34, s_X10_round_35, s_X10_round_38, s_X10_round_39, s_X10_round_41, s_X10_round_43, s_X10_round_46, s_X10_round_48, s_X10_round_49, s_X10_round_52, s_X10_round_54, s_X10_round_55, s_X10_round_58, s_X10_round_61, s_X10_round_62, s_X10_round_64, s_X10_round_67, s_X10_round_68, s_X10_round_70, s_X10_round_73, s_X10_round_74, s_X10_round_77, s_X10_round_78, s_X10_round_80, s_X10_round_83, s_X10_round_84, s_X10_round_86, s_X10_round_89, s_X10_round_90, s_X10_round_91, s_X10_round_94, s_X10_round_95, s_X10_round_98, s_X10_round_99, s_X10_round_100, s_X10_round_103, s_X10_round_106, s_X10_round_109, s_X10_round_110, s_X10_round_113, s_X10_round_114, s_X10_round_117, s_X10_round_120, s_X10_round_121, s_X10_round_124, s_X10_round_127, s_X10_round_128, s_X10_round_129, s_X10_round_131, s_X10_round_132, s_X10_round_135, s_X10_round_136, s_X10_round_139, s_X10_round_141, s_X10_round_142, s_X10_round_143, s_X10_round_146, s_X10_round_148, s_X10_round_150, s_X10_round_153, s_X10_round_156, s_X10_round_157, s_X10_round_158, s_X10_round_160, s_X10_round_161, s_X10_round_164, s_X10_round_166, s_X10_round_169, s_X10_round_170, s_X10_round_173, s_X10_round_174, s_X10_round_177, s_X10_round_179, s_X10_round_180, s_X10_round_181, s_X10_round_183, s_X10_round_186, cls_88, fv_88_0, fv_88_1, fv_88_2, fv_88_3, fv_88_4, fv_88_5, fv_88_6, fv_88_7, fv_88_8, fv_88_9, fv_88_10, fv_88_11, fv_88_12, fv_88_13, fv_88_14, cls_42, cls_57, cls_0, fv_0_0, fv_0_1, fv_0_2, fv_0_3, fv_0_4, fv_0_5, fv_0_6, fv_0_7, fv_0_8, fv_0_9, fv_0_10, fv_0_11, fv_0_12, fv_0_13, fv_0_14, fv_0_15, ak_1, al_1, ak_2, al_2, ak_3, al_3, ak_4, al_4, ak_5, al_5, ak_6, al_6, ak_7, al_7, ak_8, al_8, ak_9, al_9, r1, r4, sh, m1, ltT (show -1 < (popc s : Int) by omega), ltF (show (0 : Int) ≤ st by omega), leT (show (st : Int) ≤ 60 by omega), q1, p1, v2, b1, eqF (show ¬ ((rR (dG (stK S) (gK (stK S) c (kP (stK S)))) (kD (stK S)) s (kX (stK S) c) + st * popc s : Nat) : Int) = 9999 by omega), iI_add, iI_sub, iI_mul, iI_neg, iI_lt, iI_le, iI_eq, iI_toInt, tn_n, tn_1, inb_I, Int.reduceEq, Int.reduceLT, Int.reduceLE, Int.reduceAdd, Int.reduceSub, Int.reduceMul, Int.reduceNeg, Int.reduceToNat, Nat.reduceAdd, Nat.reduceMul, Int.reduceNatCast, reduceCtorEq, Int.cast_ofNat_Int, bi_tr, bi_fa, bi_0, bi_1, not_true_eq_false, not_false_eq_true, rnk_v, rnk_n, ↓reduceIte, i00, i11, ibi, or_true, true_or, and_true, true_and, List.cons_append, List.nil_append, Option.toList, nop]
    · rw [if_neg e8]
      obtain ⟨i, rfl⟩ : ∃ u : Nat, i = u := ⟨i.toNat, by omega⟩
      simp only [Int.toNat_natCast]
      have d1 := k_X7_deskOfOrder (D := D) (by omega) i1 hT3 hf hs hx hst b2 e7 (show i < popc s by omega)
      simp (maxSteps := 4000000) (disch := omega) only [k_X4_hasCapsule (show _ ≤ D by omega) h0 c1 i1, bi_t e1, leF (show (0 : Int) < s by omega), en_X10_round, s_X10_round_0, s_X10_round_1, s_X10_round_4, s_X10_round_5, s_X10_round_8, s_X10_round_11, s_X10_round_12, s_X10_round_14, s_X10_round_17, s_X10_round_18, s_X10_round_19, s_X10_round_22, s_X10_round_23, s_X10_round_24, s_X10_round_27, s_X10_round_30, s_X10_round_31, s_X10_round_34, s_X10_round_35, s_X10_round_38, s_X10_round_39, s_X10_round_41, s_X10_round_43, s_X10_round_46, s_X10_round_48, s_X10_round_49, s_X10_round_52, s_X10_round_54, s_X10_round_55, s_X10_round_58, s_X10_round_61, s_X10_round_62, s_X10_round_64, s_X10_round_67, s_X10_round_68, s_X10_round_70, s_X10_round_73, s_X10_round_74, s_X10_round_77, s_X10_round_78, s_X10_round_80, s_X10_round_83, s_X10_round_84, s_X10_round_86, s_X10_round_89, s_X10_round_90, s_X10_round_91, s_X10_round_94, s_X10_round_95, s_X10_round_98, s_X10_round_99, s_X10_round_100, s_X10_round_103, s_X10_round_106, s_X10_round_109, s_X10_round_110, s_X10_round_113, s_X10_round_114, s_X10_round_117, s_X10_round_120, s_X10_round_121, s_X10_round_124, s_X10_round_127, s_X10_round_128, s_X10_round_129, s_X10_round_131, s_X10_round_132, s_X10_round_135, s_X10_round_136, s_X10_round_139, s_X10_round_141, s_X10_round_142, s_X10_round_143, s_X10_round_146, s_X10_round_148, s_X10_round_150, s_X10_round_153, s_X10_round_156, s_X10_round_157, s_X10_round_158, s_X10_round_160, s_X10_round_161, s_X10_round_164, s_X10_round_166, s_X10_round_169, s_X10_round_170, s_X10_round_173, s_X10_round_174, s_X10_round_177, s_X10_round_179, s_X10_round_180, s_X10_round_181, s_X10_round_183, s_X10_round_186, cls_88, fv_88_0, fv_88_1, fv_88_2, fv_88_3, fv_88_4, fv_88_5, fv_88_6, fv_88_7, fv_88_8, fv_88_9, fv_88_10, fv_88_11, fv_88_12, fv_88_13, fv_88_14, cls_42, cls_57, cls_0, fv_0_0, fv_0_1, fv_0_2, fv_0_3, fv_0_4, fv_0_5, fv_0_6, fv_0_7, fv_0_8, fv_0_9, fv_0_10, fv_0_11, fv_0_12, fv_0_13, fv_0_14, fv_0_15, ak_1, al_1, ak_2, al_2, ak_3, al_3, ak_4, al_4, ak_5, al_5, ak_6, al_6, ak_7, al_7, ak_8, al_8, ak_9, al_9, r1, r4, sh, m1, ltF (show -1 ≤ (i : Int) by omega), ltT (show (i : Int) < (popc s : Int) by omega), ltF (show (0 : Int) ≤ st by omega), leT (show (st : Int) ≤ 60 by omega), q1, p1, v2, b1, d1, e8, eqF (show ¬ ((rR (dG (stK S) (gK (stK S) c (kP (stK S)))) (kD (stK S)) s (kX (stK S) c) + st * popc s : Nat) : Int) = 9999 by omega), iI_add, iI_sub, iI_mul, iI_neg, iI_lt, iI_le, iI_eq, iI_toInt, tn_n, tn_1, inb_I, Int.reduceEq, Int.reduceLT, Int.reduceLE, Int.reduceAdd, Int.reduceSub, Int.reduceMul, Int.reduceNeg, Int.reduceToNat, Nat.reduceAdd, Nat.reduceMul, Int.reduceNatCast, reduceCtorEq, Int.cast_ofNat_Int, bi_tr, bi_fa, bi_0, bi_1, not_true_eq_false, not_false_eq_true, rnk_v, rnk_n, ↓reduceIte, i00, i11, ibi, or_true, true_or, and_true, true_and, List.cons_append, List.nil_append, Option.toList, nop]
