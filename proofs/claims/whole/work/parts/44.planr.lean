/-! PLANS: THE REFERENCE -/
def RdR (M : tM) (Q : tQ) (s p : Nat) : Prop := RepT M Q ∧ M.1 90 11 = iI s ∧ M.1 90 12 = iI p
/-- what reading may write: the place and the fault -/
def Kp (M M' : tM) : Prop := Sm [90] M M' ∧ ∀ j, j ≠ 12 → j ≠ 13 → M'.1 90 j = M.1 90 j
theorem Kp_rf (M : tM) : Kp M M := ⟨Sm_rf _ _, fun _ _ _ => rfl⟩
theorem Kp_tr {M M' M'' : tM} (h : Kp M M') (h' : Kp M' M'') : Kp M M'' := ⟨Sm_tr h.1 h'.1, fun j h1 h2 => (h'.2 j h1 h2).trans (h.2 j h1 h2)⟩
theorem Kp_12 (M : tM) (v : Int32) : Kp M (sI M 90 12 v) := ⟨Sm_sI (by simp), fun j h1 _ => sI_k _ _ h1⟩
theorem Kp_13 (M : tM) (v : Int32) : Kp M (sI M 90 13 v) := ⟨Sm_sI (by simp), fun j _ h1 => sI_k _ _ h1⟩
theorem RdR_at {M : tM} {Q : tQ} {s p : Nat} (h : RdR M Q s p) (q : Nat) : RdR (sI M 90 12 (iI q)) Q s q := by
  obtain ⟨h1, h2, h3⟩ := h
  refine ⟨RepT_Sm h1 (Sm_sI (l := [90]) (by simp)) (by simp), ?_, by rw [sI_s]⟩
  rw [sI_k _ _ (by omega)]; exact h2
theorem k_X11_letter {D : Nat} (hD : 2 ≤ D) {M : tM} {Q : tQ} {s p : Nat} (h : RdR M Q s p) (hs : s < 8) (hn : qN Q s ≤ 160) (hp : p < qN Q s) : exF D m_X11_letter [.ref 90] M = some (some (.int (iI (lt (qI Q s) (qN Q s) p))), M) := by
  obtain ⟨D, rfl⟩ : ∃ D0, D = D0 + 1 := ⟨D - 1, by omega⟩
  obtain ⟨h1, h2, h3⟩ := h
  have h4 := (h1 s hs).2.1
  have h5 := k_X11_told (D := D) (by omega) h1 hs (i := p) (by omega)
  unfold lt
  rw [if_pos hp]
  simp (maxSteps := 4000000) (disch := omega) only [en_X11_letter, s_X11_letter_0, s_X11_letter_1, s_X11_letter_4, s_X11_letter_5, s_X11_letter_8, s_X11_letter_9, s_X11_letter_12, s_X11_letter_13, s_X11_letter_16, s_X11_letter_17, s_X11_letter_18, s_X11_letter_21, s_X11_letter_22, s_X11_letter_25, s_X11_letter_28, s_X11_letter_31, s_X11_letter_32, cls_90, fv_90_0, fv_90_1, fv_90_2, fv_90_3, fv_90_4, fv_90_5, fv_90_6, fv_90_7, fv_90_8, fv_90_9, fv_90_10, fv_90_11, fv_90_12, fv_90_13, fv_90_14, fv_90_15, fv_90_16, fv_90_17, fv_90_18, fv_90_19, fv_90_20, fv_90_21, fv_90_22, fv_90_23, fv_90_24, fv_90_25, ak_91, al_91, ak_92, al_92, ak_93, al_93, ak_94, al_94, ak_95, al_95, ak_96, al_96, ak_97, al_97, ak_98, al_98, ak_99, al_99, ak_100, al_100, rf_100, ak_101, al_101, ak_102, al_102, ak_103, al_103, ak_104, al_104, ak_105, al_105, ak_106, al_106, tn_add, tn_mul, iI_long, jJ_int, h2, h3, h4, h5, leF (show (p : Int) < qN Q s by omega), iI_add, iI_sub, iI_mul, iI_neg, iI_lt, iI_le, iI_eq, iI_toInt, tn_n, tn_1, inb_I, Int.reduceEq, Int.reduceLT, Int.reduceLE, Int.reduceAdd, Int.reduceSub, Int.reduceMul, Int.reduceNeg, Int.reduceToNat, Nat.reduceAdd, Nat.reduceMul, Int.reduceNatCast, reduceCtorEq, Int.cast_ofNat_Int, bi_tr, bi_fa, bi_0, bi_1, not_true_eq_false, not_false_eq_true, rnk_v, rnk_n, ↓reduceIte, i00, i11, ibi, or_true, true_or, and_true, true_and, List.cons_append, List.nil_append, Option.toList, nop]
theorem k_X11_isFault {D : Nat} (hD : 1 ≤ D) {M : tM} {z : Int32} : exF D m_X11_isFault [.ref 90, .int z] M = some (some (.int (iI 0)), sI M 90 13 z) := by
  obtain ⟨D, rfl⟩ : ∃ D0, D = D0 + 1 := ⟨D - 1, by omega⟩
  simp (maxSteps := 4000000) (disch := omega) only [en_X11_isFault, s_X11_isFault_0, s_X11_isFault_1, s_X11_isFault_2, s_X11_isFault_5, s_X11_isFault_6, cls_90, fv_90_0, fv_90_1, fv_90_2, fv_90_3, fv_90_4, fv_90_5, fv_90_6, fv_90_7, fv_90_8, fv_90_9, fv_90_10, fv_90_11, fv_90_12, fv_90_13, fv_90_14, fv_90_15, fv_90_16, fv_90_17, fv_90_18, fv_90_19, fv_90_20, fv_90_21, fv_90_22, fv_90_23, fv_90_24, fv_90_25, iI_add, iI_sub, iI_mul, iI_neg, iI_lt, iI_le, iI_eq, iI_toInt, tn_n, tn_1, inb_I, Int.reduceEq, Int.reduceLT, Int.reduceLE, Int.reduceAdd, Int.reduceSub, Int.reduceMul, Int.reduceNeg, Int.reduceToNat, Nat.reduceAdd, Nat.reduceMul, Int.reduceNatCast, reduceCtorEq, Int.cast_ofNat_Int, bi_tr, bi_fa, bi_0, bi_1, not_true_eq_false, not_false_eq_true, rnk_v, rnk_n, ↓reduceIte, i00, i11, ibi, or_true, true_or, and_true, true_and, List.cons_append, List.nil_append, Option.toList, nop]
theorem k_X11_isLetter {D : Nat} (hD : 3 ≤ D) {M : tM} {Q : tQ} {s p : Nat} (h : RdR M Q s p) (hs : s < 8) (hn : qN Q s ≤ 160) (hp : p ≤ 200) {c : Int} (hc : 0 ≤ c ∧ c ≤ 200) : exF D m_X11_isLetter [.ref 90, .int (iI c)] M = some (some (.int (bi (lt (qI Q s) (qN Q s) p = c))), if lt (qI Q s) (qN Q s) p = c then sI M 90 12 (iI (p + 1 : Nat)) else sI M 90 13 (iI p)) := by
  obtain ⟨D, rfl⟩ : ∃ D0, D = D0 + 1 := ⟨D - 1, by omega⟩
  have h2 := lt_rng (fun i => qI_rng Q s i) (qN Q s) p
  have h3 := h.2.1
  have h5 := h.2.2
  have h4 := (h.1 s hs).2.1
  by_cases q0 : p < qN Q s
  · have h1 := k_X11_letter (D := D) (by omega) h hs hn q0
    by_cases q : lt (qI Q s) (qN Q s) p = c
    · rw [bi_t q, if_pos q]
      simp (maxSteps := 4000000) (disch := omega) only [en_X11_isLetter, s_X11_isLetter_0, s_X11_isLetter_1, s_X11_isLetter_4, s_X11_isLetter_5, s_X11_isLetter_8, s_X11_isLetter_9, s_X11_isLetter_12, s_X11_isLetter_13, s_X11_isLetter_16, s_X11_isLetter_17, s_X11_isLetter_20, s_X11_isLetter_21, s_X11_isLetter_24, s_X11_isLetter_25, s_X11_isLetter_26, s_X11_isLetter_29, s_X11_isLetter_32, s_X11_isLetter_33, s_X11_isLetter_34, s_X11_isLetter_34b, s_X11_isLetter_35, s_X11_isLetter_38, s_X11_isLetter_39, s_X11_isLetter_40, s_X11_isLetter_43, s_X11_isLetter_44, cls_90, fv_90_0, fv_90_1, fv_90_2, fv_90_3, fv_90_4, fv_90_5, fv_90_6, fv_90_7, fv_90_8, fv_90_9, fv_90_10, fv_90_11, fv_90_12, fv_90_13, fv_90_14, fv_90_15, fv_90_16, fv_90_17, fv_90_18, fv_90_19, fv_90_20, fv_90_21, fv_90_22, fv_90_23, fv_90_24, fv_90_25, ak_91, al_91, ak_92, al_92, ak_93, al_93, ak_94, al_94, ak_95, al_95, ak_96, al_96, ak_97, al_97, ak_98, al_98, ak_99, al_99, ak_100, al_100, rf_100, ak_101, al_101, ak_102, al_102, ak_103, al_103, ak_104, al_104, ak_105, al_105, ak_106, al_106, tn_add, tn_mul, iI_long, jJ_int, h1, h3, h4, h5, eqT q, leF (show (p : Int) < qN Q s by omega), iI_add, iI_sub, iI_mul, iI_neg, iI_lt, iI_le, iI_eq, iI_toInt, tn_n, tn_1, inb_I, Int.reduceEq, Int.reduceLT, Int.reduceLE, Int.reduceAdd, Int.reduceSub, Int.reduceMul, Int.reduceNeg, Int.reduceToNat, Nat.reduceAdd, Nat.reduceMul, Int.reduceNatCast, reduceCtorEq, Int.cast_ofNat_Int, bi_tr, bi_fa, bi_0, bi_1, not_true_eq_false, not_false_eq_true, rnk_v, rnk_n, ↓reduceIte, i00, i11, ibi, or_true, true_or, and_true, true_and, List.cons_append, List.nil_append, Option.toList, nop]
      rfl
    · rw [bi_f q, if_neg q]
      simp (maxSteps := 4000000) (disch := omega) only [en_X11_isLetter, s_X11_isLetter_0, s_X11_isLetter_1, s_X11_isLetter_4, s_X11_isLetter_5, s_X11_isLetter_8, s_X11_isLetter_9, s_X11_isLetter_12, s_X11_isLetter_13, s_X11_isLetter_16, s_X11_isLetter_17, s_X11_isLetter_20, s_X11_isLetter_21, s_X11_isLetter_24, s_X11_isLetter_25, s_X11_isLetter_26, s_X11_isLetter_29, s_X11_isLetter_32, s_X11_isLetter_33, s_X11_isLetter_34, s_X11_isLetter_34b, s_X11_isLetter_35, s_X11_isLetter_38, s_X11_isLetter_39, s_X11_isLetter_40, s_X11_isLetter_43, s_X11_isLetter_44, cls_90, fv_90_0, fv_90_1, fv_90_2, fv_90_3, fv_90_4, fv_90_5, fv_90_6, fv_90_7, fv_90_8, fv_90_9, fv_90_10, fv_90_11, fv_90_12, fv_90_13, fv_90_14, fv_90_15, fv_90_16, fv_90_17, fv_90_18, fv_90_19, fv_90_20, fv_90_21, fv_90_22, fv_90_23, fv_90_24, fv_90_25, ak_91, al_91, ak_92, al_92, ak_93, al_93, ak_94, al_94, ak_95, al_95, ak_96, al_96, ak_97, al_97, ak_98, al_98, ak_99, al_99, ak_100, al_100, rf_100, ak_101, al_101, ak_102, al_102, ak_103, al_103, ak_104, al_104, ak_105, al_105, ak_106, al_106, tn_add, tn_mul, iI_long, jJ_int, h1, h3, h4, h5, k_X11_isFault (show _ ≤ D by omega), eqF q, leF (show (p : Int) < qN Q s by omega), iI_add, iI_sub, iI_mul, iI_neg, iI_lt, iI_le, iI_eq, iI_toInt, tn_n, tn_1, inb_I, Int.reduceEq, Int.reduceLT, Int.reduceLE, Int.reduceAdd, Int.reduceSub, Int.reduceMul, Int.reduceNeg, Int.reduceToNat, Nat.reduceAdd, Nat.reduceMul, Int.reduceNatCast, reduceCtorEq, Int.cast_ofNat_Int, bi_tr, bi_fa, bi_0, bi_1, not_true_eq_false, not_false_eq_true, rnk_v, rnk_n, ↓reduceIte, i00, i11, ibi, or_true, true_or, and_true, true_and, List.cons_append, List.nil_append, Option.toList, nop]
  · have q : ¬ lt (qI Q s) (qN Q s) p = c := by unfold lt; rw [if_neg q0]; omega
    rw [bi_f q, if_neg q]
    simp (maxSteps := 4000000) (disch := omega) only [en_X11_isLetter, s_X11_isLetter_0, s_X11_isLetter_1, s_X11_isLetter_4, s_X11_isLetter_5, s_X11_isLetter_8, s_X11_isLetter_9, s_X11_isLetter_12, s_X11_isLetter_13, s_X11_isLetter_16, s_X11_isLetter_17, s_X11_isLetter_20, s_X11_isLetter_21, s_X11_isLetter_24, s_X11_isLetter_25, s_X11_isLetter_26, s_X11_isLetter_29, s_X11_isLetter_32, s_X11_isLetter_33, s_X11_isLetter_34, s_X11_isLetter_34b, s_X11_isLetter_35, s_X11_isLetter_38, s_X11_isLetter_39, s_X11_isLetter_40, s_X11_isLetter_43, s_X11_isLetter_44, cls_90, fv_90_0, fv_90_1, fv_90_2, fv_90_3, fv_90_4, fv_90_5, fv_90_6, fv_90_7, fv_90_8, fv_90_9, fv_90_10, fv_90_11, fv_90_12, fv_90_13, fv_90_14, fv_90_15, fv_90_16, fv_90_17, fv_90_18, fv_90_19, fv_90_20, fv_90_21, fv_90_22, fv_90_23, fv_90_24, fv_90_25, ak_91, al_91, ak_92, al_92, ak_93, al_93, ak_94, al_94, ak_95, al_95, ak_96, al_96, ak_97, al_97, ak_98, al_98, ak_99, al_99, ak_100, al_100, rf_100, ak_101, al_101, ak_102, al_102, ak_103, al_103, ak_104, al_104, ak_105, al_105, ak_106, al_106, tn_add, tn_mul, iI_long, jJ_int, h3, h4, h5, k_X11_isFault (show _ ≤ D by omega), leT (show (qN Q s : Int) ≤ p by omega), iI_add, iI_sub, iI_mul, iI_neg, iI_lt, iI_le, iI_eq, iI_toInt, tn_n, tn_1, inb_I, Int.reduceEq, Int.reduceLT, Int.reduceLE, Int.reduceAdd, Int.reduceSub, Int.reduceMul, Int.reduceNeg, Int.reduceToNat, Nat.reduceAdd, Nat.reduceMul, Int.reduceNatCast, reduceCtorEq, Int.cast_ofNat_Int, bi_tr, bi_fa, bi_0, bi_1, not_true_eq_false, not_false_eq_true, rnk_v, rnk_n, ↓reduceIte, i00, i11, ibi, or_true, true_or, and_true, true_and, List.cons_append, List.nil_append, Option.toList, nop]
/-- which words go on -/
def hitW (mk : Nat) (x : Int) (j i : Nat) : Bool := mk.testBit i && decide (txc (130 + i) j = x)
theorem hit_63 : ∀ w, w < 7 → bts (fun i => decide (w = i)) 6 = if w = 6 then 0 else 2 ^ w := by decide
theorem wd_tx {x : Int} {i : Nat} (hi : i < 6) : (txc (130 + i) 0 = x) ↔ wd x = i := by
  have e0 : txc 130 0 = 100 := rfl
  have e1 : txc 131 0 = 116 := rfl
  have e2 : txc 132 0 = 99 := rfl
  have e3 : txc 133 0 = 115 := rfl
  have e4 : txc 134 0 = 111 := rfl
  have e5 : txc 135 0 = 112 := rfl
  have hc : i = 0 ∨ i = 1 ∨ i = 2 ∨ i = 3 ∨ i = 4 ∨ i = 5 := by omega
  unfold wd
  rcases hc with rfl | rfl | rfl | rfl | rfl | rfl <;>
  · simp only [Nat.reduceAdd, Nat.add_zero, e0, e1, e2, e3, e4, e5]
    constructor
    · rintro rfl; rfl
    · intro h
      (repeat' split at h) <;> omega
theorem hitW_63 (x : Int) : bts (hitW 63 x 0) 6 = if wd x = 6 then 0 else 2 ^ wd x := by
  rw [← hit_63 (wd x) (by have := wd_le x; omega)]
  apply bts_cong
  intro i hi
  unfold hitW
  have e : (63 : Nat).testBit i = true := by revert i; decide
  rw [e, Bool.true_and]
  exact decide_eq_decide.mpr (wd_tx hi)
theorem hitW_1 {k : Nat} (hk : k < 6) (x : Int) (j : Nat) : bts (hitW (2 ^ k) x j) 6 = if txc (130 + k) j = x then 2 ^ k else 0 := by
  by_cases q : txc (130 + k) j = x
  · rw [if_pos q]
    have e : bts (hitW (2 ^ k) x j) 6 = bts (fun i => decide (k = i)) 6 := by
      apply bts_cong
      intro i hi
      unfold hitW
      rw [Nat.testBit_two_pow]
      by_cases y : k = i
      · subst y; simp [q]
      · simp [y]
    rw [e, hit_63 k (by omega), if_neg (by omega)]
  · rw [if_neg q]
    have e : bts (hitW (2 ^ k) x j) 6 = bts (fun i => decide (6 = i)) 6 := by
      apply bts_cong
      intro i hi
      unfold hitW
      rw [Nat.testBit_two_pow]
      by_cases y : k = i
      · subst y; simp [q]; omega
      · simp [y]; omega
    rw [e, hit_63 6 (by omega), if_pos rfl]
theorem l_scan {D : Nat} (hD : 6 ≤ D) {M : tM} {Q : tQ} {s p j mk : Nat} (h : RdR M Q s (p + j)) (hs : s < 8) (hn : qN Q s ≤ 160) (hp : p + j < qN Q s) (hm : mk < 64) (hj : ∀ i, i < 6 → mk.testBit i = true → j < txl (130 + i)) (x5 : Option Value) : ∃ x5', rn (exF D) C_X11_word 29 [some (.ref 90), some (.int (iI mk)), some (.int (iI p)), some (.int (iI 0)), some (.int (iI 0)), x5] [] M = rn (exF D) C_X11_word 98 [some (.ref 90), some (.int (iI mk)), some (.int (iI p)), some (.int (iI (bts (hitW mk (lt (qI Q s) (qN Q s) (p + j)) j) 6))), some (.int (iI 6)), x5'] [] M := by
  have h3 := h.2.2
  have hl := k_X11_letter (D := D) (by omega) h hs hn hp
  have hr := lt_rng (fun i => qI_rng Q s i) (qN Q s) (p + j)
  generalize lt (qI Q s) (qN Q s) (p + j) = x at *
  obtain ⟨x5', e, -⟩ := lp (f := fun i (x5 : Option Value) => rn (exF D) C_X11_word 29 [some (.ref 90), some (.int (iI mk)), some (.int (iI p)), some (.int (iI (bts (hitW mk x j) i))), some (.int (iI i)), x5] [] M) (P := fun _ _ => True) (n := 6) (by
    rintro i y5 hi -
    have hb := bit_sh (n := mk) (t := i) (by omega) (by omega)
    have hlt := bts_lt (hitW mk x j) i
    have h2i : 2 ^ i ≤ 2 ^ 6 := Nat.pow_le_pow_right (by omega) (by omega)
    have ej : ((p + j : Nat) : Int) - (p : Int) = (j : Int) := by omega
    by_cases q1 : mk.testBit i = true
    · rw [if_pos q1] at hb
      have hc := ca_300 (D := D) (by omega) (M := M) hi (hj i hi q1)
      have hcl := cls_tx hi
      have hcr := (tx_rng i hi).2 j (by have := (tx_rng i hi).1; have := hj i hi q1; omega) (hj i hi q1)
      by_cases q2 : txc (130 + i) j = x
      · refine ⟨some (.int (iI 1)), ?_, trivial⟩
        have e : bts (hitW mk x j) (i + 1) = bts (hitW mk x j) i ||| 2 ^ i := (bts_next (by unfold hitW; rw [q1, Bool.true_and]; exact decide_eq_true q2)).symm
        intro X hX
        show rn _ _ _ _ _ _ = X
        rw [e] at hX
        rw [s_X11_word_29]
        simp (maxSteps := 4000000) (disch := omega) only [s_X11_word_31, s_X11_word_33, s_X11_word_36, s_X11_word_37, s_X11_word_39, s_X11_word_40, s_X11_word_41, s_X11_word_42, s_X11_word_43, s_X11_word_46, s_X11_word_47, s_X11_word_50, s_X11_word_52, s_X11_word_53, s_X11_word_54, s_X11_word_57, s_X11_word_58, s_X11_word_59, s_X11_word_62, s_X11_word_63, s_X11_word_66, s_X11_word_69, s_X11_word_70, s_X11_word_73, s_X11_word_74, s_X11_word_76, s_X11_word_77, s_X11_word_79, s_X11_word_82, s_X11_word_83, s_X11_word_85, s_X11_word_86, s_X11_word_89, s_X11_word_90, s_X11_word_91, s_X11_word_92, s_X11_word_95, cls_90, fv_90_0, fv_90_1, fv_90_2, fv_90_3, fv_90_4, fv_90_5, fv_90_6, fv_90_7, fv_90_8, fv_90_9, fv_90_10, fv_90_11, fv_90_12, fv_90_13, fv_90_14, fv_90_15, fv_90_16, fv_90_17, fv_90_18, fv_90_19, fv_90_20, fv_90_21, fv_90_22, fv_90_23, fv_90_24, fv_90_25, ak_91, al_91, ak_92, al_92, ak_93, al_93, ak_94, al_94, ak_95, al_95, ak_96, al_96, ak_97, al_97, ak_98, al_98, ak_99, al_99, ak_100, al_100, rf_100, ak_101, al_101, ak_102, al_102, ak_103, al_103, ak_104, al_104, ak_105, al_105, ak_106, al_106, tn_add, tn_mul, iI_long, jJ_int, hb, h3, hl, hc, hcl, ej, eqT q2, iI_shl1 (show i < 31 by omega), iI_or, leF (show (i : Int) < 6 by omega), iI_add, iI_sub, iI_mul, iI_neg, iI_lt, iI_le, iI_eq, iI_toInt, tn_n, tn_1, inb_I, Int.reduceEq, Int.reduceLT, Int.reduceLE, Int.reduceAdd, Int.reduceSub, Int.reduceMul, Int.reduceNeg, Int.reduceToNat, Nat.reduceAdd, Nat.reduceMul, Int.reduceNatCast, reduceCtorEq, Int.cast_ofNat_Int, bi_tr, bi_fa, bi_0, bi_1, not_true_eq_false, not_false_eq_true, rnk_v, rnk_n, ↓reduceIte, i00, i11, ibi, or_true, true_or, and_true, true_and, List.cons_append, List.nil_append, Option.toList, nop]
        exact hX
      · refine ⟨some (.int (iI 0)), ?_, trivial⟩
        have e : bts (hitW mk x j) i = bts (hitW mk x j) (i + 1) := bts_skip (by unfold hitW; rw [decide_eq_false q2, Bool.and_false])
        have e0 : iI (bts (hitW mk x j) i) ||| iI 0 = iI (bts (hitW mk x j) i) := by
          have := iI_or (bts (hitW mk x j) i) 0
          rw [Nat.or_zero] at this
          exact this
        intro X hX
        show rn _ _ _ _ _ _ = X
        rw [← e] at hX
        rw [s_X11_word_29]
        simp (maxSteps := 4000000) (disch := omega) only [s_X11_word_31, s_X11_word_33, s_X11_word_36, s_X11_word_37, s_X11_word_39, s_X11_word_40, s_X11_word_41, s_X11_word_42, s_X11_word_43, s_X11_word_46, s_X11_word_47, s_X11_word_50, s_X11_word_52, s_X11_word_53, s_X11_word_54, s_X11_word_57, s_X11_word_58, s_X11_word_59, s_X11_word_62, s_X11_word_63, s_X11_word_66, s_X11_word_69, s_X11_word_70, s_X11_word_73, s_X11_word_74, s_X11_word_76, s_X11_word_77, s_X11_word_79, s_X11_word_82, s_X11_word_83, s_X11_word_85, s_X11_word_86, s_X11_word_89, s_X11_word_90, s_X11_word_91, s_X11_word_92, s_X11_word_95, cls_90, fv_90_0, fv_90_1, fv_90_2, fv_90_3, fv_90_4, fv_90_5, fv_90_6, fv_90_7, fv_90_8, fv_90_9, fv_90_10, fv_90_11, fv_90_12, fv_90_13, fv_90_14, fv_90_15, fv_90_16, fv_90_17, fv_90_18, fv_90_19, fv_90_20, fv_90_21, fv_90_22, fv_90_23, fv_90_24, fv_90_25, ak_91, al_91, ak_92, al_92, ak_93, al_93, ak_94, al_94, ak_95, al_95, ak_96, al_96, ak_97, al_97, ak_98, al_98, ak_99, al_99, ak_100, al_100, rf_100, ak_101, al_101, ak_102, al_102, ak_103, al_103, ak_104, al_104, ak_105, al_105, ak_106, al_106, tn_add, tn_mul, iI_long, jJ_int, hb, h3, hl, hc, hcl, ej, eqF q2, e0, leF (show (i : Int) < 6 by omega), iI_add, iI_sub, iI_mul, iI_neg, iI_lt, iI_le, iI_eq, iI_toInt, tn_n, tn_1, inb_I, Int.reduceEq, Int.reduceLT, Int.reduceLE, Int.reduceAdd, Int.reduceSub, Int.reduceMul, Int.reduceNeg, Int.reduceToNat, Nat.reduceAdd, Nat.reduceMul, Int.reduceNatCast, reduceCtorEq, Int.cast_ofNat_Int, bi_tr, bi_fa, bi_0, bi_1, not_true_eq_false, not_false_eq_true, rnk_v, rnk_n, ↓reduceIte, i00, i11, ibi, or_true, true_or, and_true, true_and, List.cons_append, List.nil_append, Option.toList, nop]
        exact hX
    · rw [if_neg q1] at hb
      refine ⟨some (.int (iI 0)), ?_, trivial⟩
      have e : bts (hitW mk x j) i = bts (hitW mk x j) (i + 1) := bts_skip (by unfold hitW; simp [q1])
      have e0 : iI (bts (hitW mk x j) i) ||| iI 0 = iI (bts (hitW mk x j) i) := by
        have := iI_or (bts (hitW mk x j) i) 0
        rw [Nat.or_zero] at this
        exact this
      intro X hX
      show rn _ _ _ _ _ _ = X
      rw [← e] at hX
      rw [s_X11_word_29]
      simp (maxSteps := 4000000) (disch := omega) only [s_X11_word_31, s_X11_word_33, s_X11_word_36, s_X11_word_37, s_X11_word_39, s_X11_word_40, s_X11_word_41, s_X11_word_42, s_X11_word_43, s_X11_word_46, s_X11_word_47, s_X11_word_50, s_X11_word_52, s_X11_word_53, s_X11_word_54, s_X11_word_57, s_X11_word_58, s_X11_word_59, s_X11_word_62, s_X11_word_63, s_X11_word_66, s_X11_word_69, s_X11_word_70, s_X11_word_73, s_X11_word_74, s_X11_word_76, s_X11_word_77, s_X11_word_79, s_X11_word_82, s_X11_word_83, s_X11_word_85, s_X11_word_86, s_X11_word_89, s_X11_word_90, s_X11_word_91, s_X11_word_92, s_X11_word_95, hb, e0, leF (show (i : Int) < 6 by omega), iI_add, iI_sub, iI_mul, iI_neg, iI_lt, iI_le, iI_eq, iI_toInt, tn_n, tn_1, inb_I, Int.reduceEq, Int.reduceLT, Int.reduceLE, Int.reduceAdd, Int.reduceSub, Int.reduceMul, Int.reduceNeg, Int.reduceToNat, Nat.reduceAdd, Nat.reduceMul, Int.reduceNatCast, reduceCtorEq, Int.cast_ofNat_Int, bi_tr, bi_fa, bi_0, bi_1, not_true_eq_false, not_false_eq_true, rnk_v, rnk_n, ↓reduceIte, i00, i11, ibi, or_true, true_or, and_true, true_and, List.cons_append, List.nil_append, Option.toList, nop]
      exact hX) (Nat.zero_le _) (a := x5) trivial
  refine ⟨x5', ?_⟩
  refine Eq.trans e ?_
  show rn _ _ 29 [_, _, _, some (.int (iI (bts (hitW mk x j) 6))), some (.int (iI 6)), _] _ _ = _
  generalize bts (hitW mk x j) 6 = r
  simp (maxSteps := 4000000) (disch := omega) only [s_X11_word_29, s_X11_word_31, s_X11_word_33, iI_add, iI_sub, iI_mul, iI_neg, iI_lt, iI_le, iI_eq, iI_toInt, tn_n, tn_1, inb_I, Int.reduceEq, Int.reduceLT, Int.reduceLE, Int.reduceAdd, Int.reduceSub, Int.reduceMul, Int.reduceNeg, Int.reduceToNat, Nat.reduceAdd, Nat.reduceMul, Int.reduceNatCast, reduceCtorEq, Int.cast_ofNat_Int, bi_tr, bi_fa, bi_0, bi_1, not_true_eq_false, not_false_eq_true, rnk_v, rnk_n, ↓reduceIte, i00, i11, ibi, or_true, true_or, and_true, true_and, List.cons_append, List.nil_append, Option.toList, nop]
theorem l_full {D : Nat} (hD : 6 ≤ D) {M : tM} {k j p : Nat} {r : Int32} {x5 : Option Value} (hk : k < 6) (h12 : M.1 90 12 = iI (p + j : Nat)) (hp : p + j ≤ 1000) : (j = txl (130 + k) → rn (exF D) C_X11_word 120 [some (.ref 90), some (.int (iI (2 ^ k : Nat))), some (.int (iI p)), some (.int r), some (.int (iI 0)), x5] [] M = some (some (.int (iI k)), M)) ∧ (j ≠ txl (130 + k) → rn (exF D) C_X11_word 120 [some (.ref 90), some (.int (iI (2 ^ k : Nat))), some (.int (iI p)), some (.int r), some (.int (iI 0)), x5] [] M = rn (exF D) C_X11_word 8 [some (.ref 90), some (.int (iI (2 ^ k : Nat))), some (.int (iI p)), some (.int r), some (.int (iI 6)), x5] [] M) := by
  have ej : ((p + j : Nat) : Int) - (p : Int) = (j : Int) := by omega
  have hcl := cls_tx hk
  have hlen := ca_301 (D := D) (by omega) (M := M) hk
  have ht := (tx_rng k hk).1
  have h2k : 2 ^ k ≤ 2 ^ 6 := Nat.pow_le_pow_right (by omega) (by omega)
  have step : ∀ i, i < 6 → i ≠ k → ∀ X, rn (exF D) C_X11_word 120 [some (.ref 90), some (.int (iI (2 ^ k : Nat))), some (.int (iI p)), some (.int r), some (.int (iI (i + 1 : Nat))), x5] [] M = X → rn (exF D) C_X11_word 120 [some (.ref 90), some (.int (iI (2 ^ k : Nat))), some (.int (iI p)), some (.int r), some (.int (iI i)), x5] [] M = X := by
    intro i hi hne X hX
    have h2i : 2 ^ i ≤ 2 ^ 6 := Nat.pow_le_pow_right (by omega) (by omega)
    have hq : ¬ ((2 ^ k : Nat) : Int) = ((2 ^ i : Nat) : Int) := by
      intro y
      have y2 : 2 ^ k = 2 ^ i := by omega
      rcases Nat.lt_or_gt_of_ne hne with z | z
      · have := Nat.pow_lt_pow_right (show 1 < 2 by omega) z; omega
      · have := Nat.pow_lt_pow_right (show 1 < 2 by omega) z; omega
    rw [s_X11_word_120]
    have hsh := iI_shl1 (show i < 31 by omega)
    clear hcl hlen
    generalize 2 ^ k = a at *
    generalize 2 ^ i = b at *
    simp (maxSteps := 4000000) (disch := omega) only [s_X11_word_122, s_X11_word_124, s_X11_word_127, s_X11_word_128, s_X11_word_129, s_X11_word_131, s_X11_word_132, s_X11_word_135, s_X11_word_136, s_X11_word_139, s_X11_word_141, s_X11_word_142, s_X11_word_145, s_X11_word_146, s_X11_word_149, s_X11_word_150, s_X11_word_151, s_X11_word_154, s_X11_word_156, s_X11_word_157, s_X11_word_160, hsh, eqF hq, leF (show (i : Int) < 6 by omega), iI_add, iI_sub, iI_mul, iI_neg, iI_lt, iI_le, iI_eq, iI_toInt, tn_n, tn_1, inb_I, Int.reduceEq, Int.reduceLT, Int.reduceLE, Int.reduceAdd, Int.reduceSub, Int.reduceMul, Int.reduceNeg, Int.reduceToNat, Nat.reduceAdd, Nat.reduceMul, Int.reduceNatCast, reduceCtorEq, Int.cast_ofNat_Int, bi_tr, bi_fa, bi_0, bi_1, not_true_eq_false, not_false_eq_true, rnk_v, rnk_n, ↓reduceIte, i00, i11, ibi, or_true, true_or, and_true, true_and, List.cons_append, List.nil_append, Option.toList, nop]
    exact hX
  have low : rn (exF D) C_X11_word 120 [some (.ref 90), some (.int (iI (2 ^ k : Nat))), some (.int (iI p)), some (.int r), some (.int (iI 0)), x5] [] M = rn (exF D) C_X11_word 120 [some (.ref 90), some (.int (iI (2 ^ k : Nat))), some (.int (iI p)), some (.int r), some (.int (iI k)), x5] [] M :=
    lq (f := fun i => rn (exF D) C_X11_word 120 [some (.ref 90), some (.int (iI (2 ^ k : Nat))), some (.int (iI p)), some (.int r), some (.int (iI i)), x5] [] M) (n := k) (fun i hi X hX => step i (by omega) (by omega) X hX)
  rw [low]
  constructor
  · intro e
    have e' : (txl (130 + k) : Int) = j := by omega
    generalize txl (130 + k) = t at *
    generalize hu : 2 ^ k = u at *
    have hsh := iI_shl1 (show k < 31 by omega)
    rw [hu] at hsh
    simp (maxSteps := 4000000) (disch := omega) only [s_X11_word_120, s_X11_word_122, s_X11_word_124, s_X11_word_127, s_X11_word_128, s_X11_word_129, s_X11_word_131, s_X11_word_132, s_X11_word_135, s_X11_word_136, s_X11_word_139, s_X11_word_141, s_X11_word_142, s_X11_word_145, s_X11_word_146, s_X11_word_149, s_X11_word_150, s_X11_word_151, s_X11_word_154, s_X11_word_156, cls_90, fv_90_0, fv_90_1, fv_90_2, fv_90_3, fv_90_4, fv_90_5, fv_90_6, fv_90_7, fv_90_8, fv_90_9, fv_90_10, fv_90_11, fv_90_12, fv_90_13, fv_90_14, fv_90_15, fv_90_16, fv_90_17, fv_90_18, fv_90_19, fv_90_20, fv_90_21, fv_90_22, fv_90_23, fv_90_24, fv_90_25, ak_91, al_91, ak_92, al_92, ak_93, al_93, ak_94, al_94, ak_95, al_95, ak_96, al_96, ak_97, al_97, ak_98, al_98, ak_99, al_99, ak_100, al_100, rf_100, ak_101, al_101, ak_102, al_102, ak_103, al_103, ak_104, al_104, ak_105, al_105, ak_106, al_106, tn_add, tn_mul, iI_long, jJ_int, hsh, hcl, hlen, h12, ej, eqT e', leF (show (k : Int) < 6 by omega), iI_add, iI_sub, iI_mul, iI_neg, iI_lt, iI_le, iI_eq, iI_toInt, tn_n, tn_1, inb_I, Int.reduceEq, Int.reduceLT, Int.reduceLE, Int.reduceAdd, Int.reduceSub, Int.reduceMul, Int.reduceNeg, Int.reduceToNat, Nat.reduceAdd, Nat.reduceMul, Int.reduceNatCast, reduceCtorEq, Int.cast_ofNat_Int, bi_tr, bi_fa, bi_0, bi_1, not_true_eq_false, not_false_eq_true, rnk_v, rnk_n, ↓reduceIte, i00, i11, ibi, or_true, true_or, and_true, true_and, List.cons_append, List.nil_append, Option.toList, nop]
  · intro e
    have e' : ¬ (txl (130 + k) : Int) = j := by omega
    obtain ⟨m, hm⟩ : ∃ m, k + 1 + m = 6 := ⟨5 - k, by omega⟩
    have up : ∀ m, k + 1 + m ≤ 6 → rn (exF D) C_X11_word 120 [some (.ref 90), some (.int (iI (2 ^ k : Nat))), some (.int (iI p)), some (.int r), some (.int (iI (k + 1 : Nat))), x5] [] M = rn (exF D) C_X11_word 120 [some (.ref 90), some (.int (iI (2 ^ k : Nat))), some (.int (iI p)), some (.int r), some (.int (iI (k + 1 + m : Nat))), x5] [] M := by
      intro m
      induction m with
      | zero => intro _; rfl
      | succ m ih =>
        intro hm
        rw [ih (by omega)]
        exact step (k + 1 + m) (by omega) (by omega) _ rfl
    have up6 := up m (by omega)
    rw [hm] at up6
    have fin : rn (exF D) C_X11_word 120 [some (.ref 90), some (.int (iI (2 ^ k : Nat))), some (.int (iI p)), some (.int r), some (.int (iI (6 : Nat))), x5] [] M = rn (exF D) C_X11_word 8 [some (.ref 90), some (.int (iI (2 ^ k : Nat))), some (.int (iI p)), some (.int r), some (.int (iI 6)), x5] [] M := by
      generalize 2 ^ k = u at *
      simp (maxSteps := 4000000) (disch := omega) only [s_X11_word_120, s_X11_word_122, s_X11_word_124, s_X11_word_0, s_X11_word_2, s_X11_word_3, s_X11_word_4, s_X11_word_7, s_X11_word_8, s_X11_word_9, s_X11_word_12, s_X11_word_13, s_X11_word_16, s_X11_word_17, s_X11_word_20, s_X11_word_21, s_X11_word_24, s_X11_word_25, s_X11_word_26, s_X11_word_27, s_X11_word_29, s_X11_word_31, s_X11_word_33, s_X11_word_36, s_X11_word_37, s_X11_word_39, s_X11_word_40, s_X11_word_41, s_X11_word_42, s_X11_word_43, s_X11_word_46, s_X11_word_47, s_X11_word_50, s_X11_word_52, s_X11_word_53, s_X11_word_54, s_X11_word_57, s_X11_word_58, s_X11_word_59, s_X11_word_62, s_X11_word_63, s_X11_word_66, s_X11_word_69, s_X11_word_70, s_X11_word_73, s_X11_word_74, s_X11_word_76, s_X11_word_77, s_X11_word_79, s_X11_word_82, s_X11_word_83, s_X11_word_85, s_X11_word_86, s_X11_word_89, s_X11_word_90, s_X11_word_91, s_X11_word_92, s_X11_word_95, s_X11_word_98, s_X11_word_99, s_X11_word_102, s_X11_word_105, s_X11_word_106, s_X11_word_107, s_X11_word_108, s_X11_word_108b, s_X11_word_109, s_X11_word_112, s_X11_word_113, s_X11_word_114, s_X11_word_117, s_X11_word_118, s_X11_word_120, s_X11_word_122, s_X11_word_124, s_X11_word_127, s_X11_word_128, s_X11_word_129, s_X11_word_131, s_X11_word_132, s_X11_word_135, s_X11_word_136, s_X11_word_139, s_X11_word_141, s_X11_word_142, s_X11_word_145, s_X11_word_146, s_X11_word_149, s_X11_word_150, s_X11_word_151, s_X11_word_154, s_X11_word_156, s_X11_word_157, s_X11_word_160, s_X11_word_163, s_X11_word_166, s_X11_word_167, s_X11_word_168, s_X11_word_171, s_X11_word_174, s_X11_word_175, s_X11_word_176, iI_add, iI_sub, iI_mul, iI_neg, iI_lt, iI_le, iI_eq, iI_toInt, tn_n, tn_1, inb_I, Int.reduceEq, Int.reduceLT, Int.reduceLE, Int.reduceAdd, Int.reduceSub, Int.reduceMul, Int.reduceNeg, Int.reduceToNat, Nat.reduceAdd, Nat.reduceMul, Int.reduceNatCast, reduceCtorEq, Int.cast_ofNat_Int, bi_tr, bi_fa, bi_0, bi_1, not_true_eq_false, not_false_eq_true, rnk_v, rnk_n, ↓reduceIte, i00, i11, ibi, or_true, true_or, and_true, true_and, List.cons_append, List.nil_append, Option.toList, nop]
    refine Eq.trans ?_ (up6.trans fin)
    clear up6 up fin low step
    generalize txl (130 + k) = t at *
    generalize hu : 2 ^ k = u at *
    have hsh := iI_shl1 (show k < 31 by omega)
    rw [hu] at hsh
    rw [s_X11_word_120]
    simp (maxSteps := 4000000) (disch := omega) only [s_X11_word_122, s_X11_word_124, s_X11_word_127, s_X11_word_128, s_X11_word_129, s_X11_word_131, s_X11_word_132, s_X11_word_135, s_X11_word_136, s_X11_word_139, s_X11_word_141, s_X11_word_142, s_X11_word_145, s_X11_word_146, s_X11_word_149, s_X11_word_150, s_X11_word_151, s_X11_word_154, s_X11_word_156, s_X11_word_157, s_X11_word_160, cls_90, fv_90_0, fv_90_1, fv_90_2, fv_90_3, fv_90_4, fv_90_5, fv_90_6, fv_90_7, fv_90_8, fv_90_9, fv_90_10, fv_90_11, fv_90_12, fv_90_13, fv_90_14, fv_90_15, fv_90_16, fv_90_17, fv_90_18, fv_90_19, fv_90_20, fv_90_21, fv_90_22, fv_90_23, fv_90_24, fv_90_25, ak_91, al_91, ak_92, al_92, ak_93, al_93, ak_94, al_94, ak_95, al_95, ak_96, al_96, ak_97, al_97, ak_98, al_98, ak_99, al_99, ak_100, al_100, rf_100, ak_101, al_101, ak_102, al_102, ak_103, al_103, ak_104, al_104, ak_105, al_105, ak_106, al_106, tn_add, tn_mul, iI_long, jJ_int, hsh, hcl, hlen, h12, ej, eqF e', leF (show (k : Int) < 6 by omega), iI_add, iI_sub, iI_mul, iI_neg, iI_lt, iI_le, iI_eq, iI_toInt, tn_n, tn_1, inb_I, Int.reduceEq, Int.reduceLT, Int.reduceLE, Int.reduceAdd, Int.reduceSub, Int.reduceMul, Int.reduceNeg, Int.reduceToNat, Nat.reduceAdd, Nat.reduceMul, Int.reduceNatCast, reduceCtorEq, Int.cast_ofNat_Int, bi_tr, bi_fa, bi_0, bi_1, not_true_eq_false, not_false_eq_true, rnk_v, rnk_n, ↓reduceIte, i00, i11, ibi, or_true, true_or, and_true, true_and, List.cons_append, List.nil_append, Option.toList, nop]
    try rfl
