/-! act -/
theorem RelC_T {S : tS} {M M' : tM} {n : Nat} {t : Nat → Int} (h : RelC S M) (hs : Sm [86, 87] M M') (e1 : M'.1 86 1 = iI n) (e2 : ∀ i, i < 20 → i < n → M'.1 87 i = iI (t i)) : RelC (upT S n t) M' := by
  have hn : ∀ a, a ≠ 86 → a ≠ 87 → a ∉ [86, 87] := fun a p q r => by simp at r; omega
  obtain ⟨h1, h2, h3, h4, h5, h6, h7, h8, h9⟩ := h
  refine ⟨Rep_eq h1 fun i hi => (hs _ (hn _ (by omega) (by omega))).1, Rep_eq h2 fun i hi => (hs _ (hn _ (by omega) (by omega))).1, ?_, ?_, ?_, ?_, e1, e2, ?_⟩
  · intro s h8
    rw [(hs 31 (hn _ (by omega) (by omega))).1, (hs 32 (hn _ (by omega) (by omega))).1, (hs (34 + s) (hn _ (by omega) (by omega))).2]
    exact h3 s h8
  · rw [(hs 89 (hn _ (by omega) (by omega))).1]; exact h4
  · rw [(hs 88 (hn _ (by omega) (by omega))).1]; exact h5
  · rw [(hs 88 (hn _ (by omega) (by omega))).1]; exact h6
  · rw [(hs 120 (hn _ (by omega) (by omega))).1]; exact h9
theorem RelR_T {S : tS} {M M' : tM} {n : Nat} {t : Nat → Int} (h : RelR S M) (hs : Sm [90, 106] M M') (f1 : M'.1 90 4 = M.1 90 4) (f2 : M'.1 90 13 = M.1 90 13) (e1 : M'.1 90 22 = iI n) (e2 : ∀ i, i < 20 → i < n → M'.1 106 i = iI (t i)) : RelR (upT S n t) M' := by
  have hn : ∀ a, a ≠ 90 → a ≠ 106 → a ∉ [90, 106] := fun a p q r => by simp at r; omega
  obtain ⟨h1, h2, h3, h4, h5, h6, h7, h8, h9⟩ := h
  refine ⟨RepN_eq h1 (hs _ (hn _ (by omega) (by omega))).1, fun q => RepN_eq (h2 q) (hs _ (hn _ (by omega) (by omega))).1, ?_, ?_, ?_, ?_, e1, e2, ?_⟩
  · intro s h8
    rw [(hs 95 (hn _ (by omega) (by omega))).1, (hs 96 (hn _ (by omega) (by omega))).1, (hs 97 (hn _ (by omega) (by omega))).2]
    exact h3 s h8
  · rw [(hs 91 (hn _ (by omega) (by omega))).1]; exact h4
  · rw [f1]; exact h5
  · rw [f2]; exact h6
  · rw [(hs 99 (hn _ (by omega) (by omega))).1]; exact h9
def acV (m k : Int32) (own : Nat) (mv : Int) (x : Int32) : Int32 := if mv = 0 then hsV m k own x else if mv = 1 then laV m k own own x else siV m k own own x
def acT (own : Nat) (mv : Int) : List Int := if mv = 0 then hsT own else if mv = 1 then laT own own else siT own own
theorem acT_len (own : Nat) (mv : Int) : (acT own mv).length ≤ 11 := by
  have := hsT_len own
  have := laT_len own own
  have := siT_len own own
  unfold acT; (repeat' split) <;> omega
def p_act (S : tS) (c mv : Int) (x : Int) : Int × tS :=
  if ¬ ((0 ≤ c ∧ c < (kC (stK S) : Int)) ∧ 0 ≤ mv ∧ mv ≤ 2) then (0, upT S 0 (stT S))
  else ((acV (iI c) (iI (kA (stK S) c.toNat)) (kK (stK S) c.toNat) mv (iI x)).toInt, upT S (app (0, stT S) (acT (kK (stK S) c.toNat) mv)).1 (app (0, stT S) (acT (kK (stK S) c.toNat) mv)).2)
theorem c_act {D : Nat} (hD : 18 ≤ D) {M : tM} {S : tS} (hC : RelC S M) (hI : sInv S) {c mv x : Int} (gc : -2147483648 ≤ c ∧ c ≤ 2147483647) (gmv : -2147483648 ≤ mv ∧ mv ≤ 2147483647) : okC D m_X10_act [.ref 88, .int (iI c), .int (iI mv), .int (iI x)] M (p_act S c mv x) := by
  obtain ⟨D, rfl⟩ : ∃ D0, D = D0 + 2 := ⟨D - 2, by omega⟩
  obtain ⟨c1, c2, c3, c4, c5, c6, c7, c8, c9⟩ := id hC; obtain ⟨i1, i2, i3, i4, i5, i6, i7⟩ := id hI; have n0 := kI_n i1; obtain ⟨r1, r2, r3, r4, r5, r6⟩ := R0_n c1
  unfold p_act
  have s0 : Sm [86, 87] M (sI M 86 1 (iI 0)) := Sm_sI (by simp)
  have d1 : RelC (upT S 0 (stT S)) (sI M 86 1 (iI 0)) := RelC_T hC s0 (sI_s _ _ _ _) (fun i _ hi => absurd hi (by omega))
  have d0 : Rep (sI M 86 1 (iI 0)) 0 (stK S) := d1.1
  have d2 := k_X4_hasCapsule (D := D + 1) (by omega) h0 d0 i1 c (by omega) (by omega)
  by_cases e1 : 0 ≤ c ∧ c < (kC (stK S) : Int)
  rotate_left
  · rw [if_pos (fun q => e1 q.1)]
    rw [bi_f e1] at d2
    refine ⟨sI M 86 1 (iI 0), ?_, d1, SmC_of s0 (by simp)⟩
    simp (maxSteps := 4000000) (disch := omega) only [en_X10_act, s_X10_act_0, s_X10_act_1, s_X10_act_4, s_X10_act_7, s_X10_act_8, s_X10_act_11, s_X10_act_12, s_X10_act_15, s_X10_act_18, s_X10_act_19, s_X10_act_20, s_X10_act_21, s_X10_act_24, s_X10_act_25, s_X10_act_28, s_X10_act_31, s_X10_act_32, s_X10_act_33, s_X10_act_34, s_X10_act_35, s_X10_act_38, s_X10_act_41, s_X10_act_42, s_X10_act_43, s_X10_act_44, s_X10_act_45, s_X10_act_48, en_X5_forget, s_X5_forget_0, s_X5_forget_1, s_X5_forget_2, s_X5_forget_5, cls_86, fv_86_0, fv_86_1, fv_86_2, fv_86_3, fv_86_4, cls_88, fv_88_0, fv_88_1, fv_88_2, fv_88_3, fv_88_4, fv_88_5, fv_88_6, fv_88_7, fv_88_8, fv_88_9, fv_88_10, fv_88_11, fv_88_12, fv_88_13, fv_88_14, cls_0, fv_0_0, fv_0_1, fv_0_2, fv_0_3, fv_0_4, fv_0_5, fv_0_6, fv_0_7, fv_0_8, fv_0_9, fv_0_10, fv_0_11, fv_0_12, fv_0_13, fv_0_14, fv_0_15, d2, iI_add, iI_sub, iI_mul, iI_neg, iI_lt, iI_le, iI_eq, iI_toInt, tn_n, tn_1, inb_I, Int.reduceEq, Int.reduceLT, Int.reduceLE, Int.reduceAdd, Int.reduceSub, Int.reduceMul, Int.reduceNeg, Int.reduceToNat, Nat.reduceAdd, Nat.reduceMul, Int.reduceNatCast, reduceCtorEq, Int.cast_ofNat_Int, bi_tr, bi_fa, bi_0, bi_1, not_true_eq_false, not_false_eq_true, rnk_v, rnk_n, ↓reduceIte, i00, i11, ibi, or_true, true_or, and_true, true_and, List.cons_append, List.nil_append, Option.toList, nop]
  rw [bi_t e1] at d2
  obtain ⟨c, rfl⟩ : ∃ u : Nat, c = u := ⟨c.toNat, by omega⟩
  simp only [Int.toNat_natCast]
  have hc : c < kC (stK S) := by omega
  obtain ⟨f1, f2, f3, f4⟩ := R0_c d0 hc
  have g1 := kI_c i1 hc
  have s1 : Sm [86, 87] M (sI (sI (sI (sI M 86 1 (iI 0)) 86 2 (iI (kK (stK S) c))) 86 3 (iI c)) 86 4 (iI (kA (stK S) c))) := Sm_tr s0 (Sm_tr (Sm_tr (Sm_sI (by simp)) (Sm_sI (by simp))) (Sm_sI (by simp)))
  by_cases e2 : 0 ≤ mv ∧ mv ≤ 2
  rotate_left
  · rw [if_pos (fun q => e2 q.2)]
    refine ⟨sI (sI (sI (sI M 86 1 (iI 0)) 86 2 (iI (kK (stK S) c))) 86 3 (iI c)) 86 4 (iI (kA (stK S) c)), ?_, RelC_T hC s1 (by simp (disch := omega) only [sI_s, sI_k]; rfl) (fun i _ hi => absurd hi (by omega)), SmC_of s1 (by simp)⟩
    simp (maxSteps := 4000000) (disch := omega) only [en_X10_act, s_X10_act_0, s_X10_act_1, s_X10_act_4, s_X10_act_7, s_X10_act_8, s_X10_act_11, s_X10_act_12, s_X10_act_15, s_X10_act_18, s_X10_act_19, s_X10_act_20, s_X10_act_21, s_X10_act_24, s_X10_act_25, s_X10_act_28, s_X10_act_31, s_X10_act_32, s_X10_act_33, s_X10_act_34, s_X10_act_35, s_X10_act_38, s_X10_act_41, s_X10_act_42, s_X10_act_43, s_X10_act_44, s_X10_act_45, s_X10_act_48, en_X5_forget, s_X5_forget_0, s_X5_forget_1, s_X5_forget_2, s_X5_forget_5, en_X5_run, s_X5_run_0, s_X5_run_1, s_X5_run_2, s_X5_run_5, s_X5_run_6, s_X5_run_7, s_X5_run_10, s_X5_run_11, s_X5_run_12, s_X5_run_15, s_X5_run_17, s_X5_run_44, s_X5_run_45, s_X5_run_46, s_X5_run_48, s_X5_run_51, s_X5_run_52, s_X5_run_53, s_X5_run_54, s_X5_run_56, s_X5_run_59, s_X5_run_60, s_X5_run_61, s_X5_run_62, s_X5_run_64, s_X5_run_67, s_X5_run_68, s_X5_run_69, cls_86, fv_86_0, fv_86_1, fv_86_2, fv_86_3, fv_86_4, cls_88, fv_88_0, fv_88_1, fv_88_2, fv_88_3, fv_88_4, fv_88_5, fv_88_6, fv_88_7, fv_88_8, fv_88_9, fv_88_10, fv_88_11, fv_88_12, fv_88_13, fv_88_14, cls_0, fv_0_0, fv_0_1, fv_0_2, fv_0_3, fv_0_4, fv_0_5, fv_0_6, fv_0_7, fv_0_8, fv_0_9, fv_0_10, fv_0_11, fv_0_12, fv_0_13, fv_0_14, fv_0_15, ak_1, al_1, ak_2, al_2, ak_3, al_3, ak_4, al_4, ak_5, al_5, ak_6, al_6, ak_7, al_7, ak_8, al_8, ak_9, al_9, d2, f1, f2, eqF, iI_add, iI_sub, iI_mul, iI_neg, iI_lt, iI_le, iI_eq, iI_toInt, tn_n, tn_1, inb_I, Int.reduceEq, Int.reduceLT, Int.reduceLE, Int.reduceAdd, Int.reduceSub, Int.reduceMul, Int.reduceNeg, Int.reduceToNat, Nat.reduceAdd, Nat.reduceMul, Int.reduceNatCast, reduceCtorEq, Int.cast_ofNat_Int, bi_tr, bi_fa, bi_0, bi_1, not_true_eq_false, not_false_eq_true, rnk_v, rnk_n, ↓reduceIte, i00, i11, ibi, or_true, true_or, and_true, true_and, List.cons_append, List.nil_append, Option.toList, nop]
  rw [if_neg (fun q => q ⟨e1, e2⟩)]
  have mc : MvC (sI (sI (sI (sI M 86 1 (iI 0)) 86 2 (iI (kK (stK S) c))) 86 3 (iI c)) 86 4 (iI (kA (stK S) c))) (0, stT S) (kK (stK S) c) (iI c) (iI (kA (stK S) c)) := by
    refine ⟨⟨?_, fun i _ hi => absurd hi (by simp)⟩, ⟨?_, ?_, ?_⟩, ?_⟩
    · simp (disch := omega) only [sI_s, sI_k]; rfl
    · simp (disch := omega) only [sI_s, sI_k]
    · simp (disch := omega) only [sI_s, sI_k]
    · simp (disch := omega) only [sI_s, sI_k]
    · simp (disch := omega) only [sI_a]; exact c9
  have fin : ∀ (M' : tM) (l : List Int), MvC M' (app (0, stT S) l) (kK (stK S) c) (iI c) (iI (kA (stK S) c)) → FrC (sI (sI (sI (sI M 86 1 (iI 0)) 86 2 (iI (kK (stK S) c))) 86 3 (iI c)) 86 4 (iI (kA (stK S) c))) M' → RelC (upT S (app (0, stT S) l).1 (app (0, stT S) l).2) M' ∧ SmC M M' := by
    intro M' l a1 a2
    have s2 := Sm_tr s1 a2.1
    exact ⟨RelC_T hC s2 a1.1.1 a1.1.2, SmC_of s2 (by simp)⟩
  have hm : mv = 0 ∨ mv = 1 ∨ mv = 2 := by omega
  rcases hm with rfl | rfl | rfl
  · obtain ⟨M', q1, q2, q3⟩ := vCh (D := D) (by omega) mc g1.1 g1.1 (by simp) (iI x)
    obtain ⟨p1, p2⟩ := fin M' _ q2 q3
    refine ⟨M', ?_, p1, p2⟩
    simp (maxSteps := 4000000) (disch := omega) only [en_X10_act, s_X10_act_0, s_X10_act_1, s_X10_act_4, s_X10_act_7, s_X10_act_8, s_X10_act_11, s_X10_act_12, s_X10_act_15, s_X10_act_18, s_X10_act_19, s_X10_act_20, s_X10_act_21, s_X10_act_24, s_X10_act_25, s_X10_act_28, s_X10_act_31, s_X10_act_32, s_X10_act_33, s_X10_act_34, s_X10_act_35, s_X10_act_38, s_X10_act_41, s_X10_act_42, s_X10_act_43, s_X10_act_44, s_X10_act_45, s_X10_act_48, en_X5_forget, s_X5_forget_0, s_X5_forget_1, s_X5_forget_2, s_X5_forget_5, en_X5_run, s_X5_run_0, s_X5_run_1, s_X5_run_2, s_X5_run_5, s_X5_run_6, s_X5_run_7, s_X5_run_10, s_X5_run_11, s_X5_run_12, s_X5_run_15, s_X5_run_17, s_X5_run_44, s_X5_run_45, s_X5_run_46, s_X5_run_48, s_X5_run_51, s_X5_run_52, s_X5_run_53, s_X5_run_54, s_X5_run_56, s_X5_run_59, s_X5_run_60, s_X5_run_61, s_X5_run_62, s_X5_run_64, s_X5_run_67, s_X5_run_68, s_X5_run_69, cls_86, fv_86_0, fv_86_1, fv_86_2, fv_86_3, fv_86_4, cls_88, fv_88_0, fv_88_1, fv_88_2, fv_88_3, fv_88_4, fv_88_5, fv_88_6, fv_88_7, fv_88_8, fv_88_9, fv_88_10, fv_88_11, fv_88_12, fv_88_13, fv_88_14, cls_0, fv_0_0, fv_0_1, fv_0_2, fv_0_3, fv_0_4, fv_0_5, fv_0_6, fv_0_7, fv_0_8, fv_0_9, fv_0_10, fv_0_11, fv_0_12, fv_0_13, fv_0_14, fv_0_15, ak_1, al_1, ak_2, al_2, ak_3, al_3, ak_4, al_4, ak_5, al_5, ak_6, al_6, ak_7, al_7, ak_8, al_8, ak_9, al_9, d2, f1, f2, q1, acV, iI_of, iI_add, iI_sub, iI_mul, iI_neg, iI_lt, iI_le, iI_eq, iI_toInt, tn_n, tn_1, inb_I, Int.reduceEq, Int.reduceLT, Int.reduceLE, Int.reduceAdd, Int.reduceSub, Int.reduceMul, Int.reduceNeg, Int.reduceToNat, Nat.reduceAdd, Nat.reduceMul, Int.reduceNatCast, reduceCtorEq, Int.cast_ofNat_Int, bi_tr, bi_fa, bi_0, bi_1, not_true_eq_false, not_false_eq_true, rnk_v, rnk_n, ↓reduceIte, i00, i11, ibi, or_true, true_or, and_true, true_and, List.cons_append, List.nil_append, Option.toList, nop]
  · obtain ⟨M', q1, q2, q3⟩ := vCl (D := D) (by omega) mc g1.1 g1.1 (by simp) (iI x)
    obtain ⟨p1, p2⟩ := fin M' _ q2 q3
    refine ⟨M', ?_, p1, p2⟩
    simp (maxSteps := 4000000) (disch := omega) only [en_X10_act, s_X10_act_0, s_X10_act_1, s_X10_act_4, s_X10_act_7, s_X10_act_8, s_X10_act_11, s_X10_act_12, s_X10_act_15, s_X10_act_18, s_X10_act_19, s_X10_act_20, s_X10_act_21, s_X10_act_24, s_X10_act_25, s_X10_act_28, s_X10_act_31, s_X10_act_32, s_X10_act_33, s_X10_act_34, s_X10_act_35, s_X10_act_38, s_X10_act_41, s_X10_act_42, s_X10_act_43, s_X10_act_44, s_X10_act_45, s_X10_act_48, en_X5_forget, s_X5_forget_0, s_X5_forget_1, s_X5_forget_2, s_X5_forget_5, en_X5_run, s_X5_run_0, s_X5_run_1, s_X5_run_2, s_X5_run_5, s_X5_run_6, s_X5_run_7, s_X5_run_10, s_X5_run_11, s_X5_run_12, s_X5_run_15, s_X5_run_17, s_X5_run_44, s_X5_run_45, s_X5_run_46, s_X5_run_48, s_X5_run_51, s_X5_run_52, s_X5_run_53, s_X5_run_54, s_X5_run_56, s_X5_run_59, s_X5_run_60, s_X5_run_61, s_X5_run_62, s_X5_run_64, s_X5_run_67, s_X5_run_68, s_X5_run_69, cls_86, fv_86_0, fv_86_1, fv_86_2, fv_86_3, fv_86_4, cls_88, fv_88_0, fv_88_1, fv_88_2, fv_88_3, fv_88_4, fv_88_5, fv_88_6, fv_88_7, fv_88_8, fv_88_9, fv_88_10, fv_88_11, fv_88_12, fv_88_13, fv_88_14, cls_0, fv_0_0, fv_0_1, fv_0_2, fv_0_3, fv_0_4, fv_0_5, fv_0_6, fv_0_7, fv_0_8, fv_0_9, fv_0_10, fv_0_11, fv_0_12, fv_0_13, fv_0_14, fv_0_15, ak_1, al_1, ak_2, al_2, ak_3, al_3, ak_4, al_4, ak_5, al_5, ak_6, al_6, ak_7, al_7, ak_8, al_8, ak_9, al_9, d2, f1, f2, q1, acV, iI_of, iI_add, iI_sub, iI_mul, iI_neg, iI_lt, iI_le, iI_eq, iI_toInt, tn_n, tn_1, inb_I, Int.reduceEq, Int.reduceLT, Int.reduceLE, Int.reduceAdd, Int.reduceSub, Int.reduceMul, Int.reduceNeg, Int.reduceToNat, Nat.reduceAdd, Nat.reduceMul, Int.reduceNatCast, reduceCtorEq, Int.cast_ofNat_Int, bi_tr, bi_fa, bi_0, bi_1, not_true_eq_false, not_false_eq_true, rnk_v, rnk_n, ↓reduceIte, i00, i11, ibi, or_true, true_or, and_true, true_and, List.cons_append, List.nil_append, Option.toList, nop]
  · obtain ⟨M', q1, q2, q3⟩ := vCs (D := D) (by omega) mc g1.1 g1.1 (by simp) (iI x)
    obtain ⟨p1, p2⟩ := fin M' _ q2 q3
    refine ⟨M', ?_, p1, p2⟩
    simp (maxSteps := 4000000) (disch := omega) only [en_X10_act, s_X10_act_0, s_X10_act_1, s_X10_act_4, s_X10_act_7, s_X10_act_8, s_X10_act_11, s_X10_act_12, s_X10_act_15, s_X10_act_18, s_X10_act_19, s_X10_act_20, s_X10_act_21, s_X10_act_24, s_X10_act_25, s_X10_act_28, s_X10_act_31, s_X10_act_32, s_X10_act_33, s_X10_act_34, s_X10_act_35, s_X10_act_38, s_X10_act_41, s_X10_act_42, s_X10_act_43, s_X10_act_44, s_X10_act_45, s_X10_act_48, en_X5_forget, s_X5_forget_0, s_X5_forget_1, s_X5_forget_2, s_X5_forget_5, en_X5_run, s_X5_run_0, s_X5_run_1, s_X5_run_2, s_X5_run_5, s_X5_run_6, s_X5_run_7, s_X5_run_10, s_X5_run_11, s_X5_run_12, s_X5_run_15, s_X5_run_17, s_X5_run_44, s_X5_run_45, s_X5_run_46, s_X5_run_48, s_X5_run_51, s_X5_run_52, s_X5_run_53, s_X5_run_54, s_X5_run_56, s_X5_run_59, s_X5_run_60, s_X5_run_61, s_X5_run_62, s_X5_run_64, s_X5_run_67, s_X5_run_68, s_X5_run_69, cls_86, fv_86_0, fv_86_1, fv_86_2, fv_86_3, fv_86_4, cls_88, fv_88_0, fv_88_1, fv_88_2, fv_88_3, fv_88_4, fv_88_5, fv_88_6, fv_88_7, fv_88_8, fv_88_9, fv_88_10, fv_88_11, fv_88_12, fv_88_13, fv_88_14, cls_0, fv_0_0, fv_0_1, fv_0_2, fv_0_3, fv_0_4, fv_0_5, fv_0_6, fv_0_7, fv_0_8, fv_0_9, fv_0_10, fv_0_11, fv_0_12, fv_0_13, fv_0_14, fv_0_15, ak_1, al_1, ak_2, al_2, ak_3, al_3, ak_4, al_4, ak_5, al_5, ak_6, al_6, ak_7, al_7, ak_8, al_8, ak_9, al_9, d2, f1, f2, q1, acV, iI_of, iI_add, iI_sub, iI_mul, iI_neg, iI_lt, iI_le, iI_eq, iI_toInt, tn_n, tn_1, inb_I, Int.reduceEq, Int.reduceLT, Int.reduceLE, Int.reduceAdd, Int.reduceSub, Int.reduceMul, Int.reduceNeg, Int.reduceToNat, Nat.reduceAdd, Nat.reduceMul, Int.reduceNatCast, reduceCtorEq, Int.cast_ofNat_Int, bi_tr, bi_fa, bi_0, bi_1, not_true_eq_false, not_false_eq_true, rnk_v, rnk_n, ↓reduceIte, i00, i11, ibi, or_true, true_or, and_true, true_and, List.cons_append, List.nil_append, Option.toList, nop]
theorem d_act {D : Nat} (hD : 21 ≤ D) {M : tM} {S : tS} (hR : RelR S M) (hI : sInv S) {c mv x : Int} (gc : -2147483648 ≤ c ∧ c ≤ 2147483647) (gmv : -2147483648 ≤ mv ∧ mv ≤ 2147483647) : okR D m_X11_act [.ref 90, .int (iI c), .int (iI mv), .int (iI x)] M (p_act S c mv x) := by
  obtain ⟨D, rfl⟩ : ∃ D0, D = D0 + 1 := ⟨D - 1, by omega⟩
  have hC := hR
  obtain ⟨c1, c2, c3, c4, c5, c6, c7, c8, c9⟩ := id hC; obtain ⟨i1, i2, i3, i4, i5, i6, i7⟩ := id hI; have n0 := kI_n i1; obtain ⟨r1, r2, r3, r4, r5, r6⟩ := id c1.1
  unfold p_act
  have s0 : Sm [90, 106] M (sI M 90 22 (iI 0)) := Sm_sI (by simp)
  have d1 : RelR (upT S 0 (stT S)) (sI M 90 22 (iI 0)) := RelR_T hR s0 (sI_k _ _ (by omega)) (sI_k _ _ (by omega)) (sI_s _ _ _ _) (fun i _ hi => absurd hi (by omega))
  have d0 : RepN (sI M 90 22 (iI 0)) 92 (stK S) := d1.1
  have d2 := k_X11_isCapsule (D := D) (by omega) d0 i1 (d := c) (by omega) (by omega)
  by_cases e1 : 0 ≤ c ∧ c < (kC (stK S) : Int)
  rotate_left
  · rw [if_pos (fun q => e1 q.1)]
    rw [bi_f e1] at d2
    refine ⟨sI M 90 22 (iI 0), ?_, d1, SmR_of s0 (by simp)⟩
    simp (maxSteps := 4000000) (disch := omega) only [en_X11_act, s_X11_act_0, s_X11_act_1, s_X11_act_2, s_X11_act_5, s_X11_act_6, s_X11_act_7, s_X11_act_8, s_X11_act_11, s_X11_act_14, s_X11_act_15, s_X11_act_16, s_X11_act_17, s_X11_act_20, s_X11_act_23, s_X11_act_26, s_X11_act_27, s_X11_act_28, s_X11_act_29, s_X11_act_30, s_X11_act_33, s_X11_act_34, s_X11_act_35, s_X11_act_36, s_X11_act_39, s_X11_act_42, s_X11_act_43, s_X11_act_44, s_X11_act_45, s_X11_act_48, s_X11_act_51, s_X11_act_52, s_X11_act_55, s_X11_act_56, s_X11_act_57, s_X11_act_60, s_X11_act_61, s_X11_act_64, s_X11_act_67, s_X11_act_68, s_X11_act_69, s_X11_act_72, s_X11_act_73, s_X11_act_74, s_X11_act_77, s_X11_act_78, s_X11_act_81, s_X11_act_84, s_X11_act_85, s_X11_act_86, s_X11_act_89, s_X11_act_90, s_X11_act_93, cls_90, fv_90_0, fv_90_1, fv_90_2, fv_90_3, fv_90_4, fv_90_5, fv_90_6, fv_90_7, fv_90_8, fv_90_9, fv_90_10, fv_90_11, fv_90_12, fv_90_13, fv_90_14, fv_90_15, fv_90_16, fv_90_17, fv_90_18, fv_90_19, fv_90_20, fv_90_21, fv_90_22, fv_90_23, fv_90_24, fv_90_25, ak_91, al_91, ak_92, al_92, ak_93, al_93, ak_94, al_94, ak_95, al_95, ak_96, al_96, ak_97, al_97, ak_98, al_98, ak_99, al_99, ak_100, al_100, rf_100, ak_101, al_101, ak_102, al_102, ak_103, al_103, ak_104, al_104, ak_105, al_105, ak_106, al_106, tn_add, tn_mul, iI_long, jJ_int, d2, iI_add, iI_sub, iI_mul, iI_neg, iI_lt, iI_le, iI_eq, iI_toInt, tn_n, tn_1, inb_I, Int.reduceEq, Int.reduceLT, Int.reduceLE, Int.reduceAdd, Int.reduceSub, Int.reduceMul, Int.reduceNeg, Int.reduceToNat, Nat.reduceAdd, Nat.reduceMul, Int.reduceNatCast, reduceCtorEq, Int.cast_ofNat_Int, bi_tr, bi_fa, bi_0, bi_1, not_true_eq_false, not_false_eq_true, rnk_v, rnk_n, ↓reduceIte, i00, i11, ibi, or_true, true_or, and_true, true_and, List.cons_append, List.nil_append, Option.toList, nop]
  rw [bi_t e1] at d2
  by_cases e2 : 0 ≤ mv ∧ mv ≤ 2
  rotate_left
  · rw [if_pos (fun q => e2 q.2)]
    refine ⟨sI M 90 22 (iI 0), ?_, d1, SmR_of s0 (by simp)⟩
    simp (maxSteps := 4000000) (disch := omega) only [en_X11_act, s_X11_act_0, s_X11_act_1, s_X11_act_2, s_X11_act_5, s_X11_act_6, s_X11_act_7, s_X11_act_8, s_X11_act_11, s_X11_act_14, s_X11_act_15, s_X11_act_16, s_X11_act_17, s_X11_act_20, s_X11_act_23, s_X11_act_26, s_X11_act_27, s_X11_act_28, s_X11_act_29, s_X11_act_30, s_X11_act_33, s_X11_act_34, s_X11_act_35, s_X11_act_36, s_X11_act_39, s_X11_act_42, s_X11_act_43, s_X11_act_44, s_X11_act_45, s_X11_act_48, s_X11_act_51, s_X11_act_52, s_X11_act_55, s_X11_act_56, s_X11_act_57, s_X11_act_60, s_X11_act_61, s_X11_act_64, s_X11_act_67, s_X11_act_68, s_X11_act_69, s_X11_act_72, s_X11_act_73, s_X11_act_74, s_X11_act_77, s_X11_act_78, s_X11_act_81, s_X11_act_84, s_X11_act_85, s_X11_act_86, s_X11_act_89, s_X11_act_90, s_X11_act_93, cls_90, fv_90_0, fv_90_1, fv_90_2, fv_90_3, fv_90_4, fv_90_5, fv_90_6, fv_90_7, fv_90_8, fv_90_9, fv_90_10, fv_90_11, fv_90_12, fv_90_13, fv_90_14, fv_90_15, fv_90_16, fv_90_17, fv_90_18, fv_90_19, fv_90_20, fv_90_21, fv_90_22, fv_90_23, fv_90_24, fv_90_25, ak_91, al_91, ak_92, al_92, ak_93, al_93, ak_94, al_94, ak_95, al_95, ak_96, al_96, ak_97, al_97, ak_98, al_98, ak_99, al_99, ak_100, al_100, rf_100, ak_101, al_101, ak_102, al_102, ak_103, al_103, ak_104, al_104, ak_105, al_105, ak_106, al_106, tn_add, tn_mul, iI_long, jJ_int, d2, k_X11_isIn (show _ ≤ D by omega), bi_f e2, iI_add, iI_sub, iI_mul, iI_neg, iI_lt, iI_le, iI_eq, iI_toInt, tn_n, tn_1, inb_I, Int.reduceEq, Int.reduceLT, Int.reduceLE, Int.reduceAdd, Int.reduceSub, Int.reduceMul, Int.reduceNeg, Int.reduceToNat, Nat.reduceAdd, Nat.reduceMul, Int.reduceNatCast, reduceCtorEq, Int.cast_ofNat_Int, bi_tr, bi_fa, bi_0, bi_1, not_true_eq_false, not_false_eq_true, rnk_v, rnk_n, ↓reduceIte, i00, i11, ibi, or_true, true_or, and_true, true_and, List.cons_append, List.nil_append, Option.toList, nop]
  obtain ⟨c, rfl⟩ : ∃ u : Nat, c = u := ⟨c.toNat, by omega⟩
  simp only [Int.toNat_natCast]
  have hc : c < kC (stK S) := by omega
  have g1 := kI_c i1 hc
  rw [if_neg (fun q => q ⟨e1, e2⟩)]
  have w1 : RepN (sI (sI M 90 22 (iI 0)) 90 23 (iI c)) 92 (stK S) := RepN_eq d0 (by rw [sI_a _ _ (by omega)])
  have w2 : RepN (sI (sI (sI M 90 22 (iI 0)) 90 23 (iI c)) 90 24 (iI (kA (stK S) c))) 92 (stK S) := RepN_eq w1 (by rw [sI_a _ _ (by omega)])
  have m1 := k_X11_a (D := D) (by omega) w1 i1 hc
  have m2 := k_X11_kind (D := D) (by omega) w2 i1 hc
  have s1 : Sm [90, 106] M (sI (sI (sI (sI M 90 22 (iI 0)) 90 23 (iI c)) 90 24 (iI (kA (stK S) c))) 90 25 (iI (kK (stK S) c))) := Sm_tr s0 (Sm_tr (Sm_tr (Sm_sI (by simp)) (Sm_sI (by simp))) (Sm_sI (by simp)))
  have mc : MvR (sI (sI (sI (sI M 90 22 (iI 0)) 90 23 (iI c)) 90 24 (iI (kA (stK S) c))) 90 25 (iI (kK (stK S) c))) (0, stT S) (kK (stK S) c) (iI c) (iI (kA (stK S) c)) := by
    refine ⟨⟨?_, fun i _ hi => absurd hi (by simp)⟩, ⟨?_, ?_, ?_⟩, ?_⟩
    · simp (disch := omega) only [sI_s, sI_k]; rfl
    · simp (disch := omega) only [sI_s, sI_k]
    · simp (disch := omega) only [sI_s, sI_k]
    · simp (disch := omega) only [sI_s, sI_k]
    · simp (disch := omega) only [sI_a]; exact c9
  have fin : ∀ (M' : tM) (l : List Int), MvR M' (app (0, stT S) l) (kK (stK S) c) (iI c) (iI (kA (stK S) c)) → FrR (sI (sI (sI (sI M 90 22 (iI 0)) 90 23 (iI c)) 90 24 (iI (kA (stK S) c))) 90 25 (iI (kK (stK S) c))) M' → RelR (upT S (app (0, stT S) l).1 (app (0, stT S) l).2) M' ∧ SmR M M' := by
    intro M' l a1 a2
    have s2 := Sm_tr s1 a2.1
    refine ⟨RelR_T hR s2 ?_ ?_ a1.1.1 a1.1.2, SmR_of s2 (by simp)⟩
    · rw [a2.2 4 (by omega)]; simp (disch := omega) only [sI_k]
    · rw [a2.2 13 (by omega)]; simp (disch := omega) only [sI_k]
  have hm : mv = 0 ∨ mv = 1 ∨ mv = 2 := by omega
  rcases hm with rfl | rfl | rfl
  · obtain ⟨M', q1, q2, q3⟩ := vRh (D := D) (by omega) mc g1.1 g1.1 (by simp) (iI x)
    obtain ⟨p1, p2⟩ := fin M' _ q2 q3
    refine ⟨M', ?_, p1, p2⟩
    simp (maxSteps := 4000000) (disch := omega) only [en_X11_act, s_X11_act_0, s_X11_act_1, s_X11_act_2, s_X11_act_5, s_X11_act_6, s_X11_act_7, s_X11_act_8, s_X11_act_11, s_X11_act_14, s_X11_act_15, s_X11_act_16, s_X11_act_17, s_X11_act_20, s_X11_act_23, s_X11_act_26, s_X11_act_27, s_X11_act_28, s_X11_act_29, s_X11_act_30, s_X11_act_33, s_X11_act_34, s_X11_act_35, s_X11_act_36, s_X11_act_39, s_X11_act_42, s_X11_act_43, s_X11_act_44, s_X11_act_45, s_X11_act_48, s_X11_act_51, s_X11_act_52, s_X11_act_55, s_X11_act_56, s_X11_act_57, s_X11_act_60, s_X11_act_61, s_X11_act_64, s_X11_act_67, s_X11_act_68, s_X11_act_69, s_X11_act_72, s_X11_act_73, s_X11_act_74, s_X11_act_77, s_X11_act_78, s_X11_act_81, s_X11_act_84, s_X11_act_85, s_X11_act_86, s_X11_act_89, s_X11_act_90, s_X11_act_93, cls_90, fv_90_0, fv_90_1, fv_90_2, fv_90_3, fv_90_4, fv_90_5, fv_90_6, fv_90_7, fv_90_8, fv_90_9, fv_90_10, fv_90_11, fv_90_12, fv_90_13, fv_90_14, fv_90_15, fv_90_16, fv_90_17, fv_90_18, fv_90_19, fv_90_20, fv_90_21, fv_90_22, fv_90_23, fv_90_24, fv_90_25, ak_91, al_91, ak_92, al_92, ak_93, al_93, ak_94, al_94, ak_95, al_95, ak_96, al_96, ak_97, al_97, ak_98, al_98, ak_99, al_99, ak_100, al_100, rf_100, ak_101, al_101, ak_102, al_102, ak_103, al_103, ak_104, al_104, ak_105, al_105, ak_106, al_106, tn_add, tn_mul, iI_long, jJ_int, d2, k_X11_isIn (show _ ≤ D by omega), bi_t e2, m1, m2, q1, acV, iI_of, sI_s, iI_add, iI_sub, iI_mul, iI_neg, iI_lt, iI_le, iI_eq, iI_toInt, tn_n, tn_1, inb_I, Int.reduceEq, Int.reduceLT, Int.reduceLE, Int.reduceAdd, Int.reduceSub, Int.reduceMul, Int.reduceNeg, Int.reduceToNat, Nat.reduceAdd, Nat.reduceMul, Int.reduceNatCast, reduceCtorEq, Int.cast_ofNat_Int, bi_tr, bi_fa, bi_0, bi_1, not_true_eq_false, not_false_eq_true, rnk_v, rnk_n, ↓reduceIte, i00, i11, ibi, or_true, true_or, and_true, true_and, List.cons_append, List.nil_append, Option.toList, nop]
  · obtain ⟨M', q1, q2, q3⟩ := vRl (D := D) (by omega) mc g1.1 g1.1 (by simp) (iI x)
    obtain ⟨p1, p2⟩ := fin M' _ q2 q3
    refine ⟨M', ?_, p1, p2⟩
    simp (maxSteps := 4000000) (disch := omega) only [en_X11_act, s_X11_act_0, s_X11_act_1, s_X11_act_2, s_X11_act_5, s_X11_act_6, s_X11_act_7, s_X11_act_8, s_X11_act_11, s_X11_act_14, s_X11_act_15, s_X11_act_16, s_X11_act_17, s_X11_act_20, s_X11_act_23, s_X11_act_26, s_X11_act_27, s_X11_act_28, s_X11_act_29, s_X11_act_30, s_X11_act_33, s_X11_act_34, s_X11_act_35, s_X11_act_36, s_X11_act_39, s_X11_act_42, s_X11_act_43, s_X11_act_44, s_X11_act_45, s_X11_act_48, s_X11_act_51, s_X11_act_52, s_X11_act_55, s_X11_act_56, s_X11_act_57, s_X11_act_60, s_X11_act_61, s_X11_act_64, s_X11_act_67, s_X11_act_68, s_X11_act_69, s_X11_act_72, s_X11_act_73, s_X11_act_74, s_X11_act_77, s_X11_act_78, s_X11_act_81, s_X11_act_84, s_X11_act_85, s_X11_act_86, s_X11_act_89, s_X11_act_90, s_X11_act_93, cls_90, fv_90_0, fv_90_1, fv_90_2, fv_90_3, fv_90_4, fv_90_5, fv_90_6, fv_90_7, fv_90_8, fv_90_9, fv_90_10, fv_90_11, fv_90_12, fv_90_13, fv_90_14, fv_90_15, fv_90_16, fv_90_17, fv_90_18, fv_90_19, fv_90_20, fv_90_21, fv_90_22, fv_90_23, fv_90_24, fv_90_25, ak_91, al_91, ak_92, al_92, ak_93, al_93, ak_94, al_94, ak_95, al_95, ak_96, al_96, ak_97, al_97, ak_98, al_98, ak_99, al_99, ak_100, al_100, rf_100, ak_101, al_101, ak_102, al_102, ak_103, al_103, ak_104, al_104, ak_105, al_105, ak_106, al_106, tn_add, tn_mul, iI_long, jJ_int, d2, k_X11_isIn (show _ ≤ D by omega), bi_t e2, m1, m2, q1, acV, iI_of, sI_s, iI_add, iI_sub, iI_mul, iI_neg, iI_lt, iI_le, iI_eq, iI_toInt, tn_n, tn_1, inb_I, Int.reduceEq, Int.reduceLT, Int.reduceLE, Int.reduceAdd, Int.reduceSub, Int.reduceMul, Int.reduceNeg, Int.reduceToNat, Nat.reduceAdd, Nat.reduceMul, Int.reduceNatCast, reduceCtorEq, Int.cast_ofNat_Int, bi_tr, bi_fa, bi_0, bi_1, not_true_eq_false, not_false_eq_true, rnk_v, rnk_n, ↓reduceIte, i00, i11, ibi, or_true, true_or, and_true, true_and, List.cons_append, List.nil_append, Option.toList, nop]
  · obtain ⟨M', q1, q2, q3⟩ := vRs (D := D) (by omega) mc g1.1 g1.1 (by simp) (iI x)
    obtain ⟨p1, p2⟩ := fin M' _ q2 q3
    refine ⟨M', ?_, p1, p2⟩
    simp (maxSteps := 4000000) (disch := omega) only [en_X11_act, s_X11_act_0, s_X11_act_1, s_X11_act_2, s_X11_act_5, s_X11_act_6, s_X11_act_7, s_X11_act_8, s_X11_act_11, s_X11_act_14, s_X11_act_15, s_X11_act_16, s_X11_act_17, s_X11_act_20, s_X11_act_23, s_X11_act_26, s_X11_act_27, s_X11_act_28, s_X11_act_29, s_X11_act_30, s_X11_act_33, s_X11_act_34, s_X11_act_35, s_X11_act_36, s_X11_act_39, s_X11_act_42, s_X11_act_43, s_X11_act_44, s_X11_act_45, s_X11_act_48, s_X11_act_51, s_X11_act_52, s_X11_act_55, s_X11_act_56, s_X11_act_57, s_X11_act_60, s_X11_act_61, s_X11_act_64, s_X11_act_67, s_X11_act_68, s_X11_act_69, s_X11_act_72, s_X11_act_73, s_X11_act_74, s_X11_act_77, s_X11_act_78, s_X11_act_81, s_X11_act_84, s_X11_act_85, s_X11_act_86, s_X11_act_89, s_X11_act_90, s_X11_act_93, cls_90, fv_90_0, fv_90_1, fv_90_2, fv_90_3, fv_90_4, fv_90_5, fv_90_6, fv_90_7, fv_90_8, fv_90_9, fv_90_10, fv_90_11, fv_90_12, fv_90_13, fv_90_14, fv_90_15, fv_90_16, fv_90_17, fv_90_18, fv_90_19, fv_90_20, fv_90_21, fv_90_22, fv_90_23, fv_90_24, fv_90_25, ak_91, al_91, ak_92, al_92, ak_93, al_93, ak_94, al_94, ak_95, al_95, ak_96, al_96, ak_97, al_97, ak_98, al_98, ak_99, al_99, ak_100, al_100, rf_100, ak_101, al_101, ak_102, al_102, ak_103, al_103, ak_104, al_104, ak_105, al_105, ak_106, al_106, tn_add, tn_mul, iI_long, jJ_int, d2, k_X11_isIn (show _ ≤ D by omega), bi_t e2, m1, m2, q1, acV, iI_of, sI_s, iI_add, iI_sub, iI_mul, iI_neg, iI_lt, iI_le, iI_eq, iI_toInt, tn_n, tn_1, inb_I, Int.reduceEq, Int.reduceLT, Int.reduceLE, Int.reduceAdd, Int.reduceSub, Int.reduceMul, Int.reduceNeg, Int.reduceToNat, Nat.reduceAdd, Nat.reduceMul, Int.reduceNatCast, reduceCtorEq, Int.cast_ofNat_Int, bi_tr, bi_fa, bi_0, bi_1, not_true_eq_false, not_false_eq_true, rnk_v, rnk_n, ↓reduceIte, i00, i11, ibi, or_true, true_or, and_true, true_and, List.cons_append, List.nil_append, Option.toList, nop]
