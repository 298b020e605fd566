/-! CUTS: THE CLASS -/
theorem bts_lt8 (Z : Nat → Bool) : bts Z 8 < 256 := bts_lt Z 8
theorem se_bit {Z : Nat → Bool} {d : Nat} (hd : d < 8) : (iI (bts Z 8 : Nat) &&& (iI 1 <<< (iI (d : Int) &&& 31)) = iI 0) = (Z d = false) := by
  have h1 := bts_lt8 Z
  rw [iI_shl1 (by omega), bit_get1 (by omega) (by omega), bts_bit]
  apply propext
  simp [hd]
theorem se_or {Z : Nat → Bool} {d : Nat} (hd : d < 8) : iI (bts Z 8 : Nat) ||| (iI 1 <<< (iI (d : Int) &&& 31)) = iI (bts (zA Z d) 8 : Nat) := by
  rw [iI_shl1 (by omega), iI_or, bts_set hd]
  rfl
theorem bF {b : Bool} : (b = false) = ¬ (b = true) := by cases b <;> simp
theorem gX_n {G : tG} {w : Int} {t : Nat} (h : (t : Int) = w) : (gX G w).2.1 t = false ∧ (gX G w).2.2 t = false := by
  constructor <;> simp [gX, h]
theorem gX_y {G : tG} {w : Int} {t : Nat} (h : ¬ (t : Int) = w) : (gX G w).2.1 t = G.2.1 t ∧ (gX G w).2.2 t = G.2.2 t := by
  constructor <;> simp [gX, h]
theorem gX_I {K : tK} {G : tG} (h : gI K G) (w : Int) : gI K (gX G w) := h
theorem l_re1 {D : Nat} {M : tM} {K : tK} {G : tG} (hR : Rep M 0 K) (hI : kInv K) (hg : RepG M K G) {Z : Nat → Bool} {t s g i : Nat} {w : Int} (ht : t < kT K) (hw : -1 ≤ w ∧ w ≤ 16) : rn (exF D) C_X0_reaches 34 [some (.ref 59), some (.ref 0), some (.ref 42), some (.int (iI s)), some (.int (iI g)), some (.int (iI w)), some (.int (iI (bts Z 8 : Nat))), some (.int (iI i)), some (.int (iI t))] [] M = rn (exF D) C_X0_reaches 122 [some (.ref 59), some (.ref 0), some (.ref 42), some (.int (iI s)), some (.int (iI g)), some (.int (iI w)), some (.int (iI (bts (z2 K (gX G w) t (z1 K (gX G w) t Z)) 8 : Nat))), some (.int (iI i)), some (.int (iI t))] [] M := by
  have n0 := kI_n hI
  have g1 := kI_t hI ht
  obtain ⟨f1, f2, f3, f4⟩ := R0_t hR ht
  obtain ⟨q0, q1, q2⟩ := hg t ht
  have hF : kF K t < 8 := by omega
  have hO : kO K t < 8 := by omega
  by_cases c : (t : Int) = w
  · obtain ⟨a1, a2⟩ := gX_n (G := G) c
    have e : z2 K (gX G w) t (z1 K (gX G w) t Z) = Z := by unfold z2 z1; rw [a1, a2]; rfl
    rw [e]
    simp (maxSteps := 4000000) (disch := omega) only [s_X0_reaches_34, s_X0_reaches_36, s_X0_reaches_38, s_X0_reaches_41, eqT c, iI_add, iI_sub, iI_mul, iI_neg, iI_lt, iI_le, iI_eq, iI_toInt, tn_n, tn_1, inb_I, Int.reduceEq, Int.reduceLT, Int.reduceLE, Int.reduceAdd, Int.reduceSub, Int.reduceMul, Int.reduceNeg, Int.reduceToNat, Nat.reduceAdd, Nat.reduceMul, Int.reduceNatCast, reduceCtorEq, Int.cast_ofNat_Int, bi_tr, bi_fa, bi_0, bi_1, not_true_eq_false, not_false_eq_true, rnk_v, rnk_n, ↓reduceIte, i00, i11, ibi, or_true, true_or, and_true, true_and, List.cons_append, List.nil_append, Option.toList, nop]
  obtain ⟨a1, a2⟩ := gX_y (G := G) c
  have st1 : rn (exF D) C_X0_reaches 44 [some (.ref 59), some (.ref 0), some (.ref 42), some (.int (iI s)), some (.int (iI g)), some (.int (iI w)), some (.int (iI (bts Z 8 : Nat))), some (.int (iI i)), some (.int (iI t))] [] M = rn (exF D) C_X0_reaches 83 [some (.ref 59), some (.ref 0), some (.ref 42), some (.int (iI s)), some (.int (iI g)), some (.int (iI w)), some (.int (iI (bts (z1 K (gX G w) t Z) 8 : Nat))), some (.int (iI i)), some (.int (iI t))] [] M := by
    unfold z1
    rw [a1]
    by_cases b1 : G.2.1 t = true
    · rw [bi_t b1] at q1
      cases b2 : Z (kF K t) with
      | true =>
        rw [b1, if_pos (show (true && true) = true from rfl)]
        simp (maxSteps := 4000000) (disch := omega) only [s_X0_reaches_44, s_X0_reaches_45, s_X0_reaches_48, s_X0_reaches_50, s_X0_reaches_51, s_X0_reaches_54, s_X0_reaches_56, s_X0_reaches_57, s_X0_reaches_58, s_X0_reaches_61, s_X0_reaches_63, s_X0_reaches_64, s_X0_reaches_65, s_X0_reaches_66, s_X0_reaches_69, s_X0_reaches_71, s_X0_reaches_72, s_X0_reaches_73, s_X0_reaches_76, s_X0_reaches_78, s_X0_reaches_79, s_X0_reaches_80, s_X0_reaches_81, cls_42, fv_42_0, fv_42_1, fv_42_2, fv_42_3, fv_42_4, fv_42_5, ak_43, al_43, ak_44, al_44, ak_45, al_45, cls_0, fv_0_0, fv_0_1, fv_0_2, fv_0_3, fv_0_4, fv_0_5, fv_0_6, fv_0_7, fv_0_8, fv_0_9, fv_0_10, fv_0_11, fv_0_12, fv_0_13, fv_0_14, fv_0_15, ak_1, al_1, ak_2, al_2, ak_3, al_3, q1, f1, f2, se_bit hF, se_or hO, b2, iI_add, iI_sub, iI_mul, iI_neg, iI_lt, iI_le, iI_eq, iI_toInt, tn_n, tn_1, inb_I, Int.reduceEq, Int.reduceLT, Int.reduceLE, Int.reduceAdd, Int.reduceSub, Int.reduceMul, Int.reduceNeg, Int.reduceToNat, Nat.reduceAdd, Nat.reduceMul, Int.reduceNatCast, reduceCtorEq, Int.cast_ofNat_Int, bi_tr, bi_fa, bi_0, bi_1, not_true_eq_false, not_false_eq_true, rnk_v, rnk_n, ↓reduceIte, i00, i11, ibi, or_true, true_or, and_true, true_and, List.cons_append, List.nil_append, Option.toList, nop]
      | false =>
        rw [b1, if_neg (by simp)]
        simp (maxSteps := 4000000) (disch := omega) only [s_X0_reaches_44, s_X0_reaches_45, s_X0_reaches_48, s_X0_reaches_50, s_X0_reaches_51, s_X0_reaches_54, s_X0_reaches_56, s_X0_reaches_57, s_X0_reaches_58, s_X0_reaches_61, s_X0_reaches_63, s_X0_reaches_64, s_X0_reaches_65, s_X0_reaches_66, s_X0_reaches_69, s_X0_reaches_71, s_X0_reaches_72, s_X0_reaches_73, s_X0_reaches_76, s_X0_reaches_78, s_X0_reaches_79, s_X0_reaches_80, s_X0_reaches_81, cls_42, fv_42_0, fv_42_1, fv_42_2, fv_42_3, fv_42_4, fv_42_5, ak_43, al_43, ak_44, al_44, ak_45, al_45, cls_0, fv_0_0, fv_0_1, fv_0_2, fv_0_3, fv_0_4, fv_0_5, fv_0_6, fv_0_7, fv_0_8, fv_0_9, fv_0_10, fv_0_11, fv_0_12, fv_0_13, fv_0_14, fv_0_15, ak_1, al_1, ak_2, al_2, ak_3, al_3, q1, f1, f2, se_bit hF, b2, iI_add, iI_sub, iI_mul, iI_neg, iI_lt, iI_le, iI_eq, iI_toInt, tn_n, tn_1, inb_I, Int.reduceEq, Int.reduceLT, Int.reduceLE, Int.reduceAdd, Int.reduceSub, Int.reduceMul, Int.reduceNeg, Int.reduceToNat, Nat.reduceAdd, Nat.reduceMul, Int.reduceNatCast, reduceCtorEq, Int.cast_ofNat_Int, bi_tr, bi_fa, bi_0, bi_1, not_true_eq_false, not_false_eq_true, rnk_v, rnk_n, ↓reduceIte, i00, i11, ibi, or_true, true_or, and_true, true_and, List.cons_append, List.nil_append, Option.toList, nop]
    · rw [bi_f b1] at q1
      rw [if_neg (by simp [b1])]
      simp (maxSteps := 4000000) (disch := omega) only [s_X0_reaches_44, s_X0_reaches_45, s_X0_reaches_48, s_X0_reaches_50, s_X0_reaches_51, s_X0_reaches_54, s_X0_reaches_56, s_X0_reaches_57, s_X0_reaches_58, s_X0_reaches_61, s_X0_reaches_63, s_X0_reaches_64, s_X0_reaches_65, s_X0_reaches_66, s_X0_reaches_69, s_X0_reaches_71, s_X0_reaches_72, s_X0_reaches_73, s_X0_reaches_76, s_X0_reaches_78, s_X0_reaches_79, s_X0_reaches_80, s_X0_reaches_81, cls_42, fv_42_0, fv_42_1, fv_42_2, fv_42_3, fv_42_4, fv_42_5, ak_43, al_43, ak_44, al_44, ak_45, al_45, q1, iI_add, iI_sub, iI_mul, iI_neg, iI_lt, iI_le, iI_eq, iI_toInt, tn_n, tn_1, inb_I, Int.reduceEq, Int.reduceLT, Int.reduceLE, Int.reduceAdd, Int.reduceSub, Int.reduceMul, Int.reduceNeg, Int.reduceToNat, Nat.reduceAdd, Nat.reduceMul, Int.reduceNatCast, reduceCtorEq, Int.cast_ofNat_Int, bi_tr, bi_fa, bi_0, bi_1, not_true_eq_false, not_false_eq_true, rnk_v, rnk_n, ↓reduceIte, i00, i11, ibi, or_true, true_or, and_true, true_and, List.cons_append, List.nil_append, Option.toList, nop]
  have st2 : ∀ Y : Nat → Bool, rn (exF D) C_X0_reaches 83 [some (.ref 59), some (.ref 0), some (.ref 42), some (.int (iI s)), some (.int (iI g)), some (.int (iI w)), some (.int (iI (bts Y 8 : Nat))), some (.int (iI i)), some (.int (iI t))] [] M = rn (exF D) C_X0_reaches 122 [some (.ref 59), some (.ref 0), some (.ref 42), some (.int (iI s)), some (.int (iI g)), some (.int (iI w)), some (.int (iI (bts (z2 K (gX G w) t Y) 8 : Nat))), some (.int (iI i)), some (.int (iI t))] [] M := by
    intro Y
    unfold z2
    rw [a2]
    by_cases b1 : G.2.2 t = true
    · rw [bi_t b1] at q2
      cases b2 : Y (kO K t) with
      | true =>
        rw [b1, if_pos (show (true && true) = true from rfl)]
        simp (maxSteps := 4000000) (disch := omega) only [s_X0_reaches_83, s_X0_reaches_84, s_X0_reaches_87, s_X0_reaches_89, s_X0_reaches_90, s_X0_reaches_93, s_X0_reaches_95, s_X0_reaches_96, s_X0_reaches_97, s_X0_reaches_100, s_X0_reaches_102, s_X0_reaches_103, s_X0_reaches_104, s_X0_reaches_105, s_X0_reaches_108, s_X0_reaches_110, s_X0_reaches_111, s_X0_reaches_112, s_X0_reaches_115, s_X0_reaches_117, s_X0_reaches_118, s_X0_reaches_119, s_X0_reaches_120, cls_42, fv_42_0, fv_42_1, fv_42_2, fv_42_3, fv_42_4, fv_42_5, ak_43, al_43, ak_44, al_44, ak_45, al_45, cls_0, fv_0_0, fv_0_1, fv_0_2, fv_0_3, fv_0_4, fv_0_5, fv_0_6, fv_0_7, fv_0_8, fv_0_9, fv_0_10, fv_0_11, fv_0_12, fv_0_13, fv_0_14, fv_0_15, ak_1, al_1, ak_2, al_2, ak_3, al_3, q2, f1, f2, se_bit hO, se_or hF, b2, iI_add, iI_sub, iI_mul, iI_neg, iI_lt, iI_le, iI_eq, iI_toInt, tn_n, tn_1, inb_I, Int.reduceEq, Int.reduceLT, Int.reduceLE, Int.reduceAdd, Int.reduceSub, Int.reduceMul, Int.reduceNeg, Int.reduceToNat, Nat.reduceAdd, Nat.reduceMul, Int.reduceNatCast, reduceCtorEq, Int.cast_ofNat_Int, bi_tr, bi_fa, bi_0, bi_1, not_true_eq_false, not_false_eq_true, rnk_v, rnk_n, ↓reduceIte, i00, i11, ibi, or_true, true_or, and_true, true_and, List.cons_append, List.nil_append, Option.toList, nop]
      | false =>
        rw [b1, if_neg (by simp)]
        simp (maxSteps := 4000000) (disch := omega) only [s_X0_reaches_83, s_X0_reaches_84, s_X0_reaches_87, s_X0_reaches_89, s_X0_reaches_90, s_X0_reaches_93, s_X0_reaches_95, s_X0_reaches_96, s_X0_reaches_97, s_X0_reaches_100, s_X0_reaches_102, s_X0_reaches_103, s_X0_reaches_104, s_X0_reaches_105, s_X0_reaches_108, s_X0_reaches_110, s_X0_reaches_111, s_X0_reaches_112, s_X0_reaches_115, s_X0_reaches_117, s_X0_reaches_118, s_X0_reaches_119, s_X0_reaches_120, cls_42, fv_42_0, fv_42_1, fv_42_2, fv_42_3, fv_42_4, fv_42_5, ak_43, al_43, ak_44, al_44, ak_45, al_45, cls_0, fv_0_0, fv_0_1, fv_0_2, fv_0_3, fv_0_4, fv_0_5, fv_0_6, fv_0_7, fv_0_8, fv_0_9, fv_0_10, fv_0_11, fv_0_12, fv_0_13, fv_0_14, fv_0_15, ak_1, al_1, ak_2, al_2, ak_3, al_3, q2, f1, f2, se_bit hO, b2, iI_add, iI_sub, iI_mul, iI_neg, iI_lt, iI_le, iI_eq, iI_toInt, tn_n, tn_1, inb_I, Int.reduceEq, Int.reduceLT, Int.reduceLE, Int.reduceAdd, Int.reduceSub, Int.reduceMul, Int.reduceNeg, Int.reduceToNat, Nat.reduceAdd, Nat.reduceMul, Int.reduceNatCast, reduceCtorEq, Int.cast_ofNat_Int, bi_tr, bi_fa, bi_0, bi_1, not_true_eq_false, not_false_eq_true, rnk_v, rnk_n, ↓reduceIte, i00, i11, ibi, or_true, true_or, and_true, true_and, List.cons_append, List.nil_append, Option.toList, nop]
    · rw [bi_f b1] at q2
      rw [if_neg (by simp [b1])]
      simp (maxSteps := 4000000) (disch := omega) only [s_X0_reaches_83, s_X0_reaches_84, s_X0_reaches_87, s_X0_reaches_89, s_X0_reaches_90, s_X0_reaches_93, s_X0_reaches_95, s_X0_reaches_96, s_X0_reaches_97, s_X0_reaches_100, s_X0_reaches_102, s_X0_reaches_103, s_X0_reaches_104, s_X0_reaches_105, s_X0_reaches_108, s_X0_reaches_110, s_X0_reaches_111, s_X0_reaches_112, s_X0_reaches_115, s_X0_reaches_117, s_X0_reaches_118, s_X0_reaches_119, s_X0_reaches_120, cls_42, fv_42_0, fv_42_1, fv_42_2, fv_42_3, fv_42_4, fv_42_5, ak_43, al_43, ak_44, al_44, ak_45, al_45, q2, iI_add, iI_sub, iI_mul, iI_neg, iI_lt, iI_le, iI_eq, iI_toInt, tn_n, tn_1, inb_I, Int.reduceEq, Int.reduceLT, Int.reduceLE, Int.reduceAdd, Int.reduceSub, Int.reduceMul, Int.reduceNeg, Int.reduceToNat, Nat.reduceAdd, Nat.reduceMul, Int.reduceNatCast, reduceCtorEq, Int.cast_ofNat_Int, bi_tr, bi_fa, bi_0, bi_1, not_true_eq_false, not_false_eq_true, rnk_v, rnk_n, ↓reduceIte, i00, i11, ibi, or_true, true_or, and_true, true_and, List.cons_append, List.nil_append, Option.toList, nop]
  refine Eq.trans ?_ (st1.trans (st2 _))
  simp (maxSteps := 4000000) (disch := omega) only [s_X0_reaches_34, s_X0_reaches_36, s_X0_reaches_38, s_X0_reaches_41, eqF c, iI_add, iI_sub, iI_mul, iI_neg, iI_lt, iI_le, iI_eq, iI_toInt, tn_n, tn_1, inb_I, Int.reduceEq, Int.reduceLT, Int.reduceLE, Int.reduceAdd, Int.reduceSub, Int.reduceMul, Int.reduceNeg, Int.reduceToNat, Nat.reduceAdd, Nat.reduceMul, Int.reduceNatCast, reduceCtorEq, Int.cast_ofNat_Int, bi_tr, bi_fa, bi_0, bi_1, not_true_eq_false, not_false_eq_true, rnk_v, rnk_n, ↓reduceIte, i00, i11, ibi, or_true, true_or, and_true, true_and, List.cons_append, List.nil_append, Option.toList, nop]
theorem k_X0_reaches {D : Nat} (hD : 1 ≤ D) {M : tM} {K : tK} {G : tG} (hR : Rep M 0 K) (hI : kInv K) (hG : gI K G) (hg : RepG M K G) {s g : Nat} (hs : s < kD K) (hgl : g < kD K) {w : Int} (hw : -1 ≤ w ∧ w ≤ 16) : exF D m_X0_reaches [.ref 59, .ref 0, .ref 42, .int (iI s), .int (iI g), .int (iI w)] M = some (some (.int (bi (dG K (gX G w) s g < 9999))), M) := by
  obtain ⟨D, rfl⟩ : ∃ D0, D = D0 + 1 := ⟨D - 1, by omega⟩
  have n0 := kI_n hI
  obtain ⟨r1, r2, r3, r4, r5, r6⟩ := R0_n hR
  obtain ⟨x8, outer, -⟩ := lp (f := fun i (x8 : Option Value) => rn (exF D) C_X0_reaches 8 [some (.ref 59), some (.ref 0), some (.ref 42), some (.int (iI s)), some (.int (iI g)), some (.int (iI w)), some (.int (iI (bts (zR K (gX G w) s i) 8 : Nat))), some (.int (iI i)), x8] [] M) (P := fun _ _ => True) (n := 8) (by
    rintro i x8 hi -
    have inner := lq (f := fun t => rn (exF D) C_X0_reaches 18 [some (.ref 59), some (.ref 0), some (.ref 42), some (.int (iI s)), some (.int (iI g)), some (.int (iI w)), some (.int (iI (bts (zT K (gX G w) (zR K (gX G w) s i) t) 8 : Nat))), some (.int (iI i)), some (.int (iI t))] [] M) (n := kT K) (by
      intro t ht X hX
      show rn _ _ _ _ _ _ = X
      rw [s_X0_reaches_18]
      simp (maxSteps := 4000000) (disch := omega) only [s_X0_reaches_20, s_X0_reaches_21, s_X0_reaches_24, s_X0_reaches_27, s_X0_reaches_29, s_X0_reaches_31, cls_0, fv_0_0, fv_0_1, fv_0_2, fv_0_3, fv_0_4, fv_0_5, fv_0_6, fv_0_7, fv_0_8, fv_0_9, fv_0_10, fv_0_11, fv_0_12, fv_0_13, fv_0_14, fv_0_15, r2, leF (show (t : Int) < kT K by omega), leF (show (t : Int) < 16 by omega), iI_add, iI_sub, iI_mul, iI_neg, iI_lt, iI_le, iI_eq, iI_toInt, tn_n, tn_1, inb_I, Int.reduceEq, Int.reduceLT, Int.reduceLE, Int.reduceAdd, Int.reduceSub, Int.reduceMul, Int.reduceNeg, Int.reduceToNat, Nat.reduceAdd, Nat.reduceMul, Int.reduceNatCast, reduceCtorEq, Int.cast_ofNat_Int, bi_tr, bi_fa, bi_0, bi_1, not_true_eq_false, not_false_eq_true, rnk_v, rnk_n, ↓reduceIte, i00, i11, ibi, or_true, true_or, and_true, true_and, List.cons_append, List.nil_append, Option.toList, nop]
      refine Eq.trans (l_re1 hR hI hg ht hw) ?_
      simp (maxSteps := 4000000) (disch := omega) only [s_X0_reaches_122, s_X0_reaches_125, iI_add, iI_sub, iI_mul, iI_neg, iI_lt, iI_le, iI_eq, iI_toInt, tn_n, tn_1, inb_I, Int.reduceEq, Int.reduceLT, Int.reduceLE, Int.reduceAdd, Int.reduceSub, Int.reduceMul, Int.reduceNeg, Int.reduceToNat, Nat.reduceAdd, Nat.reduceMul, Int.reduceNatCast, reduceCtorEq, Int.cast_ofNat_Int, bi_tr, bi_fa, bi_0, bi_1, not_true_eq_false, not_false_eq_true, rnk_v, rnk_n, ↓reduceIte, i00, i11, ibi, or_true, true_or, and_true, true_and, List.cons_append, List.nil_append, Option.toList, nop]
      exact hX)
    refine ⟨some (.int (iI (kT K))), ?_, trivial⟩
    intro X hX
    show rn _ _ _ _ _ _ = X
    rw [s_X0_reaches_8]
    simp (maxSteps := 4000000) (disch := omega) only [s_X0_reaches_10, s_X0_reaches_12, s_X0_reaches_15, s_X0_reaches_16, leF (show (i : Int) < 8 by omega), iI_add, iI_sub, iI_mul, iI_neg, iI_lt, iI_le, iI_eq, iI_toInt, tn_n, tn_1, inb_I, Int.reduceEq, Int.reduceLT, Int.reduceLE, Int.reduceAdd, Int.reduceSub, Int.reduceMul, Int.reduceNeg, Int.reduceToNat, Nat.reduceAdd, Nat.reduceMul, Int.reduceNatCast, reduceCtorEq, Int.cast_ofNat_Int, bi_tr, bi_fa, bi_0, bi_1, not_true_eq_false, not_false_eq_true, rnk_v, rnk_n, ↓reduceIte, i00, i11, ibi, or_true, true_or, and_true, true_and, List.cons_append, List.nil_append, Option.toList, nop]
    refine Eq.trans inner ?_
    simp (maxSteps := 4000000) (disch := omega) only [s_X0_reaches_18, s_X0_reaches_20, s_X0_reaches_21, s_X0_reaches_24, s_X0_reaches_128, s_X0_reaches_131, cls_0, fv_0_0, fv_0_1, fv_0_2, fv_0_3, fv_0_4, fv_0_5, fv_0_6, fv_0_7, fv_0_8, fv_0_9, fv_0_10, fv_0_11, fv_0_12, fv_0_13, fv_0_14, fv_0_15, r2, leT (show (kT K : Int) ≤ kT K by omega), iI_add, iI_sub, iI_mul, iI_neg, iI_lt, iI_le, iI_eq, iI_toInt, tn_n, tn_1, inb_I, Int.reduceEq, Int.reduceLT, Int.reduceLE, Int.reduceAdd, Int.reduceSub, Int.reduceMul, Int.reduceNeg, Int.reduceToNat, Nat.reduceAdd, Nat.reduceMul, Int.reduceNatCast, reduceCtorEq, Int.cast_ofNat_Int, bi_tr, bi_fa, bi_0, bi_1, not_true_eq_false, not_false_eq_true, rnk_v, rnk_n, ↓reduceIte, i00, i11, ibi, or_true, true_or, and_true, true_and, List.cons_append, List.nil_append, Option.toList, nop]
    exact hX) (Nat.zero_le _) (a := none) trivial
  have e0 : iI 1 <<< (iI (s : Int) &&& 31) = iI (bts (zR K (gX G w) s 0) 8 : Nat) := by
    have h1 := se_or (Z := fun _ => false) (show s < 8 by omega)
    have h2 : bts (fun _ => false) 8 = 0 := rfl
    rw [h2] at h1
    have h3 : iI ((0 : Nat) : Int) ||| (iI 1 <<< (iI (s : Int) &&& 31)) = iI 1 <<< (iI (s : Int) &&& 31) := by
      rw [iI_shl1 (by omega), iI_or, Nat.zero_or]
    rw [h3] at h1
    rw [h1]
    have : zA (fun _ => false) s = zR K (gX G w) s 0 := by
      funext d
      unfold zA zR
      by_cases e : d = s <;> simp [e]
    rw [this]
  have e8 := zR_8 (G := gX G w) hI (gX_I hG w) hs hgl
  have eb := se_bit (Z := zR K (gX G w) s 8) (show g < 8 by omega)
  rw [e8] at eb
  simp (maxSteps := 4000000) (disch := omega) only [en_X0_reaches, s_X0_reaches_0, s_X0_reaches_1, s_X0_reaches_2, s_X0_reaches_3, s_X0_reaches_5, s_X0_reaches_6, e0, iI_add, iI_sub, iI_mul, iI_neg, iI_lt, iI_le, iI_eq, iI_toInt, tn_n, tn_1, inb_I, Int.reduceEq, Int.reduceLT, Int.reduceLE, Int.reduceAdd, Int.reduceSub, Int.reduceMul, Int.reduceNeg, Int.reduceToNat, Nat.reduceAdd, Nat.reduceMul, Int.reduceNatCast, reduceCtorEq, Int.cast_ofNat_Int, bi_tr, bi_fa, bi_0, bi_1, not_true_eq_false, not_false_eq_true, rnk_v, rnk_n, ↓reduceIte, i00, i11, ibi, or_true, true_or, and_true, true_and, List.cons_append, List.nil_append, Option.toList, nop]
  refine Eq.trans outer ?_
  show rn _ _ 8 [_, _, _, _, _, _, some (.int (iI (bts (zR K (gX G w) s 8) 8 : Nat))), some (.int (iI 8)), _] _ _ = _
  by_cases q : dG K (gX G w) s g < 9999
  · rw [bi_t q]
    rw [decide_eq_true q] at eb
    simp (maxSteps := 4000000) (disch := omega) only [s_X0_reaches_8, s_X0_reaches_10, s_X0_reaches_12, s_X0_reaches_134, s_X0_reaches_136, s_X0_reaches_137, s_X0_reaches_139, s_X0_reaches_140, s_X0_reaches_141, s_X0_reaches_144, s_X0_reaches_145, s_X0_reaches_148, s_X0_reaches_149, eb, iI_add, iI_sub, iI_mul, iI_neg, iI_lt, iI_le, iI_eq, iI_toInt, tn_n, tn_1, inb_I, Int.reduceEq, Int.reduceLT, Int.reduceLE, Int.reduceAdd, Int.reduceSub, Int.reduceMul, Int.reduceNeg, Int.reduceToNat, Nat.reduceAdd, Nat.reduceMul, Int.reduceNatCast, reduceCtorEq, Int.cast_ofNat_Int, bi_tr, bi_fa, bi_0, bi_1, not_true_eq_false, not_false_eq_true, rnk_v, rnk_n, ↓reduceIte, i00, i11, ibi, or_true, true_or, and_true, true_and, List.cons_append, List.nil_append, Option.toList, nop]
  · rw [bi_f q]
    rw [decide_eq_false q] at eb
    simp (maxSteps := 4000000) (disch := omega) only [s_X0_reaches_8, s_X0_reaches_10, s_X0_reaches_12, s_X0_reaches_134, s_X0_reaches_136, s_X0_reaches_137, s_X0_reaches_139, s_X0_reaches_140, s_X0_reaches_141, s_X0_reaches_144, s_X0_reaches_145, s_X0_reaches_148, s_X0_reaches_149, eb, iI_add, iI_sub, iI_mul, iI_neg, iI_lt, iI_le, iI_eq, iI_toInt, tn_n, tn_1, inb_I, Int.reduceEq, Int.reduceLT, Int.reduceLE, Int.reduceAdd, Int.reduceSub, Int.reduceMul, Int.reduceNeg, Int.reduceToNat, Nat.reduceAdd, Nat.reduceMul, Int.reduceNatCast, reduceCtorEq, Int.cast_ofNat_Int, bi_tr, bi_fa, bi_0, bi_1, not_true_eq_false, not_false_eq_true, rnk_v, rnk_n, ↓reduceIte, i00, i11, ibi, or_true, true_or, and_true, true_and, List.cons_append, List.nil_append, Option.toList, nop]
def kpX (K : tK) (G : tG) (s g : Nat) : Nat := bts (fun t => decide (dG K (gX G t) s g = 9999)) (kT K)
theorem k_X0_neededTubes {D : Nat} (hD : 2 ≤ D) {M : tM} {K : tK} {G : tG} (hR : Rep M 0 K) (hI : kInv K) (hG : gI K G) (hg : RepG M K G) {s g : Nat} (hs : s < kD K) (hgl : g < kD K) : exF D m_X0_neededTubes [.ref 59, .ref 0, .ref 42, .int (iI s), .int (iI g)] M = some (some (.int (iI (kpX K G s g))), M) := by
  obtain ⟨D, rfl⟩ : ∃ D0, D = D0 + 1 := ⟨D - 1, by omega⟩
  have n0 := kI_n hI
  obtain ⟨r1, r2, r3, r4, r5, r6⟩ := R0_n hR
  have loop := lq (f := fun t => rn (exF D) C_X0_neededTubes 6 [some (.ref 59), some (.ref 0), some (.ref 42), some (.int (iI s)), some (.int (iI g)), some (.int (iI (bts (fun t => decide (dG K (gX G t) s g = 9999)) t))), some (.int (iI t))] [] M) (n := kT K) (by
    intro t ht X hX
    show rn _ _ _ _ _ _ = X
    have k := k_X0_reaches (D := D) (by omega) hR hI hG hg hs hgl (w := t) (by omega)
    have hle := dG_le K (gX G t) s g
    have hlt := bts_lt (fun t => decide (dG K (gX G t) s g = 9999)) t
    rw [s_X0_neededTubes_6]
    by_cases q : dG K (gX G t) s g < 9999
    · rw [bi_t q] at k
      rw [← bts_skip (p := fun t => decide (dG K (gX G t) s g = 9999)) (decide_eq_false (show ¬ dG K (gX G t) s g = 9999 by omega))] at hX
      simp (maxSteps := 4000000) (disch := omega) only [s_X0_neededTubes_8, s_X0_neededTubes_9, s_X0_neededTubes_12, s_X0_neededTubes_15, s_X0_neededTubes_17, s_X0_neededTubes_19, s_X0_neededTubes_22, s_X0_neededTubes_23, s_X0_neededTubes_24, s_X0_neededTubes_25, s_X0_neededTubes_26, s_X0_neededTubes_28, s_X0_neededTubes_30, s_X0_neededTubes_33, s_X0_neededTubes_36, s_X0_neededTubes_38, s_X0_neededTubes_39, s_X0_neededTubes_41, s_X0_neededTubes_42, s_X0_neededTubes_43, s_X0_neededTubes_45, s_X0_neededTubes_48, cls_59, cls_0, fv_0_0, fv_0_1, fv_0_2, fv_0_3, fv_0_4, fv_0_5, fv_0_6, fv_0_7, fv_0_8, fv_0_9, fv_0_10, fv_0_11, fv_0_12, fv_0_13, fv_0_14, fv_0_15, r2, k, leF (show (t : Int) < kT K by omega), leF (show (t : Int) < 16 by omega), iI_add, iI_sub, iI_mul, iI_neg, iI_lt, iI_le, iI_eq, iI_toInt, tn_n, tn_1, inb_I, Int.reduceEq, Int.reduceLT, Int.reduceLE, Int.reduceAdd, Int.reduceSub, Int.reduceMul, Int.reduceNeg, Int.reduceToNat, Nat.reduceAdd, Nat.reduceMul, Int.reduceNatCast, reduceCtorEq, Int.cast_ofNat_Int, bi_tr, bi_fa, bi_0, bi_1, not_true_eq_false, not_false_eq_true, rnk_v, rnk_n, ↓reduceIte, i00, i11, ibi, or_true, true_or, and_true, true_and, List.cons_append, List.nil_append, Option.toList, nop]
      exact hX
    · rw [bi_f q] at k
      rw [← bts_next (p := fun t => decide (dG K (gX G t) s g = 9999)) (decide_eq_true (show dG K (gX G t) s g = 9999 by omega))] at hX
      simp (maxSteps := 4000000) (disch := omega) only [s_X0_neededTubes_8, s_X0_neededTubes_9, s_X0_neededTubes_12, s_X0_neededTubes_15, s_X0_neededTubes_17, s_X0_neededTubes_19, s_X0_neededTubes_22, s_X0_neededTubes_23, s_X0_neededTubes_24, s_X0_neededTubes_25, s_X0_neededTubes_26, s_X0_neededTubes_28, s_X0_neededTubes_30, s_X0_neededTubes_33, s_X0_neededTubes_36, s_X0_neededTubes_38, s_X0_neededTubes_39, s_X0_neededTubes_41, s_X0_neededTubes_42, s_X0_neededTubes_43, s_X0_neededTubes_45, s_X0_neededTubes_48, cls_59, cls_0, fv_0_0, fv_0_1, fv_0_2, fv_0_3, fv_0_4, fv_0_5, fv_0_6, fv_0_7, fv_0_8, fv_0_9, fv_0_10, fv_0_11, fv_0_12, fv_0_13, fv_0_14, fv_0_15, r2, k, iI_shl1 (show t < 31 by omega), iI_or, leF (show (t : Int) < kT K by omega), leF (show (t : Int) < 16 by omega), iI_add, iI_sub, iI_mul, iI_neg, iI_lt, iI_le, iI_eq, iI_toInt, tn_n, tn_1, inb_I, Int.reduceEq, Int.reduceLT, Int.reduceLE, Int.reduceAdd, Int.reduceSub, Int.reduceMul, Int.reduceNeg, Int.reduceToNat, Nat.reduceAdd, Nat.reduceMul, Int.reduceNatCast, reduceCtorEq, Int.cast_ofNat_Int, bi_tr, bi_fa, bi_0, bi_1, not_true_eq_false, not_false_eq_true, rnk_v, rnk_n, ↓reduceIte, i00, i11, ibi, or_true, true_or, and_true, true_and, List.cons_append, List.nil_append, Option.toList, nop]
      exact hX)
  simp (maxSteps := 4000000) (disch := omega) only [en_X0_neededTubes, s_X0_neededTubes_0, s_X0_neededTubes_1, s_X0_neededTubes_3, s_X0_neededTubes_4, iI_add, iI_sub, iI_mul, iI_neg, iI_lt, iI_le, iI_eq, iI_toInt, tn_n, tn_1, inb_I, Int.reduceEq, Int.reduceLT, Int.reduceLE, Int.reduceAdd, Int.reduceSub, Int.reduceMul, Int.reduceNeg, Int.reduceToNat, Nat.reduceAdd, Nat.reduceMul, Int.reduceNatCast, reduceCtorEq, Int.cast_ofNat_Int, bi_tr, bi_fa, bi_0, bi_1, not_true_eq_false, not_false_eq_true, rnk_v, rnk_n, ↓reduceIte, i00, i11, ibi, or_true, true_or, and_true, true_and, List.cons_append, List.nil_append, Option.toList, nop]
  refine Eq.trans loop ?_
  unfold kpX
  simp (maxSteps := 4000000) (disch := omega) only [s_X0_neededTubes_6, s_X0_neededTubes_8, s_X0_neededTubes_9, s_X0_neededTubes_12, s_X0_neededTubes_51, s_X0_neededTubes_53, cls_0, fv_0_0, fv_0_1, fv_0_2, fv_0_3, fv_0_4, fv_0_5, fv_0_6, fv_0_7, fv_0_8, fv_0_9, fv_0_10, fv_0_11, fv_0_12, fv_0_13, fv_0_14, fv_0_15, r2, leT (show (kT K : Int) ≤ kT K by omega), iI_add, iI_sub, iI_mul, iI_neg, iI_lt, iI_le, iI_eq, iI_toInt, tn_n, tn_1, inb_I, Int.reduceEq, Int.reduceLT, Int.reduceLE, Int.reduceAdd, Int.reduceSub, Int.reduceMul, Int.reduceNeg, Int.reduceToNat, Nat.reduceAdd, Nat.reduceMul, Int.reduceNatCast, reduceCtorEq, Int.cast_ofNat_Int, bi_tr, bi_fa, bi_0, bi_1, not_true_eq_false, not_false_eq_true, rnk_v, rnk_n, ↓reduceIte, i00, i11, ibi, or_true, true_or, and_true, true_and, List.cons_append, List.nil_append, Option.toList, nop]
