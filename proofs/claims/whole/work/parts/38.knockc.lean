/-! KNOCKS: what is meant; THE CLASS -/
def hdK (K : tK) (t d : Nat) : Nat := min (dG K (gS K) (kF K t) d) (dG K (gS K) (kO K t) d)
theorem hdK_le (K : tK) (t d : Nat) : hdK K t d ≤ 9999 := by
  have := dG_le K (gS K) (kF K t) d
  unfold hdK; omega
def kDs (Q : tQ) (s k : Nat) : Nat := (qI Q s (2 * k)).toNat
def kMn (Q : tQ) (s k : Nat) : Int := qI Q s (2 * k + 1)
def kGd (K : tK) (Q : tQ) (s k : Nat) : Bool := decide ((0 ≤ qI Q s (2 * k) ∧ qI Q s (2 * k) < (kD K : Int)) ∧ 0 ≤ qI Q s (2 * k + 1) ∧ qI Q s (2 * k + 1) ≤ 999)
def alB (p : Nat → Bool) : Nat → Bool
  | 0 => true
  | n + 1 => alB p n && p n
theorem alB_all {p : Nat → Bool} : ∀ {n : Nat}, alB p n = true → ∀ k, k < n → p k = true
  | 0, _, k, hk => by omega
  | n + 1, h, k, hk => by
    simp only [alB, Bool.and_eq_true] at h
    by_cases e : k = n
    · subst e; exact h.2
    · exact alB_all h.1 k (by omega)
theorem alB_no {p : Nat → Bool} {k : Nat} (h : p k = false) : ∀ {n : Nat}, k < n → alB p n = false
  | 0, hk => by omega
  | n + 1, hk => by
    simp only [alB]
    by_cases e : k = n
    · subst e; rw [h]; simp
    · rw [alB_no h (show k < n by omega)]; rfl
def knQ (K : tK) (Q : tQ) (s n : Int) : Int := if rrQ Q s < 0 then rrQ Q s else if n < 0 then -4 else if (qN Q s.toNat : Int) / 2 < n then -5 else if ¬ ((1 ≤ n ∧ n ≤ 8) ∧ alB (kGd K Q s.toNat) n.toNat = true) then -6 else 0
theorem knQ_rng (K : tK) (Q : tQ) (s n : Int) : -6 ≤ knQ K Q s n ∧ knQ K Q s n ≤ 0 := by
  have := rrQ_rng Q s
  unfold knQ; (repeat' split) <;> omega
def ftK (K : tK) (Q : tQ) (s n t : Nat) : Bool := alB (fun k => decide (hdK K t (kDs Q s k) < 9999 ∧ kMn Q s k - hdK K t (kDs Q s k) = kMn Q s 0 - hdK K t (kDs Q s 0))) n
def fitN (K : tK) (Q : tQ) (s n : Nat) : Nat := bts (ftK K Q s n) (kT K)
def tdN (Q : tQ) (s : Nat) : Nat → Nat
  | 0 => 0
  | k + 1 => tdN Q s k ||| 2 ^ kDs Q s k
def ltK (K : tK) (Q : tQ) (s t d : Nat) : Int := if hdK K t d = 9999 then 9999 else (hdK K t d : Int) - hdK K t (kDs Q s 0)
def cnK (K : tK) (Q : tQ) (s n d t : Nat) : Nat := ctn (fun u => ftK K Q s n t && ftK K Q s n u && decide (ltK K Q s t d = ltK K Q s u d)) (kT K)
def mlK (K : tK) (Q : tQ) (s n d : Nat) : Nat := mxs (cnK K Q s n d) (kT K)
def lsH (K : tK) (Q : tQ) (s n d : Nat) : Nat := if (tdN Q s n).testBit d = true then 17 else mlK K Q s n d
def lsZ (K : tK) (Q : tQ) (s n : Nat) : Int := if popc (fitN K Q s n) < 2 then -1 else (amn (lsH K Q s n) 17 (kD K)).1
theorem fit_lt {K : tK} (hI : kInv K) (Q : tQ) (s n : Nat) : fitN K Q s n < 65536 := by
  have := bts_lt (ftK K Q s n) (kT K)
  have h2 : 2 ^ kT K ≤ 2 ^ 16 := Nat.pow_le_pow_right (by omega) hI.2.1
  unfold fitN
  omega
theorem fit_bit {K : tK} {Q : tQ} {s n t : Nat} (ht : t < kT K) : (fitN K Q s n).testBit t = ftK K Q s n t := by
  unfold fitN; rw [bts_bit]; simp [ht]
theorem tdN_lt {K : tK} (hI : kInv K) {Q : tQ} {s : Nat} : ∀ {n : Nat}, (∀ k, k < n → kGd K Q s k = true) → tdN Q s n < 256
  | 0, _ => by simp [tdN]
  | n + 1, h => by
    have h1 := tdN_lt hI (n := n) (fun k hk => h k (by omega))
    have h2 := h n (by omega)
    simp only [kGd, decide_eq_true_eq] at h2
    have n0 := kI_n hI
    have h3 : kDs Q s n < 8 := by unfold kDs; omega
    have h4 : 2 ^ kDs Q s n < 2 ^ 8 := Nat.pow_lt_pow_right (by omega) h3
    show _ ||| _ < 2 ^ 8
    exact Nat.or_lt_two_pow h1 h4
/-- the delays of the class -/
def RepDl (M : tM) (K : tK) : Prop := ∀ t, t < kT K → ∀ d, d < kD K → M.1 (64 + t) d = iI (hdK K t d)
theorem dl_in {t : Nat} (h : t < 16) : 64 + t ∈ [64, 65, 66, 67, 68, 69, 70, 71, 72, 73, 74, 75, 76, 77, 78, 79] := by
  simp
  omega
theorem k_X3_hear {D : Nat} (hD : 5 ≤ D) {M : tM} {K : tK} (hR : Rep M 0 K) (hI : kInv K) : ∃ M', exF D m_X3_hear [.ref 62, .ref 0, .ref 42] M = some (none, M') ∧ RepDl M' K ∧ Sm [43, 44, 45, 46, 49, 50, 51, 52, 53, 54, 55, 56, 64, 65, 66, 67, 68, 69, 70, 71, 72, 73, 74, 75, 76, 77, 78, 79] M M' := by
  obtain ⟨D, rfl⟩ : ∃ D0, D = D0 + 1 := ⟨D - 1, by omega⟩
  have n0 := kI_n hI
  obtain ⟨M1, a1, a2, a3⟩ := k_X9_prepareForKnocks (D := D) (by omega) h0 hR hI
  have w1 : Rep M1 0 K := Rep_o h0 hR a3 (by simp)
  obtain ⟨M2, b1, b2, b3⟩ := k_X9_fillTable (D := D) (by omega) h0 w1 hI (gS_I hI) a2
  have w2 : Rep M2 0 K := Rep_o h0 w1 b3 (by simp)
  obtain ⟨⟨M3, x4⟩, e, p1, p2⟩ := lp (f := fun t (b : tM × Option Value) => rn (exF D) C_X3_hear 12 [some (.ref 62), some (.ref 0), some (.ref 42), some (.int (iI t)), b.2] [] b.1) (P := fun t b => Sm [64, 65, 66, 67, 68, 69, 70, 71, 72, 73, 74, 75, 76, 77, 78, 79] M2 b.1 ∧ ∀ u, u < t → ∀ d, d < kD K → b.1.1 (64 + u) d = iI (hdK K u d)) (n := kT K) (by
    rintro t ⟨N, x⟩ ht ⟨p1, p2⟩
    have w3 : Rep N 0 K := Rep_o h0 w2 p1 (by simp)
    have T3 : RepTb N K (dG K (gS K)) := RepTb_Sm hI b2 p1 (by simp)
    obtain ⟨r1, r2, r3, r4, r5, r6⟩ := R0_n w3
    have g1 := kI_t hI ht
    obtain ⟨N1, i1, i2, i3⟩ := lp (f := fun d (N1 : tM) => rn (exF D) C_X3_hear 29 [some (.ref 62), some (.ref 0), some (.ref 42), some (.int (iI t)), some (.int (iI d))] [] N1) (P := fun d N1 => Sm [64 + t] N N1 ∧ ∀ u, u < d → N1.1 (64 + t) u = iI (hdK K t u)) (n := kD K) (by
      rintro d N1 hd ⟨q1, q2⟩
      have w4 : Rep N1 0 K := Rep_o h0 w3 q1 (by simp; omega)
      have T4 : RepTb N1 K (dG K (gS K)) := RepTb_Sm hI T3 q1 (by simp; omega)
      obtain ⟨s1, s2, s3, s4, s5, s6⟩ := R0_n w4
      obtain ⟨f1, f2, f3, f4⟩ := R0_t w4 ht
      obtain ⟨t1, t2⟩ := T4 (kF K t) g1.1.1 d hd
      obtain ⟨t3, t4⟩ := T4 (kO K t) g1.1.2.1 d hd
      have e4 : min (dG K (gS K) (kF K t) d : Int) (dG K (gS K) (kO K t) d : Int) = (hdK K t d : Int) := by unfold hdK; omega
      refine ⟨sI N1 (64 + t) d (iI (hdK K t d)), ?_, Sm_tr q1 (Sm_sI (by simp)), ?_⟩
      · intro X hX
        show rn _ _ _ _ _ _ = X
        rw [s_X3_hear_29]
        simp (maxSteps := 4000000) (disch := omega) only [s_X3_hear_31, s_X3_hear_32, s_X3_hear_35, s_X3_hear_38, s_X3_hear_40, s_X3_hear_42, s_X3_hear_45, s_X3_hear_46, s_X3_hear_49, s_X3_hear_50, s_X3_hear_51, s_X3_hear_53, s_X3_hear_54, s_X3_hear_55, s_X3_hear_58, s_X3_hear_59, s_X3_hear_60, s_X3_hear_62, s_X3_hear_65, s_X3_hear_66, s_X3_hear_67, s_X3_hear_70, s_X3_hear_71, s_X3_hear_72, s_X3_hear_74, s_X3_hear_77, s_X3_hear_80, s_X3_hear_81, s_X3_hear_84, cls_62, fv_62_0, fv_62_1, fv_62_2, fv_62_3, ak_63, al_63, rf_63, cls_0, fv_0_0, fv_0_1, fv_0_2, fv_0_3, fv_0_4, fv_0_5, fv_0_6, fv_0_7, fv_0_8, fv_0_9, fv_0_10, fv_0_11, fv_0_12, fv_0_13, fv_0_14, fv_0_15, ak_1, al_1, ak_2, al_2, ak_3, al_3, ak_4, al_4, ak_5, al_5, ak_6, al_6, ak_7, al_7, ak_8, al_8, ak_9, al_9, cls_42, fv_42_0, fv_42_1, fv_42_2, fv_42_3, fv_42_4, fv_42_5, ak_43, al_43, ak_44, al_44, ak_45, al_45, ak_46, al_46, ak_47, al_47, ak_48, al_48, rf_48, ak_49, al_49, ak_50, al_50, ak_51, al_51, ak_52, al_52, ak_53, al_53, ak_54, al_54, ak_55, al_55, ak_56, al_56, tn_add, tn_mul, k_X9_between (D := D) (show _ ≤ D by omega) hI T4, dl_ak, dl_al, s1, f1, f2, mnI_iI, e4, leF (show (d : Int) < kD K by omega), leF (show (d : Int) < 8 by omega), iI_add, iI_sub, iI_mul, iI_neg, iI_lt, iI_le, iI_eq, iI_toInt, tn_n, tn_1, inb_I, Int.reduceEq, Int.reduceLT, Int.reduceLE, Int.reduceAdd, Int.reduceSub, Int.reduceMul, Int.reduceNeg, Int.reduceToNat, Nat.reduceAdd, Nat.reduceMul, Int.reduceNatCast, reduceCtorEq, Int.cast_ofNat_Int, bi_tr, bi_fa, bi_0, bi_1, not_true_eq_false, not_false_eq_true, rnk_v, rnk_n, ↓reduceIte, i00, i11, ibi, or_true, true_or, and_true, true_and, List.cons_append, List.nil_append, Option.toList, nop]
        exact hX
      · intro u hu
        by_cases c : u = d
        · subst c; rw [sI_s]
        · rw [sI_k _ _ c]; exact q2 u (by omega)) (Nat.zero_le _) (a := N) ⟨Sm_rf _ _, fun u hu => absurd hu (by omega)⟩
    have w5 : Rep N1 0 K := Rep_o h0 w3 i2 (by simp; omega)
    have v5 := (R0_n w5).1
    refine ⟨(N1, some (.int (iI (kD K)))), ?_, Sm_tr p1 (Sm_mono (fun a ha => by simp at ha; rw [ha]; exact dl_in (by omega)) i2), ?_⟩
    · intro X hX
      show rn _ _ _ _ _ _ = X
      rw [s_X3_hear_12]
      simp (maxSteps := 4000000) (disch := omega) only [s_X3_hear_13, s_X3_hear_14, s_X3_hear_17, s_X3_hear_20, s_X3_hear_21, s_X3_hear_23, s_X3_hear_26, s_X3_hear_27, cls_0, fv_0_0, fv_0_1, fv_0_2, fv_0_3, fv_0_4, fv_0_5, fv_0_6, fv_0_7, fv_0_8, fv_0_9, fv_0_10, fv_0_11, fv_0_12, fv_0_13, fv_0_14, fv_0_15, r2, leF (show (t : Int) < kT K by omega), leF (show (t : Int) < 16 by omega), iI_add, iI_sub, iI_mul, iI_neg, iI_lt, iI_le, iI_eq, iI_toInt, tn_n, tn_1, inb_I, Int.reduceEq, Int.reduceLT, Int.reduceLE, Int.reduceAdd, Int.reduceSub, Int.reduceMul, Int.reduceNeg, Int.reduceToNat, Nat.reduceAdd, Nat.reduceMul, Int.reduceNatCast, reduceCtorEq, Int.cast_ofNat_Int, bi_tr, bi_fa, bi_0, bi_1, not_true_eq_false, not_false_eq_true, rnk_v, rnk_n, ↓reduceIte, i00, i11, ibi, or_true, true_or, and_true, true_and, List.cons_append, List.nil_append, Option.toList, nop]
      refine Eq.trans i1 ?_
      simp (maxSteps := 4000000) (disch := omega) only [s_X3_hear_29, s_X3_hear_31, s_X3_hear_32, s_X3_hear_35, s_X3_hear_87, s_X3_hear_90, cls_0, fv_0_0, fv_0_1, fv_0_2, fv_0_3, fv_0_4, fv_0_5, fv_0_6, fv_0_7, fv_0_8, fv_0_9, fv_0_10, fv_0_11, fv_0_12, fv_0_13, fv_0_14, fv_0_15, v5, leT (show (kD K : Int) ≤ kD K by omega), iI_add, iI_sub, iI_mul, iI_neg, iI_lt, iI_le, iI_eq, iI_toInt, tn_n, tn_1, inb_I, Int.reduceEq, Int.reduceLT, Int.reduceLE, Int.reduceAdd, Int.reduceSub, Int.reduceMul, Int.reduceNeg, Int.reduceToNat, Nat.reduceAdd, Nat.reduceMul, Int.reduceNatCast, reduceCtorEq, Int.cast_ofNat_Int, bi_tr, bi_fa, bi_0, bi_1, not_true_eq_false, not_false_eq_true, rnk_v, rnk_n, ↓reduceIte, i00, i11, ibi, or_true, true_or, and_true, true_and, List.cons_append, List.nil_append, Option.toList, nop]
      exact hX
    · intro u hu d hd
      by_cases c : u = t
      · subst c; exact i3 d hd
      · rw [(i2 (64 + u) (by simp; omega)).1]; exact p2 u (by omega) d hd) (Nat.zero_le _) (a := (M2, none)) ⟨Sm_rf _ _, fun u hu => absurd hu (by omega)⟩
  have p1' : Sm [64, 65, 66, 67, 68, 69, 70, 71, 72, 73, 74, 75, 76, 77, 78, 79] M2 M3 := p1
  have w3 : Rep M3 0 K := Rep_o h0 w2 p1' (by simp)
  have v3 := (R0_n w3).2.1
  refine ⟨M3, ?_, p2, Sm_tr (Sm_mono (by simp) a3) (Sm_tr (Sm_mono (by simp) b3) (Sm_mono (by simp) p1'))⟩
  simp (maxSteps := 4000000) (disch := omega) only [en_X3_hear, s_X3_hear_0, s_X3_hear_1, s_X3_hear_2, s_X3_hear_5, s_X3_hear_6, s_X3_hear_7, s_X3_hear_10, s_X3_hear_11, cls_42, a1, b1, iI_add, iI_sub, iI_mul, iI_neg, iI_lt, iI_le, iI_eq, iI_toInt, tn_n, tn_1, inb_I, Int.reduceEq, Int.reduceLT, Int.reduceLE, Int.reduceAdd, Int.reduceSub, Int.reduceMul, Int.reduceNeg, Int.reduceToNat, Nat.reduceAdd, Nat.reduceMul, Int.reduceNatCast, reduceCtorEq, Int.cast_ofNat_Int, bi_tr, bi_fa, bi_0, bi_1, not_true_eq_false, not_false_eq_true, rnk_v, rnk_n, ↓reduceIte, i00, i11, ibi, or_true, true_or, and_true, true_and, List.cons_append, List.nil_append, Option.toList, nop]
  refine e.trans ?_
  simp (maxSteps := 4000000) (disch := omega) only [s_X3_hear_12, s_X3_hear_13, s_X3_hear_14, s_X3_hear_17, s_X3_hear_0, s_X3_hear_1, s_X3_hear_2, s_X3_hear_5, s_X3_hear_6, s_X3_hear_7, s_X3_hear_10, s_X3_hear_11, s_X3_hear_12, s_X3_hear_13, s_X3_hear_14, s_X3_hear_17, s_X3_hear_20, s_X3_hear_21, s_X3_hear_23, s_X3_hear_26, s_X3_hear_27, s_X3_hear_29, s_X3_hear_31, s_X3_hear_32, s_X3_hear_35, s_X3_hear_38, s_X3_hear_40, s_X3_hear_42, s_X3_hear_45, s_X3_hear_46, s_X3_hear_49, s_X3_hear_50, s_X3_hear_51, s_X3_hear_53, s_X3_hear_54, s_X3_hear_55, s_X3_hear_58, s_X3_hear_59, s_X3_hear_60, s_X3_hear_62, s_X3_hear_65, s_X3_hear_66, s_X3_hear_67, s_X3_hear_70, s_X3_hear_71, s_X3_hear_72, s_X3_hear_74, s_X3_hear_77, s_X3_hear_80, s_X3_hear_81, s_X3_hear_84, s_X3_hear_87, s_X3_hear_90, s_X3_hear_93, cls_0, fv_0_0, fv_0_1, fv_0_2, fv_0_3, fv_0_4, fv_0_5, fv_0_6, fv_0_7, fv_0_8, fv_0_9, fv_0_10, fv_0_11, fv_0_12, fv_0_13, fv_0_14, fv_0_15, v3, leT (show (kT K : Int) ≤ kT K by omega), iI_add, iI_sub, iI_mul, iI_neg, iI_lt, iI_le, iI_eq, iI_toInt, tn_n, tn_1, inb_I, Int.reduceEq, Int.reduceLT, Int.reduceLE, Int.reduceAdd, Int.reduceSub, Int.reduceMul, Int.reduceNeg, Int.reduceToNat, Nat.reduceAdd, Nat.reduceMul, Int.reduceNatCast, reduceCtorEq, Int.cast_ofNat_Int, bi_tr, bi_fa, bi_0, bi_1, not_true_eq_false, not_false_eq_true, rnk_v, rnk_n, ↓reduceIte, i00, i11, ibi, or_true, true_or, and_true, true_and, List.cons_append, List.nil_append, Option.toList, nop]
/-- what holds of knocks that may be -/
def kOK (K : tK) (Q : tQ) (s n : Nat) : Prop := (s < 8 ∧ 1 ≤ n ∧ n ≤ 8 ∧ 2 * n ≤ qZ Q s) ∧ ∀ k, k < n → ((0 ≤ qI Q s (2 * k) ∧ qI Q s (2 * k) < (kD K : Int)) ∧ 0 ≤ qI Q s (2 * k + 1) ∧ qI Q s (2 * k + 1) ≤ 999)
theorem kOK_d {K : tK} {Q : tQ} {s n : Nat} (h : kOK K Q s n) {k : Nat} (hk : k < n) : qI Q s (2 * k) = (kDs Q s k : Int) ∧ kDs Q s k < kD K ∧ qI Q s (2 * k + 1) = kMn Q s k ∧ 0 ≤ kMn Q s k ∧ kMn Q s k ≤ 999 := by
  have := h.2 k hk
  unfold kDs kMn
  omega
/-- the told twos, as the class keeps them -/
def RepKn (M : tM) (Q : tQ) (s n : Nat) : Prop := M.1 62 2 = iI n ∧ ∀ k, k < n → M.1 107 k = iI (qI Q s (2 * k)) ∧ M.1 108 k = iI (qI Q s (2 * k + 1))
theorem RepKn_Sm {l : List Nat} {M M' : tM} {Q : tQ} {s n : Nat} (h : RepKn M Q s n) (hs : Sm l M M') (hl : ∀ a ∈ l, a ≠ 62 ∧ a ≠ 107 ∧ a ≠ 108) : RepKn M' Q s n := by
  have hn : ∀ a, a = 62 ∨ a = 107 ∨ a = 108 → a ∉ l := fun a ha q => by have := hl a q; omega
  unfold RepKn
  rw [(hs 62 (hn _ (by omega))).1, (hs 107 (hn _ (by omega))).1, (hs 108 (hn _ (by omega))).1]
  exact h
theorem RepKn_d {M : tM} {K : tK} {Q : tQ} {s n : Nat} (h : RepKn M Q s n) (hk : kOK K Q s n) {k : Nat} (hkn : k < n) : M.1 107 k = iI (kDs Q s k) ∧ M.1 108 k = iI (kMn Q s k) := by
  obtain ⟨d1, d2, d3, d4, d5⟩ := kOK_d hk hkn
  obtain ⟨a1, a2⟩ := h.2 k hkn
  rw [a1, a2, d1, d3]
  exact ⟨rfl, rfl⟩
theorem k_X3_read {D : Nat} (hD : 6 ≤ D) {M : tM} {K : tK} {Q : tQ} (hS : RepS M Q) (hQ : qInv Q) {s n : Nat} (hk : kOK K Q s n) : ∃ M', exF D m_X3_read [.ref 62, .ref 30, .int (iI s), .int (iI n)] M = some (none, M') ∧ RepKn M' Q s n ∧ Sm [62, 107, 108] M M' := by
  obtain ⟨D, rfl⟩ : ∃ D0, D = D0 + 1 := ⟨D - 1, by omega⟩
  obtain ⟨⟨a1, a2, a3, a4⟩, -⟩ := id hk
  have e8 : min (n : Int) 8 = (n : Int) := by omega
  have s0 : Sm [62, 107, 108] M (sI M 62 2 (iI n)) := Sm_sI (by simp)
  obtain ⟨M', e, p1, p2, p3⟩ := lp (f := fun k (N : tM) => rn (exF D) C_X3_read 13 [some (.ref 62), some (.ref 30), some (.int (iI s)), some (.int (iI n)), some (.int (iI k))] [] N) (P := fun k N => Sm [62, 107, 108] M N ∧ N.1 62 2 = iI n ∧ ∀ u, u < k → N.1 107 u = iI (qI Q s (2 * u)) ∧ N.1 108 u = iI (qI Q s (2 * u + 1))) (n := n) (by
    rintro k N hkn ⟨p1, p2, p3⟩
    have hS' : RepS N Q := RepS_Sm hS p1 (by simp)
    have hS2 : RepS (sI N 107 k (iI (qI Q s (2 * k)))) Q := RepS_Sm hS' (Sm_sI (l := [107]) (by simp)) (by simp)
    have i1 := k_X8_intAt (D := D) (by omega) hS' hQ a1 (i := 2 * k) (by omega)
    have i2 := k_X8_intAt (D := D) (by omega) hS2 hQ a1 (i := 2 * k + 1) (by omega)
    rw [show ((2 * k : Nat) : Int) = 2 * (k : Int) by omega] at i1
    rw [show ((2 * k + 1 : Nat) : Int) = 2 * (k : Int) + 1 by omega] at i2
    refine ⟨sI (sI N 107 k (iI (qI Q s (2 * k)))) 108 k (iI (qI Q s (2 * k + 1))), ?_, Sm_tr p1 (Sm_tr (Sm_sI (by simp)) (Sm_sI (by simp))), ?_, ?_⟩
    · intro X hX
      show rn _ _ _ _ _ _ = X
      rw [s_X3_read_13]
      simp (maxSteps := 4000000) (disch := omega) only [s_X3_read_15, s_X3_read_16, s_X3_read_19, s_X3_read_22, s_X3_read_24, s_X3_read_26, s_X3_read_29, s_X3_read_30, s_X3_read_33, s_X3_read_35, s_X3_read_36, s_X3_read_37, s_X3_read_38, s_X3_read_40, s_X3_read_41, s_X3_read_44, s_X3_read_45, s_X3_read_46, s_X3_read_49, s_X3_read_51, s_X3_read_52, s_X3_read_53, s_X3_read_54, s_X3_read_56, s_X3_read_57, s_X3_read_58, s_X3_read_59, s_X3_read_62, s_X3_read_63, s_X3_read_66, cls_62, fv_62_0, fv_62_1, fv_62_2, fv_62_3, ak_107, al_107, ak_108, al_108, cls_30, p2, i1, i2, leF (show (k : Int) < n by omega), leF (show (k : Int) < 8 by omega), sI_s, sI_k, sI_a, sI_2, rI_s, rI_a, rI_2, sJ_1, iI_add, iI_sub, iI_mul, iI_neg, iI_lt, iI_le, iI_eq, iI_toInt, tn_n, tn_1, inb_I, Int.reduceEq, Int.reduceLT, Int.reduceLE, Int.reduceAdd, Int.reduceSub, Int.reduceMul, Int.reduceNeg, Int.reduceToNat, Nat.reduceAdd, Nat.reduceMul, Int.reduceNatCast, reduceCtorEq, Int.cast_ofNat_Int, bi_tr, bi_fa, bi_0, bi_1, not_true_eq_false, not_false_eq_true, rnk_v, rnk_n, ↓reduceIte, i00, i11, ibi, or_true, true_or, and_true, true_and, List.cons_append, List.nil_append, Option.toList, nop]
      exact hX
    · simp (disch := omega) only [sI_s, sI_k, sI_a, sI_2, rI_s, rI_a, rI_2, sJ_1]
      exact p2
    · intro u hu
      by_cases c : u = k
      · subst c
        refine ⟨?_, ?_⟩ <;> simp (disch := omega) only [sI_s, sI_k, sI_a, sI_2, rI_s, rI_a, rI_2, sJ_1]
      · simp (disch := omega) only [sI_s, sI_k, sI_a, sI_2, rI_s, rI_a, rI_2, sJ_1]
        exact p3 u (by omega)) (Nat.zero_le _) (a := sI M 62 2 (iI n)) ⟨s0, by simp (disch := omega) only [sI_s, sI_k, sI_a, sI_2, rI_s, rI_a, rI_2, sJ_1], fun u hu => absurd hu (by omega)⟩
  refine ⟨M', ?_, ⟨p2, p3⟩, p1⟩
  simp (maxSteps := 4000000) (disch := omega) only [en_X3_read, s_X3_read_0, s_X3_read_1, s_X3_read_2, s_X3_read_4, s_X3_read_7, s_X3_read_10, s_X3_read_11, cls_62, fv_62_0, fv_62_1, fv_62_2, fv_62_3, mnI_iI, e8, iI_add, iI_sub, iI_mul, iI_neg, iI_lt, iI_le, iI_eq, iI_toInt, tn_n, tn_1, inb_I, Int.reduceEq, Int.reduceLT, Int.reduceLE, Int.reduceAdd, Int.reduceSub, Int.reduceMul, Int.reduceNeg, Int.reduceToNat, Nat.reduceAdd, Nat.reduceMul, Int.reduceNatCast, reduceCtorEq, Int.cast_ofNat_Int, bi_tr, bi_fa, bi_0, bi_1, not_true_eq_false, not_false_eq_true, rnk_v, rnk_n, ↓reduceIte, i00, i11, ibi, or_true, true_or, and_true, true_and, List.cons_append, List.nil_append, Option.toList, nop]
  refine e.trans ?_
  simp (maxSteps := 4000000) (disch := omega) only [s_X3_read_13, s_X3_read_15, s_X3_read_16, s_X3_read_19, s_X3_read_0, s_X3_read_1, s_X3_read_2, s_X3_read_4, s_X3_read_7, s_X3_read_10, s_X3_read_11, s_X3_read_13, s_X3_read_15, s_X3_read_16, s_X3_read_19, s_X3_read_22, s_X3_read_24, s_X3_read_26, s_X3_read_29, s_X3_read_30, s_X3_read_33, s_X3_read_35, s_X3_read_36, s_X3_read_37, s_X3_read_38, s_X3_read_40, s_X3_read_41, s_X3_read_44, s_X3_read_45, s_X3_read_46, s_X3_read_49, s_X3_read_51, s_X3_read_52, s_X3_read_53, s_X3_read_54, s_X3_read_56, s_X3_read_57, s_X3_read_58, s_X3_read_59, s_X3_read_62, s_X3_read_63, s_X3_read_66, s_X3_read_69, cls_62, fv_62_0, fv_62_1, fv_62_2, fv_62_3, p2, leT (show (n : Int) ≤ n by omega), iI_add, iI_sub, iI_mul, iI_neg, iI_lt, iI_le, iI_eq, iI_toInt, tn_n, tn_1, inb_I, Int.reduceEq, Int.reduceLT, Int.reduceLE, Int.reduceAdd, Int.reduceSub, Int.reduceMul, Int.reduceNeg, Int.reduceToNat, Nat.reduceAdd, Nat.reduceMul, Int.reduceNatCast, reduceCtorEq, Int.cast_ofNat_Int, bi_tr, bi_fa, bi_0, bi_1, not_true_eq_false, not_false_eq_true, rnk_v, rnk_n, ↓reduceIte, i00, i11, ibi, or_true, true_or, and_true, true_and, List.cons_append, List.nil_append, Option.toList, nop]
theorem k_X3_fits {D : Nat} (hD : 2 ≤ D) {M : tM} {K : tK} {Q : tQ} (hR : Rep M 0 K) (hI : kInv K) (hd : RepDl M K) {s n t : Nat} (hS : RepKn M Q s n) (hk : kOK K Q s n) (ht : t < kT K) : exF D m_X3_fits [.ref 62, .ref 0, .int (iI t)] M = some (some (.int (bi (ftK K Q s n t = true))), M) := by
  obtain ⟨D, rfl⟩ : ∃ D0, D = D0 + 1 := ⟨D - 1, by omega⟩
  have n0 := kI_n hI
  have hn1 := hk.1
  have hto := hS.1
  have key : ∀ m k, k + m = n → (∀ j, j < k → hdK K t (kDs Q s j) < 9999 ∧ kMn Q s j - hdK K t (kDs Q s j) = kMn Q s 0 - hdK K t (kDs Q s 0)) → ∀ x5 x6, rn (exF D) C_X3_fits 5 [some (.ref 62), some (.ref 0), some (.int (iI t)), some (.int (iI (if k = 0 then 0 else kMn Q s 0 - hdK K t (kDs Q s 0)))), some (.int (iI k)), x5, x6] [] M = some (some (.int (bi (ftK K Q s n t = true))), M) := by
    intro m
    induction m with
    | zero =>
      intro k hkn hp x5 x6
      have e : ftK K Q s n t = true := by
        unfold ftK
        have : ∀ j, j ≤ n → alB (fun k => decide (hdK K t (kDs Q s k) < 9999 ∧ kMn Q s k - hdK K t (kDs Q s k) = kMn Q s 0 - hdK K t (kDs Q s 0))) j = true := by
          intro j
          induction j with
          | zero => intro _; rfl
          | succ j ih =>
            intro hj
            simp only [alB, ih (by omega), Bool.true_and, decide_eq_true_eq]
            exact hp j (by omega)
        exact this n (Nat.le_refl _)
      rw [bi_t e]
      simp (maxSteps := 4000000) (disch := omega) only [s_X3_fits_5, s_X3_fits_7, s_X3_fits_8, s_X3_fits_11, s_X3_fits_97, s_X3_fits_98, cls_62, fv_62_0, fv_62_1, fv_62_2, fv_62_3, hto, leT (show (n : Int) ≤ k by omega), iI_add, iI_sub, iI_mul, iI_neg, iI_lt, iI_le, iI_eq, iI_toInt, tn_n, tn_1, inb_I, Int.reduceEq, Int.reduceLT, Int.reduceLE, Int.reduceAdd, Int.reduceSub, Int.reduceMul, Int.reduceNeg, Int.reduceToNat, Nat.reduceAdd, Nat.reduceMul, Int.reduceNatCast, reduceCtorEq, Int.cast_ofNat_Int, bi_tr, bi_fa, bi_0, bi_1, not_true_eq_false, not_false_eq_true, rnk_v, rnk_n, ↓reduceIte, i00, i11, ibi, or_true, true_or, and_true, true_and, List.cons_append, List.nil_append, Option.toList, nop]
    | succ m ih =>
      intro k hkn hp x5 x6
      obtain ⟨d1, d2, d3, d4, d5⟩ := kOK_d hk (show k < n by omega)
      obtain ⟨i1, i2⟩ := RepKn_d hS hk (show k < n by omega)
      have z1 : 0 ≤ (kDs Q s k : Int) ∧ (kDs Q s k : Int) < (kD K : Int) := by omega
      have g1 := hd t ht (kDs Q s k) d2
      have g2 := hdK_le K t (kDs Q s k)
      have g3 := hdK_le K t (kDs Q s 0)
      obtain ⟨b1, b2, b3, b4, b5⟩ := kOK_d hk (show 0 < n by omega)
      by_cases c1 : hdK K t (kDs Q s k) = 9999
      · have e : ftK K Q s n t = false := alB_no (k := k) (decide_eq_false (fun h => by omega)) (by omega)
        rw [bi_f (by rw [e]; simp)]
        rw [c1] at g1
        simp (maxSteps := 4000000) (disch := omega) only [s_X3_fits_5, s_X3_fits_7, s_X3_fits_8, s_X3_fits_11, s_X3_fits_14, s_X3_fits_16, s_X3_fits_18, s_X3_fits_21, s_X3_fits_22, s_X3_fits_25, s_X3_fits_27, s_X3_fits_28, s_X3_fits_30, s_X3_fits_31, s_X3_fits_33, s_X3_fits_36, s_X3_fits_39, s_X3_fits_40, s_X3_fits_43, s_X3_fits_44, s_X3_fits_45, s_X3_fits_47, s_X3_fits_48, s_X3_fits_51, s_X3_fits_54, s_X3_fits_55, cls_62, fv_62_0, fv_62_1, fv_62_2, fv_62_3, ak_63, al_63, rf_63, ak_107, al_107, ak_108, al_108, cls_0, dl_ak, dl_al, hto, i1, k_X4_hasDesk (show _ ≤ D by omega) h0 hR hI, bi_t z1, g1, leF (show (k : Int) < n by omega), leF (show (k : Int) < 8 by omega), iI_add, iI_sub, iI_mul, iI_neg, iI_lt, iI_le, iI_eq, iI_toInt, tn_n, tn_1, inb_I, Int.reduceEq, Int.reduceLT, Int.reduceLE, Int.reduceAdd, Int.reduceSub, Int.reduceMul, Int.reduceNeg, Int.reduceToNat, Nat.reduceAdd, Nat.reduceMul, Int.reduceNatCast, reduceCtorEq, Int.cast_ofNat_Int, bi_tr, bi_fa, bi_0, bi_1, not_true_eq_false, not_false_eq_true, rnk_v, rnk_n, ↓reduceIte, i00, i11, ibi, or_true, true_or, and_true, true_and, List.cons_append, List.nil_append, Option.toList, nop]
      · by_cases c2 : kMn Q s k - hdK K t (kDs Q s k) = kMn Q s 0 - hdK K t (kDs Q s 0)
        · have r := ih (k + 1) (by omega) (fun j hj => by
            by_cases c : j = k
            · subst c; exact ⟨by omega, c2⟩
            · exact hp j (by omega)) (some (.int (iI (kDs Q s k)))) (some (.int (iI (kMn Q s k - hdK K t (kDs Q s k)))))
          rw [if_neg (by omega), ← c2] at r
          rw [s_X3_fits_5]
          by_cases c0 : k = 0
          · simp (maxSteps := 4000000) (disch := omega) only [s_X3_fits_7, s_X3_fits_8, s_X3_fits_11, s_X3_fits_14, s_X3_fits_16, s_X3_fits_18, s_X3_fits_21, s_X3_fits_22, s_X3_fits_25, s_X3_fits_27, s_X3_fits_28, s_X3_fits_30, s_X3_fits_31, s_X3_fits_33, s_X3_fits_36, s_X3_fits_39, s_X3_fits_40, s_X3_fits_43, s_X3_fits_44, s_X3_fits_45, s_X3_fits_47, s_X3_fits_48, s_X3_fits_51, s_X3_fits_54, s_X3_fits_55, s_X3_fits_56, s_X3_fits_57, s_X3_fits_60, s_X3_fits_62, s_X3_fits_63, s_X3_fits_64, s_X3_fits_67, s_X3_fits_68, s_X3_fits_69, s_X3_fits_71, s_X3_fits_72, s_X3_fits_73, s_X3_fits_75, s_X3_fits_77, s_X3_fits_80, s_X3_fits_82, s_X3_fits_83, s_X3_fits_86, s_X3_fits_87, s_X3_fits_88, s_X3_fits_90, s_X3_fits_91, s_X3_fits_94, cls_62, fv_62_0, fv_62_1, fv_62_2, fv_62_3, ak_63, al_63, rf_63, ak_107, al_107, ak_108, al_108, cls_0, dl_ak, dl_al, hto, i1, i2, k_X4_hasDesk (show _ ≤ D by omega) h0 hR hI, bi_t z1, g1, eqF (show ¬ (hdK K t (kDs Q s k) : Int) = 9999 by omega), leF (show (k : Int) < n by omega), leF (show (k : Int) < 8 by omega), leT (show (k : Int) ≤ 0 by omega), iI_add, iI_sub, iI_mul, iI_neg, iI_lt, iI_le, iI_eq, iI_toInt, tn_n, tn_1, inb_I, Int.reduceEq, Int.reduceLT, Int.reduceLE, Int.reduceAdd, Int.reduceSub, Int.reduceMul, Int.reduceNeg, Int.reduceToNat, Nat.reduceAdd, Nat.reduceMul, Int.reduceNatCast, reduceCtorEq, Int.cast_ofNat_Int, bi_tr, bi_fa, bi_0, bi_1, not_true_eq_false, not_false_eq_true, rnk_v, rnk_n, ↓reduceIte, i00, i11, ibi, or_true, true_or, and_true, true_and, List.cons_append, List.nil_append, Option.toList, nop]
            exact r
          · rw [if_neg c0]
            simp (maxSteps := 4000000) (disch := omega) only [s_X3_fits_7, s_X3_fits_8, s_X3_fits_11, s_X3_fits_14, s_X3_fits_16, s_X3_fits_18, s_X3_fits_21, s_X3_fits_22, s_X3_fits_25, s_X3_fits_27, s_X3_fits_28, s_X3_fits_30, s_X3_fits_31, s_X3_fits_33, s_X3_fits_36, s_X3_fits_39, s_X3_fits_40, s_X3_fits_43, s_X3_fits_44, s_X3_fits_45, s_X3_fits_47, s_X3_fits_48, s_X3_fits_51, s_X3_fits_54, s_X3_fits_55, s_X3_fits_56, s_X3_fits_57, s_X3_fits_60, s_X3_fits_62, s_X3_fits_63, s_X3_fits_64, s_X3_fits_67, s_X3_fits_68, s_X3_fits_69, s_X3_fits_71, s_X3_fits_72, s_X3_fits_73, s_X3_fits_75, s_X3_fits_77, s_X3_fits_80, s_X3_fits_82, s_X3_fits_83, s_X3_fits_86, s_X3_fits_87, s_X3_fits_88, s_X3_fits_90, s_X3_fits_91, s_X3_fits_94, cls_62, fv_62_0, fv_62_1, fv_62_2, fv_62_3, ak_63, al_63, rf_63, ak_107, al_107, ak_108, al_108, cls_0, dl_ak, dl_al, hto, i1, i2, k_X4_hasDesk (show _ ≤ D by omega) h0 hR hI, bi_t z1, g1, eqF (show ¬ (hdK K t (kDs Q s k) : Int) = 9999 by omega), leF (show (k : Int) < n by omega), leF (show (k : Int) < 8 by omega), leF (show (0 : Int) < k by omega), eqT c2, iI_add, iI_sub, iI_mul, iI_neg, iI_lt, iI_le, iI_eq, iI_toInt, tn_n, tn_1, inb_I, Int.reduceEq, Int.reduceLT, Int.reduceLE, Int.reduceAdd, Int.reduceSub, Int.reduceMul, Int.reduceNeg, Int.reduceToNat, Nat.reduceAdd, Nat.reduceMul, Int.reduceNatCast, reduceCtorEq, Int.cast_ofNat_Int, bi_tr, bi_fa, bi_0, bi_1, not_true_eq_false, not_false_eq_true, rnk_v, rnk_n, ↓reduceIte, i00, i11, ibi, or_true, true_or, and_true, true_and, List.cons_append, List.nil_append, Option.toList, nop]
            exact r
        · have c0 : k ≠ 0 := fun h => c2 (by rw [h])
          have e : ftK K Q s n t = false := alB_no (k := k) (decide_eq_false (fun h => c2 h.2)) (by omega)
          rw [bi_f (by rw [e]; simp), if_neg c0]
          simp (maxSteps := 4000000) (disch := omega) only [s_X3_fits_5, s_X3_fits_7, s_X3_fits_8, s_X3_fits_11, s_X3_fits_14, s_X3_fits_16, s_X3_fits_18, s_X3_fits_21, s_X3_fits_22, s_X3_fits_25, s_X3_fits_27, s_X3_fits_28, s_X3_fits_30, s_X3_fits_31, s_X3_fits_33, s_X3_fits_36, s_X3_fits_39, s_X3_fits_40, s_X3_fits_43, s_X3_fits_44, s_X3_fits_45, s_X3_fits_47, s_X3_fits_48, s_X3_fits_51, s_X3_fits_54, s_X3_fits_55, s_X3_fits_56, s_X3_fits_57, s_X3_fits_60, s_X3_fits_62, s_X3_fits_63, s_X3_fits_64, s_X3_fits_67, s_X3_fits_68, s_X3_fits_69, s_X3_fits_71, s_X3_fits_72, s_X3_fits_73, s_X3_fits_75, s_X3_fits_77, s_X3_fits_80, s_X3_fits_82, s_X3_fits_83, s_X3_fits_86, s_X3_fits_87, cls_62, fv_62_0, fv_62_1, fv_62_2, fv_62_3, ak_63, al_63, rf_63, ak_107, al_107, ak_108, al_108, cls_0, dl_ak, dl_al, hto, i1, i2, k_X4_hasDesk (show _ ≤ D by omega) h0 hR hI, bi_t z1, g1, eqF (show ¬ (hdK K t (kDs Q s k) : Int) = 9999 by omega), leF (show (k : Int) < n by omega), leF (show (k : Int) < 8 by omega), leF (show (0 : Int) < k by omega), eqF c2, iI_add, iI_sub, iI_mul, iI_neg, iI_lt, iI_le, iI_eq, iI_toInt, tn_n, tn_1, inb_I, Int.reduceEq, Int.reduceLT, Int.reduceLE, Int.reduceAdd, Int.reduceSub, Int.reduceMul, Int.reduceNeg, Int.reduceToNat, Nat.reduceAdd, Nat.reduceMul, Int.reduceNatCast, reduceCtorEq, Int.cast_ofNat_Int, bi_tr, bi_fa, bi_0, bi_1, not_true_eq_false, not_false_eq_true, rnk_v, rnk_n, ↓reduceIte, i00, i11, ibi, or_true, true_or, and_true, true_and, List.cons_append, List.nil_append, Option.toList, nop]
  have := key n 0 (by omega) (fun j hj => absurd hj (by omega)) none none
  simp (maxSteps := 4000000) (disch := omega) only [en_X3_fits, s_X3_fits_0, s_X3_fits_1, s_X3_fits_2, s_X3_fits_3, Int.reduceEq, Int.reduceLT, Int.reduceLE, Int.reduceAdd, Int.reduceSub, Int.reduceMul, Int.reduceNeg, Int.reduceToNat, Nat.reduceAdd, Nat.reduceMul, Int.reduceNatCast, reduceCtorEq, Int.cast_ofNat_Int, bi_tr, bi_fa, bi_0, bi_1, not_true_eq_false, not_false_eq_true, rnk_v, rnk_n, ↓reduceIte, i00, i11, ibi, or_true, true_or, and_true, true_and, List.cons_append, List.nil_append, Option.toList, nop]
  exact this
theorem k_X3_fittingTubes {D : Nat} (hD : 3 ≤ D) {M : tM} {K : tK} {Q : tQ} (hR : Rep M 0 K) (hI : kInv K) (hd : RepDl M K) {s n : Nat} (hS : RepKn M Q s n) (hk : kOK K Q s n) : exF D m_X3_fittingTubes [.ref 62, .ref 0] M = some (some (.int (iI (fitN K Q s n))), M) := by
  obtain ⟨D, rfl⟩ : ∃ D0, D = D0 + 1 := ⟨D - 1, by omega⟩
  have n0 := kI_n hI
  obtain ⟨r1, r2, r3, r4, r5, r6⟩ := R0_n hR
  have key := lq (f := fun t => rn (exF D) C_X3_fittingTubes 4 [some (.ref 62), some (.ref 0), some (.int (iI (bts (ftK K Q s n) t))), some (.int (iI t))] [] M) (n := kT K) (by
    intro t ht X hX
    show rn _ _ _ _ _ _ = X
    have g := k_X3_fits (D := D) (by omega) hR hI hd hS hk ht
    rw [s_X3_fittingTubes_4]
    by_cases q : ftK K Q s n t = true
    · rw [bi_t q] at g
      rw [← bts_next q] at hX
      simp (maxSteps := 4000000) (disch := omega) only [s_X3_fittingTubes_5, s_X3_fittingTubes_6, s_X3_fittingTubes_9, s_X3_fittingTubes_12, s_X3_fittingTubes_13, s_X3_fittingTubes_15, s_X3_fittingTubes_18, s_X3_fittingTubes_19, s_X3_fittingTubes_20, s_X3_fittingTubes_21, s_X3_fittingTubes_24, s_X3_fittingTubes_27, s_X3_fittingTubes_28, s_X3_fittingTubes_29, s_X3_fittingTubes_30, s_X3_fittingTubes_31, s_X3_fittingTubes_32, s_X3_fittingTubes_33, s_X3_fittingTubes_36, cls_62, cls_0, fv_0_0, fv_0_1, fv_0_2, fv_0_3, fv_0_4, fv_0_5, fv_0_6, fv_0_7, fv_0_8, fv_0_9, fv_0_10, fv_0_11, fv_0_12, fv_0_13, fv_0_14, fv_0_15, r2, g, iI_shl1, iI_or, leF (show (t : Int) < kT K by omega), leF (show (t : Int) < 16 by omega), iI_add, iI_sub, iI_mul, iI_neg, iI_lt, iI_le, iI_eq, iI_toInt, tn_n, tn_1, inb_I, Int.reduceEq, Int.reduceLT, Int.reduceLE, Int.reduceAdd, Int.reduceSub, Int.reduceMul, Int.reduceNeg, Int.reduceToNat, Nat.reduceAdd, Nat.reduceMul, Int.reduceNatCast, reduceCtorEq, Int.cast_ofNat_Int, bi_tr, bi_fa, bi_0, bi_1, not_true_eq_false, not_false_eq_true, rnk_v, rnk_n, ↓reduceIte, i00, i11, ibi, or_true, true_or, and_true, true_and, List.cons_append, List.nil_append, Option.toList, nop]
      exact hX
    · rw [bi_f q] at g
      rw [← bts_skip (by simpa using q)] at hX
      simp (maxSteps := 4000000) (disch := omega) only [s_X3_fittingTubes_5, s_X3_fittingTubes_6, s_X3_fittingTubes_9, s_X3_fittingTubes_12, s_X3_fittingTubes_13, s_X3_fittingTubes_15, s_X3_fittingTubes_18, s_X3_fittingTubes_19, s_X3_fittingTubes_20, s_X3_fittingTubes_21, s_X3_fittingTubes_24, s_X3_fittingTubes_27, s_X3_fittingTubes_28, s_X3_fittingTubes_29, s_X3_fittingTubes_30, s_X3_fittingTubes_31, s_X3_fittingTubes_32, s_X3_fittingTubes_33, s_X3_fittingTubes_36, cls_62, cls_0, fv_0_0, fv_0_1, fv_0_2, fv_0_3, fv_0_4, fv_0_5, fv_0_6, fv_0_7, fv_0_8, fv_0_9, fv_0_10, fv_0_11, fv_0_12, fv_0_13, fv_0_14, fv_0_15, r2, g, leF (show (t : Int) < kT K by omega), leF (show (t : Int) < 16 by omega), iI_add, iI_sub, iI_mul, iI_neg, iI_lt, iI_le, iI_eq, iI_toInt, tn_n, tn_1, inb_I, Int.reduceEq, Int.reduceLT, Int.reduceLE, Int.reduceAdd, Int.reduceSub, Int.reduceMul, Int.reduceNeg, Int.reduceToNat, Nat.reduceAdd, Nat.reduceMul, Int.reduceNatCast, reduceCtorEq, Int.cast_ofNat_Int, bi_tr, bi_fa, bi_0, bi_1, not_true_eq_false, not_false_eq_true, rnk_v, rnk_n, ↓reduceIte, i00, i11, ibi, or_true, true_or, and_true, true_and, List.cons_append, List.nil_append, Option.toList, nop]
      exact hX)
  simp (maxSteps := 4000000) (disch := omega) only [en_X3_fittingTubes, s_X3_fittingTubes_0, s_X3_fittingTubes_1, s_X3_fittingTubes_2, s_X3_fittingTubes_3, Int.reduceEq, Int.reduceLT, Int.reduceLE, Int.reduceAdd, Int.reduceSub, Int.reduceMul, Int.reduceNeg, Int.reduceToNat, Nat.reduceAdd, Nat.reduceMul, Int.reduceNatCast, reduceCtorEq, Int.cast_ofNat_Int, bi_tr, bi_fa, bi_0, bi_1, not_true_eq_false, not_false_eq_true, rnk_v, rnk_n, ↓reduceIte, i00, i11, ibi, or_true, true_or, and_true, true_and, List.cons_append, List.nil_append, Option.toList, nop]
  refine key.trans ?_
  simp (maxSteps := 4000000) (disch := omega) only [s_X3_fittingTubes_4, s_X3_fittingTubes_5, s_X3_fittingTubes_6, s_X3_fittingTubes_9, s_X3_fittingTubes_39, s_X3_fittingTubes_40, cls_0, fv_0_0, fv_0_1, fv_0_2, fv_0_3, fv_0_4, fv_0_5, fv_0_6, fv_0_7, fv_0_8, fv_0_9, fv_0_10, fv_0_11, fv_0_12, fv_0_13, fv_0_14, fv_0_15, r2, leT (show (kT K : Int) ≤ kT K by omega), iI_add, iI_sub, iI_mul, iI_neg, iI_lt, iI_le, iI_eq, iI_toInt, tn_n, tn_1, inb_I, Int.reduceEq, Int.reduceLT, Int.reduceLE, Int.reduceAdd, Int.reduceSub, Int.reduceMul, Int.reduceNeg, Int.reduceToNat, Nat.reduceAdd, Nat.reduceMul, Int.reduceNatCast, reduceCtorEq, Int.cast_ofNat_Int, bi_tr, bi_fa, bi_0, bi_1, not_true_eq_false, not_false_eq_true, rnk_v, rnk_n, ↓reduceIte, i00, i11, ibi, or_true, true_or, and_true, true_and, List.cons_append, List.nil_append, Option.toList, nop]
  rfl
theorem k_X3_lateness {D : Nat} (hD : 1 ≤ D) {M : tM} {K : tK} {Q : tQ} (hI : kInv K) (hd : RepDl M K) {s n t d : Nat} (hk : kOK K Q s n) (ht : t < kT K) (hdd : d < kD K) : exF D m_X3_lateness [.ref 62, .int (iI t), .int (iI (kDs Q s 0)), .int (iI d)] M = some (some (.int (iI (ltK K Q s t d))), M) := by
  obtain ⟨D, rfl⟩ : ∃ D0, D = D0 + 1 := ⟨D - 1, by omega⟩
  have n0 := kI_n hI
  have hn1 := hk.1
  obtain ⟨b1, b2, b3, b4, b5⟩ := kOK_d hk (show 0 < n by omega)
  have g1 := hd t ht d hdd
  have g2 := hd t ht _ b2
  have g3 := hdK_le K t d
  unfold ltK
  by_cases q : hdK K t d = 9999
  · rw [if_pos q]
    rw [q] at g1
    simp (maxSteps := 4000000) (disch := omega) only [en_X3_lateness, s_X3_lateness_0, s_X3_lateness_1, s_X3_lateness_4, s_X3_lateness_5, s_X3_lateness_6, s_X3_lateness_7, s_X3_lateness_8, s_X3_lateness_11, s_X3_lateness_14, s_X3_lateness_17, s_X3_lateness_20, s_X3_lateness_21, s_X3_lateness_24, s_X3_lateness_25, s_X3_lateness_26, s_X3_lateness_27, s_X3_lateness_28, s_X3_lateness_29, s_X3_lateness_32, s_X3_lateness_33, s_X3_lateness_34, s_X3_lateness_35, s_X3_lateness_36, s_X3_lateness_37, cls_62, fv_62_0, fv_62_1, fv_62_2, fv_62_3, ak_63, al_63, rf_63, dl_ak, dl_al, g1, iI_add, iI_sub, iI_mul, iI_neg, iI_lt, iI_le, iI_eq, iI_toInt, tn_n, tn_1, inb_I, Int.reduceEq, Int.reduceLT, Int.reduceLE, Int.reduceAdd, Int.reduceSub, Int.reduceMul, Int.reduceNeg, Int.reduceToNat, Nat.reduceAdd, Nat.reduceMul, Int.reduceNatCast, reduceCtorEq, Int.cast_ofNat_Int, bi_tr, bi_fa, bi_0, bi_1, not_true_eq_false, not_false_eq_true, rnk_v, rnk_n, ↓reduceIte, i00, i11, ibi, or_true, true_or, and_true, true_and, List.cons_append, List.nil_append, Option.toList, nop]
  · rw [if_neg q]
    simp (maxSteps := 4000000) (disch := omega) only [en_X3_lateness, s_X3_lateness_0, s_X3_lateness_1, s_X3_lateness_4, s_X3_lateness_5, s_X3_lateness_6, s_X3_lateness_7, s_X3_lateness_8, s_X3_lateness_11, s_X3_lateness_14, s_X3_lateness_17, s_X3_lateness_20, s_X3_lateness_21, s_X3_lateness_24, s_X3_lateness_25, s_X3_lateness_26, s_X3_lateness_27, s_X3_lateness_28, s_X3_lateness_29, s_X3_lateness_32, s_X3_lateness_33, s_X3_lateness_34, s_X3_lateness_35, s_X3_lateness_36, s_X3_lateness_37, cls_62, fv_62_0, fv_62_1, fv_62_2, fv_62_3, ak_63, al_63, rf_63, dl_ak, dl_al, g1, g2, eqF (show ¬ (hdK K t d : Int) = 9999 by omega), iI_add, iI_sub, iI_mul, iI_neg, iI_lt, iI_le, iI_eq, iI_toInt, tn_n, tn_1, inb_I, Int.reduceEq, Int.reduceLT, Int.reduceLE, Int.reduceAdd, Int.reduceSub, Int.reduceMul, Int.reduceNeg, Int.reduceToNat, Nat.reduceAdd, Nat.reduceMul, Int.reduceNatCast, reduceCtorEq, Int.cast_ofNat_Int, bi_tr, bi_fa, bi_0, bi_1, not_true_eq_false, not_false_eq_true, rnk_v, rnk_n, ↓reduceIte, i00, i11, ibi, or_true, true_or, and_true, true_and, List.cons_append, List.nil_append, Option.toList, nop]
theorem ltK_rng (K : tK) (Q : tQ) (s t d : Nat) : -9999 ≤ ltK K Q s t d ∧ ltK K Q s t d ≤ 9999 := by
  have := hdK_le K t d
  have := hdK_le K t (kDs Q s 0)
  unfold ltK; split <;> omega
def cnU (K : tK) (Q : tQ) (s n d t u : Nat) : Nat := ctn (fun u => ftK K Q s n t && ftK K Q s n u && decide (ltK K Q s t d = ltK K Q s u d)) u
theorem cnU_up (K : tK) (Q : tQ) (s n d t u : Nat) : cnU K Q s n d t (u + 1) = cnU K Q s n d t u + if (ftK K Q s n t && ftK K Q s n u && decide (ltK K Q s t d = ltK K Q s u d)) = true then 1 else 0 := rfl
theorem l_mostU {D : Nat} (hD : 1 ≤ D) {M : tM} {K : tK} {Q : tQ} (hR : Rep M 0 K) (hI : kInv K) (hd : RepDl M K) {s n d t : Nat} (hk : kOK K Q s n) (hdd : d < kD K) (ht : t < kT K) (w : Int) : rn (exF D) C_X3_mostLeft 28 [some (.ref 62), some (.ref 0), some (.int (iI (fitN K Q s n))), some (.int (iI (kDs Q s 0))), some (.int (iI d)), some (.int (iI w)), some (.int (iI t)), some (.int (iI 0)), some (.int (iI 0))] [] M = rn (exF D) C_X3_mostLeft 92 [some (.ref 62), some (.ref 0), some (.int (iI (fitN K Q s n))), some (.int (iI (kDs Q s 0))), some (.int (iI d)), some (.int (iI w)), some (.int (iI t)), some (.int (iI (cnK K Q s n d t))), some (.int (iI (kT K)))] [] M := by
  have n0 := kI_n hI
  obtain ⟨r1, r2, r3, r4, r5, r6⟩ := R0_n hR
  have hf := fit_lt hI Q s n
  have key := lq (f := fun u => rn (exF D) C_X3_mostLeft 28 [some (.ref 62), some (.ref 0), some (.int (iI (fitN K Q s n))), some (.int (iI (kDs Q s 0))), some (.int (iI d)), some (.int (iI w)), some (.int (iI t)), some (.int (iI (cnU K Q s n d t u))), some (.int (iI u))] [] M) (n := kT K) (by
    intro u hu X hX
    show rn _ _ _ _ _ _ = X
    have l1 := k_X3_lateness (D := D) hD hI hd hk ht hdd
    have l2 := k_X3_lateness (D := D) hD hI hd hk hu hdd
    have l5 : cnU K Q s n d t u ≤ u := ctn_le _ _
    have l3 := ltK_rng K Q s t d
    have l4 := ltK_rng K Q s u d
    have b1 := fit_bit (K := K) (Q := Q) (s := s) (n := n) ht
    have b2 := fit_bit (K := K) (Q := Q) (s := s) (n := n) hu
    rw [s_X3_mostLeft_28]
    simp only [cnU_up] at hX
    by_cases q1 : ftK K Q s n t = true
    · by_cases q2 : ftK K Q s n u = true
      · by_cases q3 : ltK K Q s t d = ltK K Q s u d
        · rw [if_pos (by simp [q1, q2, q3])] at hX
          simp (maxSteps := 4000000) (disch := omega) only [s_X3_mostLeft_30, s_X3_mostLeft_31, s_X3_mostLeft_34, s_X3_mostLeft_37, s_X3_mostLeft_39, s_X3_mostLeft_41, s_X3_mostLeft_44, s_X3_mostLeft_45, s_X3_mostLeft_46, s_X3_mostLeft_48, s_X3_mostLeft_49, s_X3_mostLeft_50, s_X3_mostLeft_53, s_X3_mostLeft_54, s_X3_mostLeft_55, s_X3_mostLeft_57, s_X3_mostLeft_58, s_X3_mostLeft_59, s_X3_mostLeft_62, s_X3_mostLeft_63, s_X3_mostLeft_65, s_X3_mostLeft_66, s_X3_mostLeft_68, s_X3_mostLeft_71, s_X3_mostLeft_72, s_X3_mostLeft_74, s_X3_mostLeft_75, s_X3_mostLeft_77, s_X3_mostLeft_80, s_X3_mostLeft_83, s_X3_mostLeft_86, s_X3_mostLeft_89, cls_62, cls_0, fv_0_0, fv_0_1, fv_0_2, fv_0_3, fv_0_4, fv_0_5, fv_0_6, fv_0_7, fv_0_8, fv_0_9, fv_0_10, fv_0_11, fv_0_12, fv_0_13, fv_0_14, fv_0_15, r2, iI_shl1, bit_get1 (show fitN K Q s n < 2147483648 by omega), b1, b2, q1, q2, l1, l2, eqT q3, leF (show (u : Int) < kT K by omega), leF (show (u : Int) < 16 by omega), iI_add, iI_sub, iI_mul, iI_neg, iI_lt, iI_le, iI_eq, iI_toInt, tn_n, tn_1, inb_I, Int.reduceEq, Int.reduceLT, Int.reduceLE, Int.reduceAdd, Int.reduceSub, Int.reduceMul, Int.reduceNeg, Int.reduceToNat, Nat.reduceAdd, Nat.reduceMul, Int.reduceNatCast, reduceCtorEq, Int.cast_ofNat_Int, bi_tr, bi_fa, bi_0, bi_1, not_true_eq_false, not_false_eq_true, rnk_v, rnk_n, ↓reduceIte, i00, i11, ibi, or_true, true_or, and_true, true_and, List.cons_append, List.nil_append, Option.toList, nop]
          exact hX
        · rw [if_neg (by simp [q3])] at hX
          simp (maxSteps := 4000000) (disch := omega) only [s_X3_mostLeft_30, s_X3_mostLeft_31, s_X3_mostLeft_34, s_X3_mostLeft_37, s_X3_mostLeft_39, s_X3_mostLeft_41, s_X3_mostLeft_44, s_X3_mostLeft_45, s_X3_mostLeft_46, s_X3_mostLeft_48, s_X3_mostLeft_49, s_X3_mostLeft_50, s_X3_mostLeft_53, s_X3_mostLeft_54, s_X3_mostLeft_55, s_X3_mostLeft_57, s_X3_mostLeft_58, s_X3_mostLeft_59, s_X3_mostLeft_62, s_X3_mostLeft_63, s_X3_mostLeft_65, s_X3_mostLeft_66, s_X3_mostLeft_68, s_X3_mostLeft_71, s_X3_mostLeft_72, s_X3_mostLeft_74, s_X3_mostLeft_75, s_X3_mostLeft_77, s_X3_mostLeft_80, s_X3_mostLeft_83, s_X3_mostLeft_86, s_X3_mostLeft_89, cls_62, cls_0, fv_0_0, fv_0_1, fv_0_2, fv_0_3, fv_0_4, fv_0_5, fv_0_6, fv_0_7, fv_0_8, fv_0_9, fv_0_10, fv_0_11, fv_0_12, fv_0_13, fv_0_14, fv_0_15, r2, iI_shl1, bit_get1 (show fitN K Q s n < 2147483648 by omega), b1, b2, q1, q2, l1, l2, eqF q3, leF (show (u : Int) < kT K by omega), leF (show (u : Int) < 16 by omega), iI_add, iI_sub, iI_mul, iI_neg, iI_lt, iI_le, iI_eq, iI_toInt, tn_n, tn_1, inb_I, Int.reduceEq, Int.reduceLT, Int.reduceLE, Int.reduceAdd, Int.reduceSub, Int.reduceMul, Int.reduceNeg, Int.reduceToNat, Nat.reduceAdd, Nat.reduceMul, Int.reduceNatCast, reduceCtorEq, Int.cast_ofNat_Int, bi_tr, bi_fa, bi_0, bi_1, not_true_eq_false, not_false_eq_true, rnk_v, rnk_n, ↓reduceIte, i00, i11, ibi, or_true, true_or, and_true, true_and, List.cons_append, List.nil_append, Option.toList, nop]
          exact hX
      · rw [if_neg (by simp [q2])] at hX
        simp (maxSteps := 4000000) (disch := omega) only [s_X3_mostLeft_30, s_X3_mostLeft_31, s_X3_mostLeft_34, s_X3_mostLeft_37, s_X3_mostLeft_39, s_X3_mostLeft_41, s_X3_mostLeft_44, s_X3_mostLeft_45, s_X3_mostLeft_46, s_X3_mostLeft_48, s_X3_mostLeft_49, s_X3_mostLeft_50, s_X3_mostLeft_53, s_X3_mostLeft_54, s_X3_mostLeft_55, s_X3_mostLeft_57, s_X3_mostLeft_58, s_X3_mostLeft_59, s_X3_mostLeft_62, s_X3_mostLeft_63, s_X3_mostLeft_65, s_X3_mostLeft_66, s_X3_mostLeft_68, s_X3_mostLeft_71, s_X3_mostLeft_72, s_X3_mostLeft_74, s_X3_mostLeft_75, s_X3_mostLeft_77, s_X3_mostLeft_80, s_X3_mostLeft_83, s_X3_mostLeft_86, s_X3_mostLeft_89, cls_62, cls_0, fv_0_0, fv_0_1, fv_0_2, fv_0_3, fv_0_4, fv_0_5, fv_0_6, fv_0_7, fv_0_8, fv_0_9, fv_0_10, fv_0_11, fv_0_12, fv_0_13, fv_0_14, fv_0_15, r2, iI_shl1, bit_get1 (show fitN K Q s n < 2147483648 by omega), b1, b2, q1, q2, Bool.false_eq_true, leF (show (u : Int) < kT K by omega), leF (show (u : Int) < 16 by omega), iI_add, iI_sub, iI_mul, iI_neg, iI_lt, iI_le, iI_eq, iI_toInt, tn_n, tn_1, inb_I, Int.reduceEq, Int.reduceLT, Int.reduceLE, Int.reduceAdd, Int.reduceSub, Int.reduceMul, Int.reduceNeg, Int.reduceToNat, Nat.reduceAdd, Nat.reduceMul, Int.reduceNatCast, reduceCtorEq, Int.cast_ofNat_Int, bi_tr, bi_fa, bi_0, bi_1, not_true_eq_false, not_false_eq_true, rnk_v, rnk_n, ↓reduceIte, i00, i11, ibi, or_true, true_or, and_true, true_and, List.cons_append, List.nil_append, Option.toList, nop]
        exact hX
    · rw [if_neg (by simp [q1])] at hX
      simp (maxSteps := 4000000) (disch := omega) only [s_X3_mostLeft_30, s_X3_mostLeft_31, s_X3_mostLeft_34, s_X3_mostLeft_37, s_X3_mostLeft_39, s_X3_mostLeft_41, s_X3_mostLeft_44, s_X3_mostLeft_45, s_X3_mostLeft_46, s_X3_mostLeft_48, s_X3_mostLeft_49, s_X3_mostLeft_50, s_X3_mostLeft_53, s_X3_mostLeft_54, s_X3_mostLeft_55, s_X3_mostLeft_57, s_X3_mostLeft_58, s_X3_mostLeft_59, s_X3_mostLeft_62, s_X3_mostLeft_63, s_X3_mostLeft_65, s_X3_mostLeft_66, s_X3_mostLeft_68, s_X3_mostLeft_71, s_X3_mostLeft_72, s_X3_mostLeft_74, s_X3_mostLeft_75, s_X3_mostLeft_77, s_X3_mostLeft_80, s_X3_mostLeft_83, s_X3_mostLeft_86, s_X3_mostLeft_89, cls_62, cls_0, fv_0_0, fv_0_1, fv_0_2, fv_0_3, fv_0_4, fv_0_5, fv_0_6, fv_0_7, fv_0_8, fv_0_9, fv_0_10, fv_0_11, fv_0_12, fv_0_13, fv_0_14, fv_0_15, r2, iI_shl1, bit_get1 (show fitN K Q s n < 2147483648 by omega), b1, q1, Bool.false_eq_true, leF (show (u : Int) < kT K by omega), leF (show (u : Int) < 16 by omega), iI_add, iI_sub, iI_mul, iI_neg, iI_lt, iI_le, iI_eq, iI_toInt, tn_n, tn_1, inb_I, Int.reduceEq, Int.reduceLT, Int.reduceLE, Int.reduceAdd, Int.reduceSub, Int.reduceMul, Int.reduceNeg, Int.reduceToNat, Nat.reduceAdd, Nat.reduceMul, Int.reduceNatCast, reduceCtorEq, Int.cast_ofNat_Int, bi_tr, bi_fa, bi_0, bi_1, not_true_eq_false, not_false_eq_true, rnk_v, rnk_n, ↓reduceIte, i00, i11, ibi, or_true, true_or, and_true, true_and, List.cons_append, List.nil_append, Option.toList, nop]
      exact hX)
  refine Eq.trans key ?_
  simp (maxSteps := 4000000) (disch := omega) only [s_X3_mostLeft_28, s_X3_mostLeft_30, s_X3_mostLeft_31, s_X3_mostLeft_34, cls_0, fv_0_0, fv_0_1, fv_0_2, fv_0_3, fv_0_4, fv_0_5, fv_0_6, fv_0_7, fv_0_8, fv_0_9, fv_0_10, fv_0_11, fv_0_12, fv_0_13, fv_0_14, fv_0_15, r2, leT (show (kT K : Int) ≤ kT K by omega), iI_add, iI_sub, iI_mul, iI_neg, iI_lt, iI_le, iI_eq, iI_toInt, tn_n, tn_1, inb_I, Int.reduceEq, Int.reduceLT, Int.reduceLE, Int.reduceAdd, Int.reduceSub, Int.reduceMul, Int.reduceNeg, Int.reduceToNat, Nat.reduceAdd, Nat.reduceMul, Int.reduceNatCast, reduceCtorEq, Int.cast_ofNat_Int, bi_tr, bi_fa, bi_0, bi_1, not_true_eq_false, not_false_eq_true, rnk_v, rnk_n, ↓reduceIte, i00, i11, ibi, or_true, true_or, and_true, true_and, List.cons_append, List.nil_append, Option.toList, nop]
  rfl
theorem cnK_le (K : tK) (Q : tQ) (s n d t : Nat) : cnK K Q s n d t ≤ kT K := ctn_le _ _
theorem mlK_le (K : tK) (Q : tQ) (s n d : Nat) : mlK K Q s n d ≤ kT K := mxs_le (fun _ _ => cnK_le _ _ _ _ _ _)
theorem k_X3_mostLeft {D : Nat} (hD : 2 ≤ D) {M : tM} {K : tK} {Q : tQ} (hR : Rep M 0 K) (hI : kInv K) (hd : RepDl M K) {s n d : Nat} (hk : kOK K Q s n) (hdd : d < kD K) : exF D m_X3_mostLeft [.ref 62, .ref 0, .int (iI (fitN K Q s n)), .int (iI (kDs Q s 0)), .int (iI d)] M = some (some (.int (iI (mlK K Q s n d))), M) := by
  obtain ⟨D, rfl⟩ : ∃ D0, D = D0 + 1 := ⟨D - 1, by omega⟩
  have n0 := kI_n hI
  obtain ⟨r1, r2, r3, r4, r5, r6⟩ := R0_n hR
  obtain ⟨⟨x7, x8⟩, key, -⟩ := lp (f := fun t (x : Option Value × Option Value) => rn (exF D) C_X3_mostLeft 6 [some (.ref 62), some (.ref 0), some (.int (iI (fitN K Q s n))), some (.int (iI (kDs Q s 0))), some (.int (iI d)), some (.int (iI (mxs (cnK K Q s n d) t))), some (.int (iI t)), x.1, x.2] [] M) (P := fun _ _ => True) (n := kT K) (by
    rintro t ⟨x7, x8⟩ ht -
    have g1 := cnK_le K Q s n d t
    have g2 : mxs (cnK K Q s n d) t ≤ kT K := mxs_le (fun _ _ => cnK_le _ _ _ _ _ _)
    have g3 : max (mxs (cnK K Q s n d) t : Int) (cnK K Q s n d t : Int) = (mxs (cnK K Q s n d) (t + 1) : Int) := by simp only [mxs]; omega
    have g4 := l_mostU (D := D) (by omega) hR hI hd hk hdd ht (mxs (cnK K Q s n d) t)
    refine ⟨(some (.int (iI (cnK K Q s n d t))), some (.int (iI (kT K)))), ?_, trivial⟩
    intro X hX
    show rn _ _ _ _ _ _ = X
    rw [s_X3_mostLeft_6]
    simp (maxSteps := 4000000) (disch := omega) only [s_X3_mostLeft_8, s_X3_mostLeft_9, s_X3_mostLeft_12, s_X3_mostLeft_15, s_X3_mostLeft_17, s_X3_mostLeft_19, s_X3_mostLeft_22, s_X3_mostLeft_23, s_X3_mostLeft_25, s_X3_mostLeft_26, cls_0, fv_0_0, fv_0_1, fv_0_2, fv_0_3, fv_0_4, fv_0_5, fv_0_6, fv_0_7, fv_0_8, fv_0_9, fv_0_10, fv_0_11, fv_0_12, fv_0_13, fv_0_14, fv_0_15, r2, leF (show (t : Int) < kT K by omega), leF (show (t : Int) < 16 by omega), iI_add, iI_sub, iI_mul, iI_neg, iI_lt, iI_le, iI_eq, iI_toInt, tn_n, tn_1, inb_I, Int.reduceEq, Int.reduceLT, Int.reduceLE, Int.reduceAdd, Int.reduceSub, Int.reduceMul, Int.reduceNeg, Int.reduceToNat, Nat.reduceAdd, Nat.reduceMul, Int.reduceNatCast, reduceCtorEq, Int.cast_ofNat_Int, bi_tr, bi_fa, bi_0, bi_1, not_true_eq_false, not_false_eq_true, rnk_v, rnk_n, ↓reduceIte, i00, i11, ibi, or_true, true_or, and_true, true_and, List.cons_append, List.nil_append, Option.toList, nop]
    refine Eq.trans g4 ?_
    simp (maxSteps := 4000000) (disch := omega) only [s_X3_mostLeft_92, s_X3_mostLeft_94, s_X3_mostLeft_96, s_X3_mostLeft_99, s_X3_mostLeft_101, s_X3_mostLeft_104, g3, mxI_iI, iI_add, iI_sub, iI_mul, iI_neg, iI_lt, iI_le, iI_eq, iI_toInt, tn_n, tn_1, inb_I, Int.reduceEq, Int.reduceLT, Int.reduceLE, Int.reduceAdd, Int.reduceSub, Int.reduceMul, Int.reduceNeg, Int.reduceToNat, Nat.reduceAdd, Nat.reduceMul, Int.reduceNatCast, reduceCtorEq, Int.cast_ofNat_Int, bi_tr, bi_fa, bi_0, bi_1, not_true_eq_false, not_false_eq_true, rnk_v, rnk_n, ↓reduceIte, i00, i11, ibi, or_true, true_or, and_true, true_and, List.cons_append, List.nil_append, Option.toList, nop]
    exact hX) (Nat.zero_le _) (a := (none, none)) trivial
  simp (maxSteps := 4000000) (disch := omega) only [en_X3_mostLeft, s_X3_mostLeft_0, s_X3_mostLeft_1, s_X3_mostLeft_3, s_X3_mostLeft_4, Int.reduceEq, Int.reduceLT, Int.reduceLE, Int.reduceAdd, Int.reduceSub, Int.reduceMul, Int.reduceNeg, Int.reduceToNat, Nat.reduceAdd, Nat.reduceMul, Int.reduceNatCast, reduceCtorEq, Int.cast_ofNat_Int, bi_tr, bi_fa, bi_0, bi_1, not_true_eq_false, not_false_eq_true, rnk_v, rnk_n, ↓reduceIte, i00, i11, ibi, or_true, true_or, and_true, true_and, List.cons_append, List.nil_append, Option.toList, nop]
  refine key.trans ?_
  simp (maxSteps := 4000000) (disch := omega) only [s_X3_mostLeft_6, s_X3_mostLeft_8, s_X3_mostLeft_9, s_X3_mostLeft_12, s_X3_mostLeft_107, s_X3_mostLeft_109, cls_0, fv_0_0, fv_0_1, fv_0_2, fv_0_3, fv_0_4, fv_0_5, fv_0_6, fv_0_7, fv_0_8, fv_0_9, fv_0_10, fv_0_11, fv_0_12, fv_0_13, fv_0_14, fv_0_15, r2, leT (show (kT K : Int) ≤ kT K by omega), iI_add, iI_sub, iI_mul, iI_neg, iI_lt, iI_le, iI_eq, iI_toInt, tn_n, tn_1, inb_I, Int.reduceEq, Int.reduceLT, Int.reduceLE, Int.reduceAdd, Int.reduceSub, Int.reduceMul, Int.reduceNeg, Int.reduceToNat, Nat.reduceAdd, Nat.reduceMul, Int.reduceNatCast, reduceCtorEq, Int.cast_ofNat_Int, bi_tr, bi_fa, bi_0, bi_1, not_true_eq_false, not_false_eq_true, rnk_v, rnk_n, ↓reduceIte, i00, i11, ibi, or_true, true_or, and_true, true_and, List.cons_append, List.nil_append, Option.toList, nop]
  rfl
theorem k_X3_nextDesk {D : Nat} (hD : 4 ≤ D) {M : tM} {K : tK} {Q : tQ} (hR : Rep M 0 K) (hI : kInv K) (hd : RepDl M K) {s n : Nat} (hS : RepKn M Q s n) (hk : kOK K Q s n) : exF D m_X3_nextDesk [.ref 62, .ref 0] M = some (some (.int (iI (lsZ K Q s n))), M) := by
  obtain ⟨D, rfl⟩ : ∃ D0, D = D0 + 1 := ⟨D - 1, by omega⟩
  have n0 := kI_n hI
  have hn1 := hk.1
  obtain ⟨r1, r2, r3, r4, r5, r6⟩ := R0_n hR
  have hf := fit_lt hI Q s n
  have hp := popc_le (fitN K Q s n)
  have k1 := k_X3_fittingTubes (D := D) (by omega) hR hI hd hS hk
  have hto := hS.1
  obtain ⟨k2, -⟩ := RepKn_d hS hk (show 0 < n by omega)
  obtain ⟨b1, b2, b3, b4, b5⟩ := kOK_d hk (show 0 < n by omega)
  have k3 := k_bitCount (D := D) (by omega) (M := M) hf
  have z1 : 0 ≤ (kDs Q s 0 : Int) ∧ (kDs Q s 0 : Int) < (kD K : Int) := by omega
  unfold lsZ
  by_cases q : popc (fitN K Q s n) < 2
  · rw [if_pos q]
    simp (maxSteps := 4000000) (disch := omega) only [en_X3_nextDesk, s_X3_nextDesk_0, s_X3_nextDesk_1, s_X3_nextDesk_2, s_X3_nextDesk_5, s_X3_nextDesk_6, s_X3_nextDesk_7, s_X3_nextDesk_10, s_X3_nextDesk_11, s_X3_nextDesk_12, s_X3_nextDesk_13, s_X3_nextDesk_14, s_X3_nextDesk_17, s_X3_nextDesk_18, s_X3_nextDesk_21, s_X3_nextDesk_22, s_X3_nextDesk_23, s_X3_nextDesk_26, s_X3_nextDesk_29, s_X3_nextDesk_30, s_X3_nextDesk_31, s_X3_nextDesk_32, s_X3_nextDesk_34, s_X3_nextDesk_35, s_X3_nextDesk_37, s_X3_nextDesk_39, s_X3_nextDesk_40, s_X3_nextDesk_43, s_X3_nextDesk_46, s_X3_nextDesk_48, s_X3_nextDesk_50, s_X3_nextDesk_53, s_X3_nextDesk_55, s_X3_nextDesk_56, s_X3_nextDesk_57, s_X3_nextDesk_60, s_X3_nextDesk_62, s_X3_nextDesk_63, s_X3_nextDesk_64, s_X3_nextDesk_65, s_X3_nextDesk_67, s_X3_nextDesk_70, s_X3_nextDesk_73, s_X3_nextDesk_74, s_X3_nextDesk_76, s_X3_nextDesk_78, s_X3_nextDesk_80, s_X3_nextDesk_81, s_X3_nextDesk_83, s_X3_nextDesk_85, s_X3_nextDesk_86, s_X3_nextDesk_89, s_X3_nextDesk_92, s_X3_nextDesk_94, s_X3_nextDesk_96, s_X3_nextDesk_99, s_X3_nextDesk_101, s_X3_nextDesk_102, s_X3_nextDesk_104, s_X3_nextDesk_105, s_X3_nextDesk_106, s_X3_nextDesk_109, s_X3_nextDesk_110, s_X3_nextDesk_111, s_X3_nextDesk_112, s_X3_nextDesk_113, s_X3_nextDesk_115, s_X3_nextDesk_118, s_X3_nextDesk_120, s_X3_nextDesk_122, s_X3_nextDesk_124, s_X3_nextDesk_127, s_X3_nextDesk_129, s_X3_nextDesk_131, s_X3_nextDesk_133, s_X3_nextDesk_135, s_X3_nextDesk_138, s_X3_nextDesk_141, s_X3_nextDesk_143, cls_62, fv_62_0, fv_62_1, fv_62_2, fv_62_3, ak_107, al_107, cls_0, k1, k2, k3, ltT (show (popc (fitN K Q s n) : Int) < 2 by omega), iI_add, iI_sub, iI_mul, iI_neg, iI_lt, iI_le, iI_eq, iI_toInt, tn_n, tn_1, inb_I, Int.reduceEq, Int.reduceLT, Int.reduceLE, Int.reduceAdd, Int.reduceSub, Int.reduceMul, Int.reduceNeg, Int.reduceToNat, Nat.reduceAdd, Nat.reduceMul, Int.reduceNatCast, reduceCtorEq, Int.cast_ofNat_Int, bi_tr, bi_fa, bi_0, bi_1, not_true_eq_false, not_false_eq_true, rnk_v, rnk_n, ↓reduceIte, i00, i11, ibi, or_true, true_or, and_true, true_and, List.cons_append, List.nil_append, Option.toList, nop]
  rw [if_neg q]
  have key1 := lq (f := fun k => rn (exF D) C_X3_nextDesk 37 [some (.ref 62), some (.ref 0), some (.int (iI (fitN K Q s n))), some (.int (iI (kDs Q s 0))), some (.int (iI (tdN Q s k))), some (.int (iI k)), none, none, none] [] M) (n := n) (by
    intro k hkn X hX
    show rn _ _ _ _ _ _ = X
    obtain ⟨d1, d2, d3, d4, d5⟩ := kOK_d hk hkn
    obtain ⟨i1, -⟩ := RepKn_d hS hk hkn
    rw [s_X3_nextDesk_37]
    simp (maxSteps := 4000000) (disch := omega) only [s_X3_nextDesk_39, s_X3_nextDesk_40, s_X3_nextDesk_43, s_X3_nextDesk_46, s_X3_nextDesk_48, s_X3_nextDesk_50, s_X3_nextDesk_53, s_X3_nextDesk_55, s_X3_nextDesk_56, s_X3_nextDesk_57, s_X3_nextDesk_60, s_X3_nextDesk_62, s_X3_nextDesk_63, s_X3_nextDesk_64, s_X3_nextDesk_65, s_X3_nextDesk_67, s_X3_nextDesk_70, cls_62, fv_62_0, fv_62_1, fv_62_2, fv_62_3, ak_107, al_107, hto, i1, iI_shl1, iI_or, leF (show (k : Int) < n by omega), leF (show (k : Int) < 8 by omega), iI_add, iI_sub, iI_mul, iI_neg, iI_lt, iI_le, iI_eq, iI_toInt, tn_n, tn_1, inb_I, Int.reduceEq, Int.reduceLT, Int.reduceLE, Int.reduceAdd, Int.reduceSub, Int.reduceMul, Int.reduceNeg, Int.reduceToNat, Nat.reduceAdd, Nat.reduceMul, Int.reduceNatCast, reduceCtorEq, Int.cast_ofNat_Int, bi_tr, bi_fa, bi_0, bi_1, not_true_eq_false, not_false_eq_true, rnk_v, rnk_n, ↓reduceIte, i00, i11, ibi, or_true, true_or, and_true, true_and, List.cons_append, List.nil_append, Option.toList, nop]
    exact hX)
  have htd : tdN Q s n < 256 := tdN_lt hI (fun k hkn => decide_eq_true (hk.2 k hkn))
  obtain ⟨x11, key2, -⟩ := lp (f := fun d (x : Option Value) => rn (exF D) C_X3_nextDesk 83 [some (.ref 62), some (.ref 0), some (.int (iI (fitN K Q s n))), some (.int (iI (kDs Q s 0))), some (.int (iI (tdN Q s n))), some (.int (iI (amn (lsH K Q s n) 17 d).1)), some (.int (iI ((amn (lsH K Q s n) 17 d).2 : Nat))), some (.int (iI d)), x] [] M) (P := fun _ _ => True) (n := kD K) (by
    rintro d x hdd -
    have g1 := amn_rng (h := lsH K Q s n) (a := 17) d
    have g2 := mlK_le K Q s n d
    have k4 := k_X3_mostLeft (D := D) (by omega) hR hI hd hk hdd
    by_cases q1 : (tdN Q s n).testBit d = true
    · refine ⟨x, ?_, trivial⟩
      intro X hX
      show rn _ _ _ _ _ _ = X
      have e1 : lsH K Q s n d = 17 := if_pos q1
      rw [amn, if_neg (by omega)] at hX
      rw [s_X3_nextDesk_83]
      simp (maxSteps := 4000000) (disch := omega) only [s_X3_nextDesk_85, s_X3_nextDesk_86, s_X3_nextDesk_89, s_X3_nextDesk_92, s_X3_nextDesk_94, s_X3_nextDesk_96, s_X3_nextDesk_99, s_X3_nextDesk_101, s_X3_nextDesk_102, s_X3_nextDesk_104, s_X3_nextDesk_105, s_X3_nextDesk_106, s_X3_nextDesk_109, s_X3_nextDesk_110, s_X3_nextDesk_111, s_X3_nextDesk_112, s_X3_nextDesk_113, s_X3_nextDesk_115, s_X3_nextDesk_118, s_X3_nextDesk_120, s_X3_nextDesk_122, s_X3_nextDesk_124, s_X3_nextDesk_127, s_X3_nextDesk_129, s_X3_nextDesk_131, s_X3_nextDesk_133, s_X3_nextDesk_135, s_X3_nextDesk_138, cls_0, fv_0_0, fv_0_1, fv_0_2, fv_0_3, fv_0_4, fv_0_5, fv_0_6, fv_0_7, fv_0_8, fv_0_9, fv_0_10, fv_0_11, fv_0_12, fv_0_13, fv_0_14, fv_0_15, r1, iI_shl1, bit_get1 (show tdN Q s n < 2147483648 by omega), q1, leF (show (d : Int) < kD K by omega), leF (show (d : Int) < 8 by omega), iI_add, iI_sub, iI_mul, iI_neg, iI_lt, iI_le, iI_eq, iI_toInt, tn_n, tn_1, inb_I, Int.reduceEq, Int.reduceLT, Int.reduceLE, Int.reduceAdd, Int.reduceSub, Int.reduceMul, Int.reduceNeg, Int.reduceToNat, Nat.reduceAdd, Nat.reduceMul, Int.reduceNatCast, reduceCtorEq, Int.cast_ofNat_Int, bi_tr, bi_fa, bi_0, bi_1, not_true_eq_false, not_false_eq_true, rnk_v, rnk_n, ↓reduceIte, i00, i11, ibi, or_true, true_or, and_true, true_and, List.cons_append, List.nil_append, Option.toList, nop]
      exact hX
    · have e1 : lsH K Q s n d = mlK K Q s n d := if_neg q1
      refine ⟨some (.int (iI (mlK K Q s n d))), ?_, trivial⟩
      intro X hX
      show rn _ _ _ _ _ _ = X
      rw [amn, e1] at hX
      rw [s_X3_nextDesk_83]
      by_cases q2 : mlK K Q s n d < (amn (lsH K Q s n) 17 d).2
      · rw [if_pos q2] at hX
        simp (maxSteps := 4000000) (disch := omega) only [s_X3_nextDesk_85, s_X3_nextDesk_86, s_X3_nextDesk_89, s_X3_nextDesk_92, s_X3_nextDesk_94, s_X3_nextDesk_96, s_X3_nextDesk_99, s_X3_nextDesk_101, s_X3_nextDesk_102, s_X3_nextDesk_104, s_X3_nextDesk_105, s_X3_nextDesk_106, s_X3_nextDesk_109, s_X3_nextDesk_110, s_X3_nextDesk_111, s_X3_nextDesk_112, s_X3_nextDesk_113, s_X3_nextDesk_115, s_X3_nextDesk_118, s_X3_nextDesk_120, s_X3_nextDesk_122, s_X3_nextDesk_124, s_X3_nextDesk_127, s_X3_nextDesk_129, s_X3_nextDesk_131, s_X3_nextDesk_133, s_X3_nextDesk_135, s_X3_nextDesk_138, cls_62, cls_0, fv_0_0, fv_0_1, fv_0_2, fv_0_3, fv_0_4, fv_0_5, fv_0_6, fv_0_7, fv_0_8, fv_0_9, fv_0_10, fv_0_11, fv_0_12, fv_0_13, fv_0_14, fv_0_15, r1, iI_shl1, bit_get1 (show tdN Q s n < 2147483648 by omega), q1, k4, Bool.false_eq_true, leF (show (mlK K Q s n d : Int) < ((amn (lsH K Q s n) 17 d).2 : Int) by omega), leF (show (d : Int) < kD K by omega), leF (show (d : Int) < 8 by omega), iI_add, iI_sub, iI_mul, iI_neg, iI_lt, iI_le, iI_eq, iI_toInt, tn_n, tn_1, inb_I, Int.reduceEq, Int.reduceLT, Int.reduceLE, Int.reduceAdd, Int.reduceSub, Int.reduceMul, Int.reduceNeg, Int.reduceToNat, Nat.reduceAdd, Nat.reduceMul, Int.reduceNatCast, reduceCtorEq, Int.cast_ofNat_Int, bi_tr, bi_fa, bi_0, bi_1, not_true_eq_false, not_false_eq_true, rnk_v, rnk_n, ↓reduceIte, i00, i11, ibi, or_true, true_or, and_true, true_and, List.cons_append, List.nil_append, Option.toList, nop]
        exact hX
      · rw [if_neg q2] at hX
        simp (maxSteps := 4000000) (disch := omega) only [s_X3_nextDesk_85, s_X3_nextDesk_86, s_X3_nextDesk_89, s_X3_nextDesk_92, s_X3_nextDesk_94, s_X3_nextDesk_96, s_X3_nextDesk_99, s_X3_nextDesk_101, s_X3_nextDesk_102, s_X3_nextDesk_104, s_X3_nextDesk_105, s_X3_nextDesk_106, s_X3_nextDesk_109, s_X3_nextDesk_110, s_X3_nextDesk_111, s_X3_nextDesk_112, s_X3_nextDesk_113, s_X3_nextDesk_115, s_X3_nextDesk_118, s_X3_nextDesk_120, s_X3_nextDesk_122, s_X3_nextDesk_124, s_X3_nextDesk_127, s_X3_nextDesk_129, s_X3_nextDesk_131, s_X3_nextDesk_133, s_X3_nextDesk_135, s_X3_nextDesk_138, cls_62, cls_0, fv_0_0, fv_0_1, fv_0_2, fv_0_3, fv_0_4, fv_0_5, fv_0_6, fv_0_7, fv_0_8, fv_0_9, fv_0_10, fv_0_11, fv_0_12, fv_0_13, fv_0_14, fv_0_15, r1, iI_shl1, bit_get1 (show tdN Q s n < 2147483648 by omega), q1, k4, Bool.false_eq_true, leT (show ((amn (lsH K Q s n) 17 d).2 : Int) ≤ (mlK K Q s n d : Int) by omega), leF (show (d : Int) < kD K by omega), leF (show (d : Int) < 8 by omega), iI_add, iI_sub, iI_mul, iI_neg, iI_lt, iI_le, iI_eq, iI_toInt, tn_n, tn_1, inb_I, Int.reduceEq, Int.reduceLT, Int.reduceLE, Int.reduceAdd, Int.reduceSub, Int.reduceMul, Int.reduceNeg, Int.reduceToNat, Nat.reduceAdd, Nat.reduceMul, Int.reduceNatCast, reduceCtorEq, Int.cast_ofNat_Int, bi_tr, bi_fa, bi_0, bi_1, not_true_eq_false, not_false_eq_true, rnk_v, rnk_n, ↓reduceIte, i00, i11, ibi, or_true, true_or, and_true, true_and, List.cons_append, List.nil_append, Option.toList, nop]
        exact hX) (Nat.zero_le _) (a := none) trivial
  simp (maxSteps := 4000000) (disch := omega) only [en_X3_nextDesk, s_X3_nextDesk_0, s_X3_nextDesk_1, s_X3_nextDesk_2, s_X3_nextDesk_5, s_X3_nextDesk_6, s_X3_nextDesk_7, s_X3_nextDesk_10, s_X3_nextDesk_11, s_X3_nextDesk_12, s_X3_nextDesk_13, s_X3_nextDesk_14, s_X3_nextDesk_17, s_X3_nextDesk_18, s_X3_nextDesk_21, s_X3_nextDesk_22, s_X3_nextDesk_23, s_X3_nextDesk_26, s_X3_nextDesk_29, s_X3_nextDesk_30, s_X3_nextDesk_31, s_X3_nextDesk_32, s_X3_nextDesk_34, s_X3_nextDesk_35, cls_62, fv_62_0, fv_62_1, fv_62_2, fv_62_3, ak_107, al_107, cls_0, k1, k2, k3, k_X4_hasDesk (show _ ≤ D by omega) h0 hR hI, bi_t z1, ltF (show (2 : Int) ≤ (popc (fitN K Q s n) : Int) by omega), iI_add, iI_sub, iI_mul, iI_neg, iI_lt, iI_le, iI_eq, iI_toInt, tn_n, tn_1, inb_I, Int.reduceEq, Int.reduceLT, Int.reduceLE, Int.reduceAdd, Int.reduceSub, Int.reduceMul, Int.reduceNeg, Int.reduceToNat, Nat.reduceAdd, Nat.reduceMul, Int.reduceNatCast, reduceCtorEq, Int.cast_ofNat_Int, bi_tr, bi_fa, bi_0, bi_1, not_true_eq_false, not_false_eq_true, rnk_v, rnk_n, ↓reduceIte, i00, i11, ibi, or_true, true_or, and_true, true_and, List.cons_append, List.nil_append, Option.toList, nop]
  refine Eq.trans key1 ?_
  simp (maxSteps := 4000000) (disch := omega) only [s_X3_nextDesk_37, s_X3_nextDesk_39, s_X3_nextDesk_40, s_X3_nextDesk_43, s_X3_nextDesk_73, s_X3_nextDesk_74, s_X3_nextDesk_76, s_X3_nextDesk_78, s_X3_nextDesk_80, s_X3_nextDesk_81, cls_62, fv_62_0, fv_62_1, fv_62_2, fv_62_3, hto, leT (show (n : Int) ≤ n by omega), iI_add, iI_sub, iI_mul, iI_neg, iI_lt, iI_le, iI_eq, iI_toInt, tn_n, tn_1, inb_I, Int.reduceEq, Int.reduceLT, Int.reduceLE, Int.reduceAdd, Int.reduceSub, Int.reduceMul, Int.reduceNeg, Int.reduceToNat, Nat.reduceAdd, Nat.reduceMul, Int.reduceNatCast, reduceCtorEq, Int.cast_ofNat_Int, bi_tr, bi_fa, bi_0, bi_1, not_true_eq_false, not_false_eq_true, rnk_v, rnk_n, ↓reduceIte, i00, i11, ibi, or_true, true_or, and_true, true_and, List.cons_append, List.nil_append, Option.toList, nop]
  refine Eq.trans key2 ?_
  simp (maxSteps := 4000000) (disch := omega) only [s_X3_nextDesk_83, s_X3_nextDesk_85, s_X3_nextDesk_86, s_X3_nextDesk_89, s_X3_nextDesk_141, s_X3_nextDesk_143, cls_0, fv_0_0, fv_0_1, fv_0_2, fv_0_3, fv_0_4, fv_0_5, fv_0_6, fv_0_7, fv_0_8, fv_0_9, fv_0_10, fv_0_11, fv_0_12, fv_0_13, fv_0_14, fv_0_15, r1, leT (show (kD K : Int) ≤ kD K by omega), iI_add, iI_sub, iI_mul, iI_neg, iI_lt, iI_le, iI_eq, iI_toInt, tn_n, tn_1, inb_I, Int.reduceEq, Int.reduceLT, Int.reduceLE, Int.reduceAdd, Int.reduceSub, Int.reduceMul, Int.reduceNeg, Int.reduceToNat, Nat.reduceAdd, Nat.reduceMul, Int.reduceNatCast, reduceCtorEq, Int.cast_ofNat_Int, bi_tr, bi_fa, bi_0, bi_1, not_true_eq_false, not_false_eq_true, rnk_v, rnk_n, ↓reduceIte, i00, i11, ibi, or_true, true_or, and_true, true_and, List.cons_append, List.nil_append, Option.toList, nop]
theorem knQ_0 {K : tK} {Q : tQ} {s n : Int} (h : ¬ knQ K Q s n < 0) : ((0 ≤ s ∧ s < 8) ∧ 100 ≤ qH Q s.toNat) ∧ (1 ≤ n ∧ n ≤ 8) ∧ n ≤ (qN Q s.toNat : Int) / 2 ∧ alB (kGd K Q s.toNat) n.toNat = true := by
  have h1 := rrQ_ri Q s
  unfold knQ at h
  by_cases e1 : rrQ Q s < 0
  · rw [if_pos e1] at h; omega
  rw [if_neg e1] at h
  by_cases e2 : n < 0
  · rw [if_pos e2] at h; omega
  rw [if_neg e2] at h
  by_cases e3 : (qN Q s.toNat : Int) / 2 < n
  · rw [if_pos e3] at h; omega
  rw [if_neg e3] at h
  by_cases e4 : (1 ≤ n ∧ n ≤ 8) ∧ alB (kGd K Q s.toNat) n.toNat = true
  · exact ⟨(h1.2 e1).2, e4.1, by omega, e4.2⟩
  · rw [if_pos e4] at h; omega
theorem k_X10_knocksRefusal {D : Nat} (hD : 6 ≤ D) {M : tM} {K : tK} {Q : tQ} (hR : Rep M 0 K) (hI : kInv K) (hS : RepS M Q) (hQ : qInv Q) {s n : Int} (gs : -2147483648 ≤ s ∧ s ≤ 2147483647) (gn : -2147483648 ≤ n ∧ n ≤ 2147483647) : exF D m_X10_knocksRefusal [.ref 88, .int (iI s), .int (iI n)] M = some (some (.int (iI (knQ K Q s n))), M) := by
  obtain ⟨D, rfl⟩ : ∃ D0, D = D0 + 1 := ⟨D - 1, by omega⟩
  have n0 := kI_n hI
  have k1 := rrQ_rng Q s
  have k2 := rrQ_ri Q s
  have k0 := k_X10_rowRefusal (D := D) (by omega) hS hQ gs.1 gs.2
  unfold knQ
  by_cases e1 : rrQ Q s < 0
  · rw [if_pos e1]
    simp (maxSteps := 4000000) (disch := omega) only [en_X10_knocksRefusal, s_X10_knocksRefusal_0, s_X10_knocksRefusal_1, s_X10_knocksRefusal_2, s_X10_knocksRefusal_5, s_X10_knocksRefusal_6, s_X10_knocksRefusal_7, s_X10_knocksRefusal_10, s_X10_knocksRefusal_11, s_X10_knocksRefusal_12, s_X10_knocksRefusal_13, s_X10_knocksRefusal_16, s_X10_knocksRefusal_18, s_X10_knocksRefusal_19, s_X10_knocksRefusal_20, s_X10_knocksRefusal_21, s_X10_knocksRefusal_24, s_X10_knocksRefusal_25, s_X10_knocksRefusal_28, s_X10_knocksRefusal_29, s_X10_knocksRefusal_30, s_X10_knocksRefusal_33, s_X10_knocksRefusal_35, s_X10_knocksRefusal_36, s_X10_knocksRefusal_37, s_X10_knocksRefusal_38, s_X10_knocksRefusal_41, s_X10_knocksRefusal_42, s_X10_knocksRefusal_44, s_X10_knocksRefusal_47, s_X10_knocksRefusal_49, s_X10_knocksRefusal_50, s_X10_knocksRefusal_51, s_X10_knocksRefusal_53, s_X10_knocksRefusal_55, s_X10_knocksRefusal_56, s_X10_knocksRefusal_59, s_X10_knocksRefusal_60, s_X10_knocksRefusal_63, s_X10_knocksRefusal_64, s_X10_knocksRefusal_65, s_X10_knocksRefusal_67, s_X10_knocksRefusal_68, s_X10_knocksRefusal_69, s_X10_knocksRefusal_70, s_X10_knocksRefusal_73, s_X10_knocksRefusal_75, s_X10_knocksRefusal_76, s_X10_knocksRefusal_79, s_X10_knocksRefusal_80, s_X10_knocksRefusal_83, s_X10_knocksRefusal_84, s_X10_knocksRefusal_85, s_X10_knocksRefusal_87, s_X10_knocksRefusal_88, s_X10_knocksRefusal_91, s_X10_knocksRefusal_94, s_X10_knocksRefusal_97, s_X10_knocksRefusal_99, s_X10_knocksRefusal_102, s_X10_knocksRefusal_104, s_X10_knocksRefusal_107, s_X10_knocksRefusal_110, s_X10_knocksRefusal_112, s_X10_knocksRefusal_113, s_X10_knocksRefusal_116, s_X10_knocksRefusal_119, s_X10_knocksRefusal_120, cls_88, fv_88_0, fv_88_1, fv_88_2, fv_88_3, fv_88_4, fv_88_5, fv_88_6, fv_88_7, fv_88_8, fv_88_9, fv_88_10, fv_88_11, fv_88_12, fv_88_13, fv_88_14, k0, leF (show rrQ Q s < 0 by omega), iI_add, iI_sub, iI_mul, iI_neg, iI_lt, iI_le, iI_eq, iI_toInt, tn_n, tn_1, inb_I, Int.reduceEq, Int.reduceLT, Int.reduceLE, Int.reduceAdd, Int.reduceSub, Int.reduceMul, Int.reduceNeg, Int.reduceToNat, Nat.reduceAdd, Nat.reduceMul, Int.reduceNatCast, reduceCtorEq, Int.cast_ofNat_Int, bi_tr, bi_fa, bi_0, bi_1, not_true_eq_false, not_false_eq_true, rnk_v, rnk_n, ↓reduceIte, i00, i11, ibi, or_true, true_or, and_true, true_and, List.cons_append, List.nil_append, Option.toList, nop]
  rw [if_neg e1]
  obtain ⟨-, k4, k5⟩ := k2.2 e1
  obtain ⟨u, rfl⟩ : ∃ u : Nat, s = u := ⟨s.toNat, by omega⟩
  simp only [Int.toNat_natCast] at *
  have k6 := qZ_of k5
  have k7 := k_X8_sizeOf (show 2 ≤ D by omega) hS hQ (show u < 8 by omega)
  rw [k6] at k7
  have k8 := (hQ u (by omega)).2
  by_cases e2 : n < 0
  · rw [if_pos e2]
    simp (maxSteps := 4000000) (disch := omega) only [en_X10_knocksRefusal, s_X10_knocksRefusal_0, s_X10_knocksRefusal_1, s_X10_knocksRefusal_2, s_X10_knocksRefusal_5, s_X10_knocksRefusal_6, s_X10_knocksRefusal_7, s_X10_knocksRefusal_10, s_X10_knocksRefusal_11, s_X10_knocksRefusal_12, s_X10_knocksRefusal_13, s_X10_knocksRefusal_16, s_X10_knocksRefusal_18, s_X10_knocksRefusal_19, s_X10_knocksRefusal_20, s_X10_knocksRefusal_21, s_X10_knocksRefusal_24, s_X10_knocksRefusal_25, s_X10_knocksRefusal_28, s_X10_knocksRefusal_29, s_X10_knocksRefusal_30, s_X10_knocksRefusal_33, s_X10_knocksRefusal_35, s_X10_knocksRefusal_36, s_X10_knocksRefusal_37, s_X10_knocksRefusal_38, s_X10_knocksRefusal_41, s_X10_knocksRefusal_42, s_X10_knocksRefusal_44, s_X10_knocksRefusal_47, s_X10_knocksRefusal_49, s_X10_knocksRefusal_50, s_X10_knocksRefusal_51, s_X10_knocksRefusal_53, s_X10_knocksRefusal_55, s_X10_knocksRefusal_56, s_X10_knocksRefusal_59, s_X10_knocksRefusal_60, s_X10_knocksRefusal_63, s_X10_knocksRefusal_64, s_X10_knocksRefusal_65, s_X10_knocksRefusal_67, s_X10_knocksRefusal_68, s_X10_knocksRefusal_69, s_X10_knocksRefusal_70, s_X10_knocksRefusal_73, s_X10_knocksRefusal_75, s_X10_knocksRefusal_76, s_X10_knocksRefusal_79, s_X10_knocksRefusal_80, s_X10_knocksRefusal_83, s_X10_knocksRefusal_84, s_X10_knocksRefusal_85, s_X10_knocksRefusal_87, s_X10_knocksRefusal_88, s_X10_knocksRefusal_91, s_X10_knocksRefusal_94, s_X10_knocksRefusal_97, s_X10_knocksRefusal_99, s_X10_knocksRefusal_102, s_X10_knocksRefusal_104, s_X10_knocksRefusal_107, s_X10_knocksRefusal_110, s_X10_knocksRefusal_112, s_X10_knocksRefusal_113, s_X10_knocksRefusal_116, s_X10_knocksRefusal_119, s_X10_knocksRefusal_120, cls_88, fv_88_0, fv_88_1, fv_88_2, fv_88_3, fv_88_4, fv_88_5, fv_88_6, fv_88_7, fv_88_8, fv_88_9, fv_88_10, fv_88_11, fv_88_12, fv_88_13, fv_88_14, k0, leT (show 0 ≤ rrQ Q u by omega), leF e2, iI_add, iI_sub, iI_mul, iI_neg, iI_lt, iI_le, iI_eq, iI_toInt, tn_n, tn_1, inb_I, Int.reduceEq, Int.reduceLT, Int.reduceLE, Int.reduceAdd, Int.reduceSub, Int.reduceMul, Int.reduceNeg, Int.reduceToNat, Nat.reduceAdd, Nat.reduceMul, Int.reduceNatCast, reduceCtorEq, Int.cast_ofNat_Int, bi_tr, bi_fa, bi_0, bi_1, not_true_eq_false, not_false_eq_true, rnk_v, rnk_n, ↓reduceIte, i00, i11, ibi, or_true, true_or, and_true, true_and, List.cons_append, List.nil_append, Option.toList, nop]
  rw [if_neg e2]
  by_cases e3 : (qN Q u : Int) / 2 < n
  · rw [if_pos e3]
    simp (maxSteps := 4000000) (disch := omega) only [en_X10_knocksRefusal, s_X10_knocksRefusal_0, s_X10_knocksRefusal_1, s_X10_knocksRefusal_2, s_X10_knocksRefusal_5, s_X10_knocksRefusal_6, s_X10_knocksRefusal_7, s_X10_knocksRefusal_10, s_X10_knocksRefusal_11, s_X10_knocksRefusal_12, s_X10_knocksRefusal_13, s_X10_knocksRefusal_16, s_X10_knocksRefusal_18, s_X10_knocksRefusal_19, s_X10_knocksRefusal_20, s_X10_knocksRefusal_21, s_X10_knocksRefusal_24, s_X10_knocksRefusal_25, s_X10_knocksRefusal_28, s_X10_knocksRefusal_29, s_X10_knocksRefusal_30, s_X10_knocksRefusal_33, s_X10_knocksRefusal_35, s_X10_knocksRefusal_36, s_X10_knocksRefusal_37, s_X10_knocksRefusal_38, s_X10_knocksRefusal_41, s_X10_knocksRefusal_42, s_X10_knocksRefusal_44, s_X10_knocksRefusal_47, s_X10_knocksRefusal_49, s_X10_knocksRefusal_50, s_X10_knocksRefusal_51, s_X10_knocksRefusal_53, s_X10_knocksRefusal_55, s_X10_knocksRefusal_56, s_X10_knocksRefusal_59, s_X10_knocksRefusal_60, s_X10_knocksRefusal_63, s_X10_knocksRefusal_64, s_X10_knocksRefusal_65, s_X10_knocksRefusal_67, s_X10_knocksRefusal_68, s_X10_knocksRefusal_69, s_X10_knocksRefusal_70, s_X10_knocksRefusal_73, s_X10_knocksRefusal_75, s_X10_knocksRefusal_76, s_X10_knocksRefusal_79, s_X10_knocksRefusal_80, s_X10_knocksRefusal_83, s_X10_knocksRefusal_84, s_X10_knocksRefusal_85, s_X10_knocksRefusal_87, s_X10_knocksRefusal_88, s_X10_knocksRefusal_91, s_X10_knocksRefusal_94, s_X10_knocksRefusal_97, s_X10_knocksRefusal_99, s_X10_knocksRefusal_102, s_X10_knocksRefusal_104, s_X10_knocksRefusal_107, s_X10_knocksRefusal_110, s_X10_knocksRefusal_112, s_X10_knocksRefusal_113, s_X10_knocksRefusal_116, s_X10_knocksRefusal_119, s_X10_knocksRefusal_120, cls_88, fv_88_0, fv_88_1, fv_88_2, fv_88_3, fv_88_4, fv_88_5, fv_88_6, fv_88_7, fv_88_8, fv_88_9, fv_88_10, fv_88_11, fv_88_12, fv_88_13, fv_88_14, cls_30, k0, k7, iI_div, leT (show 0 ≤ rrQ Q u by omega), leT (show 0 ≤ n by omega), leF e3, iI_add, iI_sub, iI_mul, iI_neg, iI_lt, iI_le, iI_eq, iI_toInt, tn_n, tn_1, inb_I, Int.reduceEq, Int.reduceLT, Int.reduceLE, Int.reduceAdd, Int.reduceSub, Int.reduceMul, Int.reduceNeg, Int.reduceToNat, Nat.reduceAdd, Nat.reduceMul, Int.reduceNatCast, reduceCtorEq, Int.cast_ofNat_Int, bi_tr, bi_fa, bi_0, bi_1, not_true_eq_false, not_false_eq_true, rnk_v, rnk_n, ↓reduceIte, i00, i11, ibi, or_true, true_or, and_true, true_and, List.cons_append, List.nil_append, Option.toList, nop]
  rw [if_neg e3]
  have pre : (1 ≤ n ∧ n ≤ 8) → exF (D + 1) m_X10_knocksRefusal [.ref 88, .int (iI u), .int (iI n)] M = rn (exF D) C_X10_knocksRefusal 53 [some (.ref 88), some (.int (iI u)), some (.int (iI n)), some (.int (iI (rrQ Q u))), some (.int (iI 0)), none] [] M := by
    intro e4
    simp (maxSteps := 4000000) (disch := omega) only [en_X10_knocksRefusal, s_X10_knocksRefusal_0, s_X10_knocksRefusal_1, s_X10_knocksRefusal_2, s_X10_knocksRefusal_5, s_X10_knocksRefusal_6, s_X10_knocksRefusal_7, s_X10_knocksRefusal_10, s_X10_knocksRefusal_11, s_X10_knocksRefusal_12, s_X10_knocksRefusal_13, s_X10_knocksRefusal_16, s_X10_knocksRefusal_18, s_X10_knocksRefusal_19, s_X10_knocksRefusal_20, s_X10_knocksRefusal_21, s_X10_knocksRefusal_24, s_X10_knocksRefusal_25, s_X10_knocksRefusal_28, s_X10_knocksRefusal_29, s_X10_knocksRefusal_30, s_X10_knocksRefusal_33, s_X10_knocksRefusal_35, s_X10_knocksRefusal_36, s_X10_knocksRefusal_37, s_X10_knocksRefusal_38, s_X10_knocksRefusal_41, s_X10_knocksRefusal_42, s_X10_knocksRefusal_44, s_X10_knocksRefusal_47, s_X10_knocksRefusal_49, s_X10_knocksRefusal_50, s_X10_knocksRefusal_51, cls_88, fv_88_0, fv_88_1, fv_88_2, fv_88_3, fv_88_4, fv_88_5, fv_88_6, fv_88_7, fv_88_8, fv_88_9, fv_88_10, fv_88_11, fv_88_12, fv_88_13, fv_88_14, cls_30, k0, k7, iI_div, leT (show 0 ≤ rrQ Q u by omega), leT (show 0 ≤ n by omega), leT (show n ≤ (qN Q u : Int) / 2 by omega), ltF (show 1 ≤ n by omega), leT (show n ≤ 8 by omega), iI_add, iI_sub, iI_mul, iI_neg, iI_lt, iI_le, iI_eq, iI_toInt, tn_n, tn_1, inb_I, Int.reduceEq, Int.reduceLT, Int.reduceLE, Int.reduceAdd, Int.reduceSub, Int.reduceMul, Int.reduceNeg, Int.reduceToNat, Nat.reduceAdd, Nat.reduceMul, Int.reduceNatCast, reduceCtorEq, Int.cast_ofNat_Int, bi_tr, bi_fa, bi_0, bi_1, not_true_eq_false, not_false_eq_true, rnk_v, rnk_n, ↓reduceIte, i00, i11, ibi, or_true, true_or, and_true, true_and, List.cons_append, List.nil_append, Option.toList, nop]
  by_cases e4 : 1 ≤ n ∧ n ≤ 8
  rotate_left
  · rw [if_pos (fun q => e4 q.1)]
    by_cases e5 : n < 1
    · simp (maxSteps := 4000000) (disch := omega) only [en_X10_knocksRefusal, s_X10_knocksRefusal_0, s_X10_knocksRefusal_1, s_X10_knocksRefusal_2, s_X10_knocksRefusal_5, s_X10_knocksRefusal_6, s_X10_knocksRefusal_7, s_X10_knocksRefusal_10, s_X10_knocksRefusal_11, s_X10_knocksRefusal_12, s_X10_knocksRefusal_13, s_X10_knocksRefusal_16, s_X10_knocksRefusal_18, s_X10_knocksRefusal_19, s_X10_knocksRefusal_20, s_X10_knocksRefusal_21, s_X10_knocksRefusal_24, s_X10_knocksRefusal_25, s_X10_knocksRefusal_28, s_X10_knocksRefusal_29, s_X10_knocksRefusal_30, s_X10_knocksRefusal_33, s_X10_knocksRefusal_35, s_X10_knocksRefusal_36, s_X10_knocksRefusal_37, s_X10_knocksRefusal_38, s_X10_knocksRefusal_41, s_X10_knocksRefusal_42, s_X10_knocksRefusal_44, s_X10_knocksRefusal_47, s_X10_knocksRefusal_49, s_X10_knocksRefusal_50, s_X10_knocksRefusal_51, s_X10_knocksRefusal_53, s_X10_knocksRefusal_55, s_X10_knocksRefusal_56, s_X10_knocksRefusal_59, s_X10_knocksRefusal_60, s_X10_knocksRefusal_63, s_X10_knocksRefusal_64, s_X10_knocksRefusal_65, s_X10_knocksRefusal_67, s_X10_knocksRefusal_68, s_X10_knocksRefusal_69, s_X10_knocksRefusal_70, s_X10_knocksRefusal_73, s_X10_knocksRefusal_75, s_X10_knocksRefusal_76, s_X10_knocksRefusal_79, s_X10_knocksRefusal_80, s_X10_knocksRefusal_83, s_X10_knocksRefusal_84, s_X10_knocksRefusal_85, s_X10_knocksRefusal_87, s_X10_knocksRefusal_88, s_X10_knocksRefusal_91, s_X10_knocksRefusal_94, s_X10_knocksRefusal_97, s_X10_knocksRefusal_99, s_X10_knocksRefusal_102, s_X10_knocksRefusal_104, s_X10_knocksRefusal_107, s_X10_knocksRefusal_110, s_X10_knocksRefusal_112, s_X10_knocksRefusal_113, s_X10_knocksRefusal_116, s_X10_knocksRefusal_119, s_X10_knocksRefusal_120, cls_88, fv_88_0, fv_88_1, fv_88_2, fv_88_3, fv_88_4, fv_88_5, fv_88_6, fv_88_7, fv_88_8, fv_88_9, fv_88_10, fv_88_11, fv_88_12, fv_88_13, fv_88_14, cls_30, k0, k7, iI_div, leT (show 0 ≤ rrQ Q u by omega), leT (show 0 ≤ n by omega), leT (show n ≤ (qN Q u : Int) / 2 by omega), ltT e5, iI_add, iI_sub, iI_mul, iI_neg, iI_lt, iI_le, iI_eq, iI_toInt, tn_n, tn_1, inb_I, Int.reduceEq, Int.reduceLT, Int.reduceLE, Int.reduceAdd, Int.reduceSub, Int.reduceMul, Int.reduceNeg, Int.reduceToNat, Nat.reduceAdd, Nat.reduceMul, Int.reduceNatCast, reduceCtorEq, Int.cast_ofNat_Int, bi_tr, bi_fa, bi_0, bi_1, not_true_eq_false, not_false_eq_true, rnk_v, rnk_n, ↓reduceIte, i00, i11, ibi, or_true, true_or, and_true, true_and, List.cons_append, List.nil_append, Option.toList, nop]
    · simp (maxSteps := 4000000) (disch := omega) only [en_X10_knocksRefusal, s_X10_knocksRefusal_0, s_X10_knocksRefusal_1, s_X10_knocksRefusal_2, s_X10_knocksRefusal_5, s_X10_knocksRefusal_6, s_X10_knocksRefusal_7, s_X10_knocksRefusal_10, s_X10_knocksRefusal_11, s_X10_knocksRefusal_12, s_X10_knocksRefusal_13, s_X10_knocksRefusal_16, s_X10_knocksRefusal_18, s_X10_knocksRefusal_19, s_X10_knocksRefusal_20, s_X10_knocksRefusal_21, s_X10_knocksRefusal_24, s_X10_knocksRefusal_25, s_X10_knocksRefusal_28, s_X10_knocksRefusal_29, s_X10_knocksRefusal_30, s_X10_knocksRefusal_33, s_X10_knocksRefusal_35, s_X10_knocksRefusal_36, s_X10_knocksRefusal_37, s_X10_knocksRefusal_38, s_X10_knocksRefusal_41, s_X10_knocksRefusal_42, s_X10_knocksRefusal_44, s_X10_knocksRefusal_47, s_X10_knocksRefusal_49, s_X10_knocksRefusal_50, s_X10_knocksRefusal_51, s_X10_knocksRefusal_53, s_X10_knocksRefusal_55, s_X10_knocksRefusal_56, s_X10_knocksRefusal_59, s_X10_knocksRefusal_60, s_X10_knocksRefusal_63, s_X10_knocksRefusal_64, s_X10_knocksRefusal_65, s_X10_knocksRefusal_67, s_X10_knocksRefusal_68, s_X10_knocksRefusal_69, s_X10_knocksRefusal_70, s_X10_knocksRefusal_73, s_X10_knocksRefusal_75, s_X10_knocksRefusal_76, s_X10_knocksRefusal_79, s_X10_knocksRefusal_80, s_X10_knocksRefusal_83, s_X10_knocksRefusal_84, s_X10_knocksRefusal_85, s_X10_knocksRefusal_87, s_X10_knocksRefusal_88, s_X10_knocksRefusal_91, s_X10_knocksRefusal_94, s_X10_knocksRefusal_97, s_X10_knocksRefusal_99, s_X10_knocksRefusal_102, s_X10_knocksRefusal_104, s_X10_knocksRefusal_107, s_X10_knocksRefusal_110, s_X10_knocksRefusal_112, s_X10_knocksRefusal_113, s_X10_knocksRefusal_116, s_X10_knocksRefusal_119, s_X10_knocksRefusal_120, cls_88, fv_88_0, fv_88_1, fv_88_2, fv_88_3, fv_88_4, fv_88_5, fv_88_6, fv_88_7, fv_88_8, fv_88_9, fv_88_10, fv_88_11, fv_88_12, fv_88_13, fv_88_14, cls_30, k0, k7, iI_div, leT (show 0 ≤ rrQ Q u by omega), leT (show 0 ≤ n by omega), leT (show n ≤ (qN Q u : Int) / 2 by omega), ltF (show 1 ≤ n by omega), leF (show 8 < n by omega), iI_add, iI_sub, iI_mul, iI_neg, iI_lt, iI_le, iI_eq, iI_toInt, tn_n, tn_1, inb_I, Int.reduceEq, Int.reduceLT, Int.reduceLE, Int.reduceAdd, Int.reduceSub, Int.reduceMul, Int.reduceNeg, Int.reduceToNat, Nat.reduceAdd, Nat.reduceMul, Int.reduceNatCast, reduceCtorEq, Int.cast_ofNat_Int, bi_tr, bi_fa, bi_0, bi_1, not_true_eq_false, not_false_eq_true, rnk_v, rnk_n, ↓reduceIte, i00, i11, ibi, or_true, true_or, and_true, true_and, List.cons_append, List.nil_append, Option.toList, nop]
  rw [pre e4]
  obtain ⟨w, rfl⟩ : ∃ u : Nat, n = u := ⟨n.toNat, by omega⟩
  simp only [Int.toNat_natCast]
  have stp : ∀ k, k < w → (exF D m_X8_intAt [.ref 30, .int (iI u), .int (iI (2 * (k : Int)))] M = some (some (.int (iI (qI Q u (2 * k)))), M)) ∧ exF D m_X8_intAt [.ref 30, .int (iI u), .int (iI (2 * (k : Int) + 1))] M = some (some (.int (iI (qI Q u (2 * k + 1)))), M) := by
    intro k hk
    have i1 := k_X8_intAt (D := D) (by omega) hS hQ (show u < 8 by omega) (i := 2 * k) (by omega)
    have i2 := k_X8_intAt (D := D) (by omega) hS hQ (show u < 8 by omega) (i := 2 * k + 1) (by omega)
    rw [show ((2 * k : Nat) : Int) = 2 * (k : Int) by omega] at i1
    rw [show ((2 * k + 1 : Nat) : Int) = 2 * (k : Int) + 1 by omega] at i2
    exact ⟨i1, i2⟩
  have key : ∀ m k, k + m = w → (∀ j, j < k → kGd K Q u j = true) → ∀ x5, rn (exF D) C_X10_knocksRefusal 53 [some (.ref 88), some (.int (iI u)), some (.int (iI w)), some (.int (iI (rrQ Q u))), some (.int (iI k)), x5] [] M = some (some (.int (iI (if alB (kGd K Q u) w = true then 0 else -6))), M) := by
    intro m
    induction m with
    | zero =>
      intro k hkn hp x5
      have e : alB (kGd K Q u) w = true := by
        have : ∀ j, j ≤ w → alB (kGd K Q u) j = true := by
          intro j
          induction j with
          | zero => intro _; rfl
          | succ j ih =>
            intro hj
            simp only [alB, ih (by omega), Bool.true_and]
            exact hp j (by omega)
        exact this w (Nat.le_refl _)
      rw [if_pos e]
      simp (maxSteps := 4000000) (disch := omega) only [s_X10_knocksRefusal_53, s_X10_knocksRefusal_55, s_X10_knocksRefusal_56, s_X10_knocksRefusal_119, s_X10_knocksRefusal_120, leT (show (w : Int) ≤ k by omega), iI_add, iI_sub, iI_mul, iI_neg, iI_lt, iI_le, iI_eq, iI_toInt, tn_n, tn_1, inb_I, Int.reduceEq, Int.reduceLT, Int.reduceLE, Int.reduceAdd, Int.reduceSub, Int.reduceMul, Int.reduceNeg, Int.reduceToNat, Nat.reduceAdd, Nat.reduceMul, Int.reduceNatCast, reduceCtorEq, Int.cast_ofNat_Int, bi_tr, bi_fa, bi_0, bi_1, not_true_eq_false, not_false_eq_true, rnk_v, rnk_n, ↓reduceIte, i00, i11, ibi, or_true, true_or, and_true, true_and, List.cons_append, List.nil_append, Option.toList, nop]
    | succ m ih =>
      intro k hkn hp x5
      obtain ⟨i1, i2⟩ := stp k (by omega)
      have j1 := qI_rng Q u (2 * k)
      have j2 := qI_rng Q u (2 * k + 1)
      by_cases c : kGd K Q u k = true
      · have c' := c
        simp only [kGd, decide_eq_true_eq] at c'
        have r := ih (k + 1) (by omega) (fun j hj => by
          by_cases e : j = k
          · subst e; exact c
          · exact hp j (by omega)) (some (.int (iI (qI Q u (2 * k + 1)))))
        rw [s_X10_knocksRefusal_53]
        simp (maxSteps := 4000000) (disch := omega) only [s_X10_knocksRefusal_55, s_X10_knocksRefusal_56, s_X10_knocksRefusal_59, s_X10_knocksRefusal_60, s_X10_knocksRefusal_63, s_X10_knocksRefusal_64, s_X10_knocksRefusal_65, s_X10_knocksRefusal_67, s_X10_knocksRefusal_68, s_X10_knocksRefusal_69, s_X10_knocksRefusal_70, s_X10_knocksRefusal_73, s_X10_knocksRefusal_75, s_X10_knocksRefusal_76, s_X10_knocksRefusal_79, s_X10_knocksRefusal_80, s_X10_knocksRefusal_83, s_X10_knocksRefusal_84, s_X10_knocksRefusal_85, s_X10_knocksRefusal_87, s_X10_knocksRefusal_88, s_X10_knocksRefusal_91, s_X10_knocksRefusal_94, s_X10_knocksRefusal_97, s_X10_knocksRefusal_99, s_X10_knocksRefusal_102, s_X10_knocksRefusal_104, s_X10_knocksRefusal_107, s_X10_knocksRefusal_110, s_X10_knocksRefusal_112, s_X10_knocksRefusal_113, s_X10_knocksRefusal_116, cls_88, fv_88_0, fv_88_1, fv_88_2, fv_88_3, fv_88_4, fv_88_5, fv_88_6, fv_88_7, fv_88_8, fv_88_9, fv_88_10, fv_88_11, fv_88_12, fv_88_13, fv_88_14, cls_30, cls_0, i1, i2, k_X4_hasDesk (show _ ≤ D by omega) h0 hR hI, bi_t c'.1, ltF c'.2.1, leT c'.2.2, leF (show (k : Int) < w by omega), iI_add, iI_sub, iI_mul, iI_neg, iI_lt, iI_le, iI_eq, iI_toInt, tn_n, tn_1, inb_I, Int.reduceEq, Int.reduceLT, Int.reduceLE, Int.reduceAdd, Int.reduceSub, Int.reduceMul, Int.reduceNeg, Int.reduceToNat, Nat.reduceAdd, Nat.reduceMul, Int.reduceNatCast, reduceCtorEq, Int.cast_ofNat_Int, bi_tr, bi_fa, bi_0, bi_1, not_true_eq_false, not_false_eq_true, rnk_v, rnk_n, ↓reduceIte, i00, i11, ibi, or_true, true_or, and_true, true_and, List.cons_append, List.nil_append, Option.toList, nop]
        exact r
      · have e : alB (kGd K Q u) w = false := alB_no (k := k) (by simpa using c) (by omega)
        rw [if_neg (by rw [e]; simp)]
        have c' : ¬ ((0 ≤ qI Q u (2 * k) ∧ qI Q u (2 * k) < (kD K : Int)) ∧ 0 ≤ qI Q u (2 * k + 1) ∧ qI Q u (2 * k + 1) ≤ 999) := by
          simpa only [kGd, decide_eq_true_eq] using c
        by_cases c1 : 0 ≤ qI Q u (2 * k) ∧ qI Q u (2 * k) < (kD K : Int)
        · by_cases c2 : qI Q u (2 * k + 1) < 0
          · simp (maxSteps := 4000000) (disch := omega) only [s_X10_knocksRefusal_53, s_X10_knocksRefusal_55, s_X10_knocksRefusal_56, s_X10_knocksRefusal_59, s_X10_knocksRefusal_60, s_X10_knocksRefusal_63, s_X10_knocksRefusal_64, s_X10_knocksRefusal_65, s_X10_knocksRefusal_67, s_X10_knocksRefusal_68, s_X10_knocksRefusal_69, s_X10_knocksRefusal_70, s_X10_knocksRefusal_73, s_X10_knocksRefusal_75, s_X10_knocksRefusal_76, s_X10_knocksRefusal_79, s_X10_knocksRefusal_80, s_X10_knocksRefusal_83, s_X10_knocksRefusal_84, s_X10_knocksRefusal_85, s_X10_knocksRefusal_87, s_X10_knocksRefusal_88, s_X10_knocksRefusal_91, s_X10_knocksRefusal_94, s_X10_knocksRefusal_97, s_X10_knocksRefusal_99, s_X10_knocksRefusal_102, s_X10_knocksRefusal_104, s_X10_knocksRefusal_107, s_X10_knocksRefusal_110, s_X10_knocksRefusal_112, cls_88, fv_88_0, fv_88_1, fv_88_2, fv_88_3, fv_88_4, fv_88_5, fv_88_6, fv_88_7, fv_88_8, fv_88_9, fv_88_10, fv_88_11, fv_88_12, fv_88_13, fv_88_14, cls_30, cls_0, i1, i2, k_X4_hasDesk (show _ ≤ D by omega) h0 hR hI, bi_t c1, ltT c2, leF (show (k : Int) < w by omega), iI_add, iI_sub, iI_mul, iI_neg, iI_lt, iI_le, iI_eq, iI_toInt, tn_n, tn_1, inb_I, Int.reduceEq, Int.reduceLT, Int.reduceLE, Int.reduceAdd, Int.reduceSub, Int.reduceMul, Int.reduceNeg, Int.reduceToNat, Nat.reduceAdd, Nat.reduceMul, Int.reduceNatCast, reduceCtorEq, Int.cast_ofNat_Int, bi_tr, bi_fa, bi_0, bi_1, not_true_eq_false, not_false_eq_true, rnk_v, rnk_n, ↓reduceIte, i00, i11, ibi, or_true, true_or, and_true, true_and, List.cons_append, List.nil_append, Option.toList, nop]
          · simp (maxSteps := 4000000) (disch := omega) only [s_X10_knocksRefusal_53, s_X10_knocksRefusal_55, s_X10_knocksRefusal_56, s_X10_knocksRefusal_59, s_X10_knocksRefusal_60, s_X10_knocksRefusal_63, s_X10_knocksRefusal_64, s_X10_knocksRefusal_65, s_X10_knocksRefusal_67, s_X10_knocksRefusal_68, s_X10_knocksRefusal_69, s_X10_knocksRefusal_70, s_X10_knocksRefusal_73, s_X10_knocksRefusal_75, s_X10_knocksRefusal_76, s_X10_knocksRefusal_79, s_X10_knocksRefusal_80, s_X10_knocksRefusal_83, s_X10_knocksRefusal_84, s_X10_knocksRefusal_85, s_X10_knocksRefusal_87, s_X10_knocksRefusal_88, s_X10_knocksRefusal_91, s_X10_knocksRefusal_94, s_X10_knocksRefusal_97, s_X10_knocksRefusal_99, s_X10_knocksRefusal_102, s_X10_knocksRefusal_104, s_X10_knocksRefusal_107, s_X10_knocksRefusal_110, s_X10_knocksRefusal_112, cls_88, fv_88_0, fv_88_1, fv_88_2, fv_88_3, fv_88_4, fv_88_5, fv_88_6, fv_88_7, fv_88_8, fv_88_9, fv_88_10, fv_88_11, fv_88_12, fv_88_13, fv_88_14, cls_30, cls_0, i1, i2, k_X4_hasDesk (show _ ≤ D by omega) h0 hR hI, bi_t c1, ltF (show 0 ≤ qI Q u (2 * k + 1) by omega), leF (show 999 < qI Q u (2 * k + 1) by omega), leF (show (k : Int) < w by omega), iI_add, iI_sub, iI_mul, iI_neg, iI_lt, iI_le, iI_eq, iI_toInt, tn_n, tn_1, inb_I, Int.reduceEq, Int.reduceLT, Int.reduceLE, Int.reduceAdd, Int.reduceSub, Int.reduceMul, Int.reduceNeg, Int.reduceToNat, Nat.reduceAdd, Nat.reduceMul, Int.reduceNatCast, reduceCtorEq, Int.cast_ofNat_Int, bi_tr, bi_fa, bi_0, bi_1, not_true_eq_false, not_false_eq_true, rnk_v, rnk_n, ↓reduceIte, i00, i11, ibi, or_true, true_or, and_true, true_and, List.cons_append, List.nil_append, Option.toList, nop]
        · simp (maxSteps := 4000000) (disch := omega) only [s_X10_knocksRefusal_53, s_X10_knocksRefusal_55, s_X10_knocksRefusal_56, s_X10_knocksRefusal_59, s_X10_knocksRefusal_60, s_X10_knocksRefusal_63, s_X10_knocksRefusal_64, s_X10_knocksRefusal_65, s_X10_knocksRefusal_67, s_X10_knocksRefusal_68, s_X10_knocksRefusal_69, s_X10_knocksRefusal_70, s_X10_knocksRefusal_73, s_X10_knocksRefusal_75, s_X10_knocksRefusal_76, s_X10_knocksRefusal_79, s_X10_knocksRefusal_80, s_X10_knocksRefusal_83, s_X10_knocksRefusal_84, s_X10_knocksRefusal_85, s_X10_knocksRefusal_87, s_X10_knocksRefusal_88, s_X10_knocksRefusal_91, s_X10_knocksRefusal_94, s_X10_knocksRefusal_97, s_X10_knocksRefusal_99, s_X10_knocksRefusal_102, s_X10_knocksRefusal_104, s_X10_knocksRefusal_107, s_X10_knocksRefusal_110, s_X10_knocksRefusal_112, cls_88, fv_88_0, fv_88_1, fv_88_2, fv_88_3, fv_88_4, fv_88_5, fv_88_6, fv_88_7, fv_88_8, fv_88_9, fv_88_10, fv_88_11, fv_88_12, fv_88_13, fv_88_14, cls_30, cls_0, i1, i2, k_X4_hasDesk (show _ ≤ D by omega) h0 hR hI, bi_f c1, leF (show (k : Int) < w by omega), iI_add, iI_sub, iI_mul, iI_neg, iI_lt, iI_le, iI_eq, iI_toInt, tn_n, tn_1, inb_I, Int.reduceEq, Int.reduceLT, Int.reduceLE, Int.reduceAdd, Int.reduceSub, Int.reduceMul, Int.reduceNeg, Int.reduceToNat, Nat.reduceAdd, Nat.reduceMul, Int.reduceNatCast, reduceCtorEq, Int.cast_ofNat_Int, bi_tr, bi_fa, bi_0, bi_1, not_true_eq_false, not_false_eq_true, rnk_v, rnk_n, ↓reduceIte, i00, i11, ibi, or_true, true_or, and_true, true_and, List.cons_append, List.nil_append, Option.toList, nop]
  have fin := key w 0 (by omega) (fun j hj => absurd hj (by omega)) none
  rw [show iI ((0 : Nat) : Int) = iI 0 from rfl] at fin
  rw [fin]
  by_cases c : alB (kGd K Q u) w = true
  · rw [if_pos c, if_neg (fun q => q ⟨e4, c⟩)]
  · rw [if_neg c, if_pos (fun q => c q.2)]
theorem kOK_of {K : tK} {Q : tQ} {u w : Nat} (h : ¬ knQ K Q u w < 0) : kOK K Q u w := by
  obtain ⟨h1, h2, h3, h4⟩ := knQ_0 h
  simp only [Int.toNat_natCast] at *
  refine ⟨⟨by omega, by omega, by omega, by rw [qZ_of h1.2]; omega⟩, fun k hk => ?_⟩
  have := alB_all h4 k hk
  simpa only [kGd, decide_eq_true_eq] using this
def p_stuck (S : tS) (s n : Int) : Int × tS := if knQ (stK S) (stQ S) s n < 0 then rz S (knQ (stK S) (stQ S) s n) else ((fitN (stK S) (stQ S) s.toNat n.toNat : Int), S)
theorem c_stuck {D : Nat} (hD : 7 ≤ D) {M : tM} {S : tS} (hC : RelC S M) (hI : sInv S) {s n : Int} (gs : -2147483648 ≤ s ∧ s ≤ 2147483647) (gn : -2147483648 ≤ n ∧ n ≤ 2147483647) : okC D m_X10_stuck [.ref 88, .int (iI s), .int (iI n)] M (p_stuck S s n) := by
  obtain ⟨D, rfl⟩ : ∃ D0, D = D0 + 1 := ⟨D - 1, by omega⟩
  obtain ⟨c1, c2, c3, c4, c5, c6, c7, c8, c9⟩ := id hC; obtain ⟨i1, i2, i3, i4, i5, i6, i7⟩ := id hI; have n0 := kI_n i1; obtain ⟨r1, r2, r3, r4, r5, r6⟩ := R0_n c1
  have k0 := k_X10_knocksRefusal (D := D) (by omega) c1 i1 c3 i3 gs gn
  have k1 := knQ_rng (stK S) (stQ S) s n
  unfold p_stuck
  by_cases e1 : knQ (stK S) (stQ S) s n < 0
  · rw [if_pos e1]
    exact okC_rf hC (by omega) (by omega) (by simp (maxSteps := 4000000) (disch := omega) only [k0, leF (show knQ (stK S) (stQ S) s n < 0 by omega), en_X10_stuck, s_X10_stuck_0, s_X10_stuck_1, s_X10_stuck_2, s_X10_stuck_3, s_X10_stuck_6, s_X10_stuck_7, s_X10_stuck_8, s_X10_stuck_11, s_X10_stuck_12, s_X10_stuck_13, s_X10_stuck_16, s_X10_stuck_17, s_X10_stuck_18, s_X10_stuck_21, s_X10_stuck_22, s_X10_stuck_25, s_X10_stuck_26, s_X10_stuck_27, s_X10_stuck_30, s_X10_stuck_31, s_X10_stuck_34, s_X10_stuck_35, s_X10_stuck_38, s_X10_stuck_39, s_X10_stuck_42, s_X10_stuck_45, s_X10_stuck_46, s_X10_stuck_49, s_X10_stuck_50, s_X10_stuck_53, s_X10_stuck_56, cls_88, fv_88_0, fv_88_1, fv_88_2, fv_88_3, fv_88_4, fv_88_5, fv_88_6, fv_88_7, fv_88_8, fv_88_9, fv_88_10, fv_88_11, fv_88_12, fv_88_13, fv_88_14, k_X10_refuse (show _ ≤ D by omega), iI_add, iI_sub, iI_mul, iI_neg, iI_lt, iI_le, iI_eq, iI_toInt, tn_n, tn_1, inb_I, Int.reduceEq, Int.reduceLT, Int.reduceLE, Int.reduceAdd, Int.reduceSub, Int.reduceMul, Int.reduceNeg, Int.reduceToNat, Nat.reduceAdd, Nat.reduceMul, Int.reduceNatCast, reduceCtorEq, Int.cast_ofNat_Int, bi_tr, bi_fa, bi_0, bi_1, not_true_eq_false, not_false_eq_true, rnk_v, rnk_n, ↓reduceIte, i00, i11, ibi, or_true, true_or, and_true, true_and, List.cons_append, List.nil_append, Option.toList, nop])
  rw [if_neg e1]
  obtain ⟨e3, e4, e5, e6⟩ := knQ_0 e1
  obtain ⟨u, rfl⟩ : ∃ u : Nat, s = u := ⟨s.toNat, by omega⟩
  obtain ⟨w, rfl⟩ : ∃ u : Nat, n = u := ⟨n.toNat, by omega⟩
  have hk := kOK_of e1
  simp only [Int.toNat_natCast]
  obtain ⟨M0, f1, f2, f3⟩ := k_X3_read (D := D) (by omega) c3 i3 hk
  have w0 : Rep M0 0 (stK S) := Rep_o h0 c1 f3 (by simp)
  obtain ⟨M1, a1, a2, a3⟩ := k_X3_hear (D := D) (by omega) w0 i1
  have w1 : Rep M1 0 (stK S) := Rep_o h0 w0 a3 (by simp)
  have w2 : RepKn M1 (stQ S) u w := RepKn_Sm f2 a3 (by simp)
  have b1 := k_X3_fittingTubes (D := D) (by omega) w1 i1 a2 w2 hk
  exact okC_scr hC (l := [62, 107, 108, 43, 44, 45, 46, 49, 50, 51, 52, 53, 54, 55, 56, 64, 65, 66, 67, 68, 69, 70, 71, 72, 73, 74, 75, 76, 77, 78, 79]) (by simp (maxSteps := 4000000) (disch := omega) only [k0, leT (show 0 ≤ knQ (stK S) (stQ S) u w by omega), f1, a1, b1, en_X10_stuck, s_X10_stuck_0, s_X10_stuck_1, s_X10_stuck_2, s_X10_stuck_3, s_X10_stuck_6, s_X10_stuck_7, s_X10_stuck_8, s_X10_stuck_11, s_X10_stuck_12, s_X10_stuck_13, s_X10_stuck_16, s_X10_stuck_17, s_X10_stuck_18, s_X10_stuck_21, s_X10_stuck_22, s_X10_stuck_25, s_X10_stuck_26, s_X10_stuck_27, s_X10_stuck_30, s_X10_stuck_31, s_X10_stuck_34, s_X10_stuck_35, s_X10_stuck_38, s_X10_stuck_39, s_X10_stuck_42, s_X10_stuck_45, s_X10_stuck_46, s_X10_stuck_49, s_X10_stuck_50, s_X10_stuck_53, s_X10_stuck_56, cls_88, fv_88_0, fv_88_1, fv_88_2, fv_88_3, fv_88_4, fv_88_5, fv_88_6, fv_88_7, fv_88_8, fv_88_9, fv_88_10, fv_88_11, fv_88_12, fv_88_13, fv_88_14, cls_62, iI_add, iI_sub, iI_mul, iI_neg, iI_lt, iI_le, iI_eq, iI_toInt, tn_n, tn_1, inb_I, Int.reduceEq, Int.reduceLT, Int.reduceLE, Int.reduceAdd, Int.reduceSub, Int.reduceMul, Int.reduceNeg, Int.reduceToNat, Nat.reduceAdd, Nat.reduceMul, Int.reduceNatCast, reduceCtorEq, Int.cast_ofNat_Int, bi_tr, bi_fa, bi_0, bi_1, not_true_eq_false, not_false_eq_true, rnk_v, rnk_n, ↓reduceIte, i00, i11, ibi, or_true, true_or, and_true, true_and, List.cons_append, List.nil_append, Option.toList, nop]) (Sm_tr (Sm_mono (by simp) f3) (Sm_mono (by simp) a3)) (by simp)
def p_listen (S : tS) (s n : Int) : Int × tS := if knQ (stK S) (stQ S) s n < 0 then rz10 S (knQ (stK S) (stQ S) s n) else (lsZ (stK S) (stQ S) s.toNat n.toNat, S)
theorem c_listen {D : Nat} (hD : 7 ≤ D) {M : tM} {S : tS} (hC : RelC S M) (hI : sInv S) {s n : Int} (gs : -2147483648 ≤ s ∧ s ≤ 2147483647) (gn : -2147483648 ≤ n ∧ n ≤ 2147483647) : okC D m_X10_listen [.ref 88, .int (iI s), .int (iI n)] M (p_listen S s n) := by
  obtain ⟨D, rfl⟩ : ∃ D0, D = D0 + 1 := ⟨D - 1, by omega⟩
  obtain ⟨c1, c2, c3, c4, c5, c6, c7, c8, c9⟩ := id hC; obtain ⟨i1, i2, i3, i4, i5, i6, i7⟩ := id hI; have n0 := kI_n i1; obtain ⟨r1, r2, r3, r4, r5, r6⟩ := R0_n c1
  have k0 := k_X10_knocksRefusal (D := D) (by omega) c1 i1 c3 i3 gs gn
  have k1 := knQ_rng (stK S) (stQ S) s n
  unfold p_listen
  by_cases e1 : knQ (stK S) (stQ S) s n < 0
  · rw [if_pos e1]
    exact okC_rf10d hC (by omega) (by omega) (by simp (maxSteps := 4000000) (disch := omega) only [k0, leF (show knQ (stK S) (stQ S) s n < 0 by omega), en_X10_listen, s_X10_listen_0, s_X10_listen_1, s_X10_listen_2, s_X10_listen_3, s_X10_listen_6, s_X10_listen_7, s_X10_listen_8, s_X10_listen_11, s_X10_listen_12, s_X10_listen_14, s_X10_listen_15, s_X10_listen_16, s_X10_listen_19, s_X10_listen_20, s_X10_listen_21, s_X10_listen_24, s_X10_listen_25, s_X10_listen_28, s_X10_listen_29, s_X10_listen_30, s_X10_listen_33, s_X10_listen_34, s_X10_listen_37, s_X10_listen_38, s_X10_listen_41, s_X10_listen_42, s_X10_listen_45, s_X10_listen_48, s_X10_listen_49, s_X10_listen_52, s_X10_listen_53, s_X10_listen_56, s_X10_listen_59, cls_88, fv_88_0, fv_88_1, fv_88_2, fv_88_3, fv_88_4, fv_88_5, fv_88_6, fv_88_7, fv_88_8, fv_88_9, fv_88_10, fv_88_11, fv_88_12, fv_88_13, fv_88_14, k_X10_refuse10 (show _ ≤ D by omega), iI_add, iI_sub, iI_mul, iI_neg, iI_lt, iI_le, iI_eq, iI_toInt, tn_n, tn_1, inb_I, Int.reduceEq, Int.reduceLT, Int.reduceLE, Int.reduceAdd, Int.reduceSub, Int.reduceMul, Int.reduceNeg, Int.reduceToNat, Nat.reduceAdd, Nat.reduceMul, Int.reduceNatCast, reduceCtorEq, Int.cast_ofNat_Int, bi_tr, bi_fa, bi_0, bi_1, not_true_eq_false, not_false_eq_true, rnk_v, rnk_n, ↓reduceIte, i00, i11, ibi, or_true, true_or, and_true, true_and, List.cons_append, List.nil_append, Option.toList, nop])
  rw [if_neg e1]
  obtain ⟨e3, e4, e5, e6⟩ := knQ_0 e1
  obtain ⟨u, rfl⟩ : ∃ u : Nat, s = u := ⟨s.toNat, by omega⟩
  obtain ⟨w, rfl⟩ : ∃ u : Nat, n = u := ⟨n.toNat, by omega⟩
  have hk := kOK_of e1
  simp only [Int.toNat_natCast]
  obtain ⟨M0, f1, f2, f3⟩ := k_X3_read (D := D) (by omega) c3 i3 hk
  have w0 : Rep M0 0 (stK S) := Rep_o h0 c1 f3 (by simp)
  obtain ⟨M1, a1, a2, a3⟩ := k_X3_hear (D := D) (by omega) w0 i1
  have w1 : Rep M1 0 (stK S) := Rep_o h0 w0 a3 (by simp)
  have w2 : RepKn M1 (stQ S) u w := RepKn_Sm f2 a3 (by simp)
  have b1 := k_X3_nextDesk (D := D) (by omega) w1 i1 a2 w2 hk
  exact okC_scr hC (l := [62, 107, 108, 43, 44, 45, 46, 49, 50, 51, 52, 53, 54, 55, 56, 64, 65, 66, 67, 68, 69, 70, 71, 72, 73, 74, 75, 76, 77, 78, 79]) (by simp (maxSteps := 4000000) (disch := omega) only [k0, leT (show 0 ≤ knQ (stK S) (stQ S) u w by omega), f1, a1, b1, en_X10_listen, s_X10_listen_0, s_X10_listen_1, s_X10_listen_2, s_X10_listen_3, s_X10_listen_6, s_X10_listen_7, s_X10_listen_8, s_X10_listen_11, s_X10_listen_12, s_X10_listen_14, s_X10_listen_15, s_X10_listen_16, s_X10_listen_19, s_X10_listen_20, s_X10_listen_21, s_X10_listen_24, s_X10_listen_25, s_X10_listen_28, s_X10_listen_29, s_X10_listen_30, s_X10_listen_33, s_X10_listen_34, s_X10_listen_37, s_X10_listen_38, s_X10_listen_41, s_X10_listen_42, s_X10_listen_45, s_X10_listen_48, s_X10_listen_49, s_X10_listen_52, s_X10_listen_53, s_X10_listen_56, s_X10_listen_59, cls_88, fv_88_0, fv_88_1, fv_88_2, fv_88_3, fv_88_4, fv_88_5, fv_88_6, fv_88_7, fv_88_8, fv_88_9, fv_88_10, fv_88_11, fv_88_12, fv_88_13, fv_88_14, cls_62, iI_add, iI_sub, iI_mul, iI_neg, iI_lt, iI_le, iI_eq, iI_toInt, tn_n, tn_1, inb_I, Int.reduceEq, Int.reduceLT, Int.reduceLE, Int.reduceAdd, Int.reduceSub, Int.reduceMul, Int.reduceNeg, Int.reduceToNat, Nat.reduceAdd, Nat.reduceMul, Int.reduceNatCast, reduceCtorEq, Int.cast_ofNat_Int, bi_tr, bi_fa, bi_0, bi_1, not_true_eq_false, not_false_eq_true, rnk_v, rnk_n, ↓reduceIte, i00, i11, ibi, or_true, true_or, and_true, true_and, List.cons_append, List.nil_append, Option.toList, nop]) (Sm_tr (Sm_mono (by simp) f3) (Sm_mono (by simp) a3)) (by simp)
