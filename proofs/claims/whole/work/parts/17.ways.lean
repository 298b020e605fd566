/-! WAYS of the class: the graph of a capsule, least minutes by relaxing -/
def RepG (M : tM) (K : tK) (G : tG) : Prop := ∀ t, t < kT K → M.1 43 t = iI (G.1 t) ∧ M.1 44 t = bi (G.2.1 t = true) ∧ M.1 45 t = bi (G.2.2 t = true)
def gK (K : tK) (c : Nat) (p : Int) : tG := (fun t => (tmK K c t p).toNat, fun t => mayK K c t false, fun t => mayK K c t true)
def gU (G : tG) : tG := (fun _ => 1, G.2.1, G.2.2)
def gS (K : tK) : tG := (kL K, fun t => !(kH K t == 1), fun t => !(kH K t == 1))
theorem gK_I {K : tK} (hI : kInv K) {c : Nat} (hc : c < kC K) {p : Int} (h1 : 1 ≤ p) (h2 : p ≤ 9) : gI K (gK K c p) := by
  intro t ht
  have := tmK_rng hI hc ht h1 h2
  simp only [gK]
  omega
theorem gK_tm {K : tK} (hI : kInv K) {c t : Nat} (hc : c < kC K) (ht : t < kT K) {p : Int} (h1 : 1 ≤ p) (h2 : p ≤ 9) : (((gK K c p).1 t : Nat) : Int) = tmK K c t p := by
  have := tmK_rng hI hc ht h1 h2
  simp only [gK]
  omega
theorem gU_I (K : tK) (G : tG) : gI K (gU G) := fun t _ => ⟨Nat.le_refl 1, by show 1 ≤ 90; omega⟩
theorem gS_I {K : tK} (hI : kInv K) : gI K (gS K) := by
  intro t ht
  have := kI_t hI ht
  simp only [gS]
  omega
theorem Rep_o {M M' : tM} {b : Nat} {K : tK} (hb : isMin b) (hR : Rep M b K) {l : List Nat} (hs : Sm l M M') (hl : ∀ a ∈ l, 30 ≤ a) : Rep M' b K := by
  refine Rep_Sm hR hs fun a ha => ?_
  have := hl a ha
  have hm : b = 0 ∨ b = 10 ∨ b = 20 := hb
  omega
theorem RepG_Sm {M M' : tM} {K : tK} {G : tG} (h : RepG M K G) {l : List Nat} (hs : Sm l M M') (h1 : 43 ∉ l) (h2 : 44 ∉ l) (h3 : 45 ∉ l) : RepG M' K G := by
  intro t ht
  rw [(hs 43 h1).1, (hs 44 h2).1, (hs 45 h3).1]
  exact h t ht
theorem RepG_put {N : tM} {K : tK} {G : tG} {i : Nat} (h : ∀ t, t < i → N.1 43 t = iI (G.1 t) ∧ N.1 44 t = bi (G.2.1 t = true) ∧ N.1 45 t = bi (G.2.2 t = true)) : ∀ t, t < i + 1 → (sI (sI (sI N 43 i (iI (G.1 i))) 44 i (bi (G.2.1 i = true))) 45 i (bi (G.2.2 i = true))).1 43 t = iI (G.1 t) ∧ (sI (sI (sI N 43 i (iI (G.1 i))) 44 i (bi (G.2.1 i = true))) 45 i (bi (G.2.2 i = true))).1 44 t = bi (G.2.1 t = true) ∧ (sI (sI (sI N 43 i (iI (G.1 i))) 44 i (bi (G.2.1 i = true))) 45 i (bi (G.2.2 i = true))).1 45 t = bi (G.2.2 t = true) := by
  intro t ht
  by_cases e : t = i
  · subst e
    simp (disch := omega) only [sI_s, sI_k, sI_a, sI_2, rI_s, rI_a, rI_2, sJ_1]
    exact ⟨trivial, trivial, trivial⟩
  · simp (disch := omega) only [sI_s, sI_k, sI_a, sI_2, rI_s, rI_a, rI_2, sJ_1]
    exact h t (by omega)
theorem k_X9_prepareFor {D : Nat} (hD : 4 ≤ D) {M : tM} {b : Nat} {K : tK} (hb : isMin b) (hR : Rep M b K) (hI : kInv K) {c : Nat} (hc : c < kC K) (p : Int) (h1 : 1 ≤ p) (h2 : p ≤ 9) : ∃ M', exF D m_X9_prepareFor [.ref 42, .ref b, .int (iI c), .int (iI p)] M = some (none, M') ∧ RepG M' K (gK K c p) ∧ Sm [43, 44, 45] M M' := by
  obtain ⟨D, rfl⟩ : ∃ D0, D = D0 + 1 := ⟨D - 1, by omega⟩
  have g0 := kI_n hI
  obtain ⟨M', e, h3, h4⟩ := lp (f := fun i (N : tM) => rn (exF D) C_X9_prepareFor 3 [some (.ref 42), some (.ref b), some (.int (iI c)), some (.int (iI p)), some (.int (iI i))] [] N) (P := fun i N => Sm [43, 44, 45] M N ∧ ∀ t, t < i → N.1 43 t = iI ((gK K c p).1 t) ∧ N.1 44 t = bi ((gK K c p).2.1 t = true) ∧ N.1 45 t = bi ((gK K c p).2.2 t = true)) (n := kT K) (by
    rintro i N hi ⟨p1, p2⟩
    have r1 : Rep N b K := Rep_o hb hR p1 (by simp)
    have r2 : Rep (sI N 43 i (iI ((gK K c p).1 i))) b K := Rep_o hb r1 (Sm_sI (l := [43]) (by simp)) (by simp)
    have r3 : Rep (sI (sI N 43 i (iI ((gK K c p).1 i))) 44 i (bi ((gK K c p).2.1 i = true))) b K := Rep_o hb r2 (Sm_sI (l := [44]) (by simp)) (by simp)
    have g2 := r1.1.2.1
    refine ⟨sI (sI (sI N 43 i (iI ((gK K c p).1 i))) 44 i (bi ((gK K c p).2.1 i = true))) 45 i (bi ((gK K c p).2.2 i = true)), ?_, Sm_tr p1 (Sm_tr (Sm_tr (Sm_sI (by simp)) (Sm_sI (by simp))) (Sm_sI (by simp))), RepG_put (K := K) p2⟩
    have m1 := k_X4_minutesThrough (show _ ≤ D by omega) hb r1 hI hc hi p h1 h2
    rw [← gK_tm hI hc hi h1 h2] at m1
    have m2 := k_X4_mayGo (show _ ≤ D by omega) hb r2 hI hc hi 1 false rfl
    rw [show mayK K c i false = (gK K c p).2.1 i from rfl] at m2
    have m3 := k_X4_mayGo (show _ ≤ D by omega) hb r3 hI hc hi 0 true rfl
    rw [show mayK K c i true = (gK K c p).2.2 i from rfl] at m3
    intro X hX
    show rn _ _ _ _ _ _ = X
    rw [s_X9_prepareFor_3]
    simp (maxSteps := 4000000) (disch := omega) only [s_X9_prepareFor_0, s_X9_prepareFor_1, s_X9_prepareFor_5, s_X9_prepareFor_6, s_X9_prepareFor_9, s_X9_prepareFor_12, s_X9_prepareFor_14, s_X9_prepareFor_16, s_X9_prepareFor_19, s_X9_prepareFor_20, s_X9_prepareFor_23, s_X9_prepareFor_25, s_X9_prepareFor_26, s_X9_prepareFor_27, s_X9_prepareFor_29, s_X9_prepareFor_30, s_X9_prepareFor_33, s_X9_prepareFor_34, s_X9_prepareFor_35, s_X9_prepareFor_38, s_X9_prepareFor_40, s_X9_prepareFor_41, s_X9_prepareFor_42, s_X9_prepareFor_44, s_X9_prepareFor_45, s_X9_prepareFor_48, s_X9_prepareFor_49, s_X9_prepareFor_50, s_X9_prepareFor_53, s_X9_prepareFor_55, s_X9_prepareFor_56, s_X9_prepareFor_57, s_X9_prepareFor_59, s_X9_prepareFor_60, s_X9_prepareFor_63, s_X9_prepareFor_64, s_X9_prepareFor_67, s_X9_prepareFor_70, mn_cls hb, mn_fv0 hb, mn_fv1 hb, mn_fv2 hb, mn_fv3 hb, mn_fv4 hb, mn_fv5 hb, mn_fv6 hb, mn_fv7 hb, mn_fv8 hb, mn_fv9 hb, mn_fv10 hb, mn_fv11 hb, mn_fv12 hb, mn_fv13 hb, mn_fv14 hb, mn_fv15 hb, mn_ak1 hb, mn_al1 hb, mn_ak2 hb, mn_al2 hb, mn_ak3 hb, mn_al3 hb, mn_ak4 hb, mn_al4 hb, mn_ak5 hb, mn_al5 hb, mn_ak6 hb, mn_al6 hb, mn_ak7 hb, mn_al7 hb, mn_ak8 hb, mn_al8 hb, mn_ak9 hb, mn_al9 hb, cls_42, fv_42_0, fv_42_1, fv_42_2, fv_42_3, fv_42_4, fv_42_5, ak_43, al_43, ak_44, al_44, ak_45, al_45, ak_46, al_46, ak_47, al_47, ak_48, al_48, rf_48, ak_49, al_49, ak_50, al_50, ak_51, al_51, ak_52, al_52, ak_53, al_53, ak_54, al_54, ak_55, al_55, ak_56, al_56, tn_add, tn_mul, g2, m1, m2, m3, ltT, ltF, leT, leF, eqT, eqF, and_self, iI_add, iI_sub, iI_mul, iI_neg, iI_lt, iI_le, iI_eq, iI_toInt, tn_n, tn_1, inb_I, Int.reduceEq, Int.reduceLT, Int.reduceLE, Int.reduceAdd, Int.reduceSub, Int.reduceMul, Int.reduceNeg, Int.reduceToNat, Nat.reduceAdd, Nat.reduceMul, Int.reduceNatCast, reduceCtorEq, Int.cast_ofNat_Int, bi_tr, bi_fa, bi_0, bi_1, not_true_eq_false, not_false_eq_true, rnk_v, rnk_n, ↓reduceIte, i00, i11, ibi, or_true, true_or, and_true, true_and, List.cons_append, List.nil_append, Option.toList, nop]
    exact hX) (Nat.zero_le _) (a := M) ⟨Sm_rf _ _, fun t ht => absurd ht (by omega)⟩
  refine ⟨M', ?_, h4, h3⟩
  simp (maxSteps := 4000000) (disch := omega) only [en_X9_prepareFor, s_X9_prepareFor_0, s_X9_prepareFor_1, Int.reduceEq, Int.reduceLT, Int.reduceLE, Int.reduceAdd, Int.reduceSub, Int.reduceMul, Int.reduceNeg, Int.reduceToNat, Nat.reduceAdd, Nat.reduceMul, Int.reduceNatCast, reduceCtorEq, Int.cast_ofNat_Int, bi_tr, bi_fa, bi_0, bi_1, not_true_eq_false, not_false_eq_true, rnk_v, rnk_n, ↓reduceIte, i00, i11, ibi, or_true, true_or, and_true, true_and, List.cons_append, List.nil_append, Option.toList, nop]
  refine e.trans ?_
  have g2 := (Rep_o hb hR h3 (by simp)).1.2.1
  simp (maxSteps := 4000000) (disch := omega) only [s_X9_prepareFor_0, s_X9_prepareFor_1, s_X9_prepareFor_3, s_X9_prepareFor_5, s_X9_prepareFor_6, s_X9_prepareFor_9, s_X9_prepareFor_12, s_X9_prepareFor_14, s_X9_prepareFor_16, s_X9_prepareFor_19, s_X9_prepareFor_20, s_X9_prepareFor_23, s_X9_prepareFor_25, s_X9_prepareFor_26, s_X9_prepareFor_27, s_X9_prepareFor_29, s_X9_prepareFor_30, s_X9_prepareFor_33, s_X9_prepareFor_34, s_X9_prepareFor_35, s_X9_prepareFor_38, s_X9_prepareFor_40, s_X9_prepareFor_41, s_X9_prepareFor_42, s_X9_prepareFor_44, s_X9_prepareFor_45, s_X9_prepareFor_48, s_X9_prepareFor_49, s_X9_prepareFor_50, s_X9_prepareFor_53, s_X9_prepareFor_55, s_X9_prepareFor_56, s_X9_prepareFor_57, s_X9_prepareFor_59, s_X9_prepareFor_60, s_X9_prepareFor_63, s_X9_prepareFor_64, s_X9_prepareFor_67, s_X9_prepareFor_70, mn_cls hb, mn_fv0 hb, mn_fv1 hb, mn_fv2 hb, mn_fv3 hb, mn_fv4 hb, mn_fv5 hb, mn_fv6 hb, mn_fv7 hb, mn_fv8 hb, mn_fv9 hb, mn_fv10 hb, mn_fv11 hb, mn_fv12 hb, mn_fv13 hb, mn_fv14 hb, mn_fv15 hb, mn_ak1 hb, mn_al1 hb, mn_ak2 hb, mn_al2 hb, mn_ak3 hb, mn_al3 hb, mn_ak4 hb, mn_al4 hb, mn_ak5 hb, mn_al5 hb, mn_ak6 hb, mn_al6 hb, mn_ak7 hb, mn_al7 hb, mn_ak8 hb, mn_al8 hb, mn_ak9 hb, mn_al9 hb, g2, leT, iI_add, iI_sub, iI_mul, iI_neg, iI_lt, iI_le, iI_eq, iI_toInt, tn_n, tn_1, inb_I, Int.reduceEq, Int.reduceLT, Int.reduceLE, Int.reduceAdd, Int.reduceSub, Int.reduceMul, Int.reduceNeg, Int.reduceToNat, Nat.reduceAdd, Nat.reduceMul, Int.reduceNatCast, reduceCtorEq, Int.cast_ofNat_Int, bi_tr, bi_fa, bi_0, bi_1, not_true_eq_false, not_false_eq_true, rnk_v, rnk_n, ↓reduceIte, i00, i11, ibi, or_true, true_or, and_true, true_and, List.cons_append, List.nil_append, Option.toList, nop]
theorem k_X9_prepareForKnocks {D : Nat} (hD : 3 ≤ D) {M : tM} {b : Nat} {K : tK} (hb : isMin b) (hR : Rep M b K) (hI : kInv K) : ∃ M', exF D m_X9_prepareForKnocks [.ref 42, .ref b] M = some (none, M') ∧ RepG M' K (gS K) ∧ Sm [43, 44, 45] M M' := by
  obtain ⟨D, rfl⟩ : ∃ D0, D = D0 + 1 := ⟨D - 1, by omega⟩
  have g0 := kI_n hI
  obtain ⟨M', e, h3, h4⟩ := lp (f := fun i (N : tM) => rn (exF D) C_X9_prepareForKnocks 2 [some (.ref 42), some (.ref b), some (.int (iI i))] [] N) (P := fun i N => Sm [43, 44, 45] M N ∧ ∀ t, t < i → N.1 43 t = iI ((gS K).1 t) ∧ N.1 44 t = bi ((gS K).2.1 t = true) ∧ N.1 45 t = bi ((gS K).2.2 t = true)) (n := kT K) (by
    rintro i N hi ⟨p1, p2⟩
    have r1 : Rep N b K := Rep_o hb hR p1 (by simp)
    have r2 : Rep (sI N 43 i (iI ((gS K).1 i))) b K := Rep_o hb r1 (Sm_sI (l := [43]) (by simp)) (by simp)
    have r3 : Rep (sI (sI N 43 i (iI ((gS K).1 i))) 44 i (bi ((gS K).2.1 i = true))) b K := Rep_o hb r2 (Sm_sI (l := [44]) (by simp)) (by simp)
    have g2 := r1.1.2.1
    have g3 : N.1 (b + 4) i = iI ((gS K).1 i) := (r1.2.2.1 i hi).2.2.1
    refine ⟨sI (sI (sI N 43 i (iI ((gS K).1 i))) 44 i (bi ((gS K).2.1 i = true))) 45 i (bi ((gS K).2.2 i = true)), ?_, Sm_tr p1 (Sm_tr (Sm_tr (Sm_sI (by simp)) (Sm_sI (by simp))) (Sm_sI (by simp))), RepG_put (K := K) p2⟩
    have m2 := k_X4_isShut (show _ ≤ D by omega) hb r2 hI hi
    have m3 := k_X4_isShut (show _ ≤ D by omega) hb r3 hI hi
    intro X hX
    show rn _ _ _ _ _ _ = X
    rw [s_X9_prepareForKnocks_2]
    by_cases q : kH K i = 1
    · have e1 : bi ((gS K).2.1 i = true) = iI 0 := bi_f (by simp [gS, q])
      have e2 : bi ((gS K).2.2 i = true) = iI 0 := bi_f (by simp [gS, q])
      rw [e1] at m3
      rw [bi_t q] at m2 m3
      simp only [e1, e2] at hX
      simp (maxSteps := 4000000) (disch := omega) only [s_X9_prepareForKnocks_0, s_X9_prepareForKnocks_1, s_X9_prepareForKnocks_3, s_X9_prepareForKnocks_4, s_X9_prepareForKnocks_7, s_X9_prepareForKnocks_10, s_X9_prepareForKnocks_11, s_X9_prepareForKnocks_13, s_X9_prepareForKnocks_16, s_X9_prepareForKnocks_17, s_X9_prepareForKnocks_20, s_X9_prepareForKnocks_21, s_X9_prepareForKnocks_22, s_X9_prepareForKnocks_25, s_X9_prepareForKnocks_26, s_X9_prepareForKnocks_27, s_X9_prepareForKnocks_28, s_X9_prepareForKnocks_29, s_X9_prepareForKnocks_32, s_X9_prepareForKnocks_33, s_X9_prepareForKnocks_34, s_X9_prepareForKnocks_35, s_X9_prepareForKnocks_38, s_X9_prepareForKnocks_41, s_X9_prepareForKnocks_42, s_X9_prepareForKnocks_45, s_X9_prepareForKnocks_46, s_X9_prepareForKnocks_47, s_X9_prepareForKnocks_48, s_X9_prepareForKnocks_51, s_X9_prepareForKnocks_52, s_X9_prepareForKnocks_53, s_X9_prepareForKnocks_54, s_X9_prepareForKnocks_57, s_X9_prepareForKnocks_60, s_X9_prepareForKnocks_61, s_X9_prepareForKnocks_64, s_X9_prepareForKnocks_65, s_X9_prepareForKnocks_66, s_X9_prepareForKnocks_69, s_X9_prepareForKnocks_72, mn_cls hb, mn_fv0 hb, mn_fv1 hb, mn_fv2 hb, mn_fv3 hb, mn_fv4 hb, mn_fv5 hb, mn_fv6 hb, mn_fv7 hb, mn_fv8 hb, mn_fv9 hb, mn_fv10 hb, mn_fv11 hb, mn_fv12 hb, mn_fv13 hb, mn_fv14 hb, mn_fv15 hb, mn_ak1 hb, mn_al1 hb, mn_ak2 hb, mn_al2 hb, mn_ak3 hb, mn_al3 hb, mn_ak4 hb, mn_al4 hb, mn_ak5 hb, mn_al5 hb, mn_ak6 hb, mn_al6 hb, mn_ak7 hb, mn_al7 hb, mn_ak8 hb, mn_al8 hb, mn_ak9 hb, mn_al9 hb, cls_42, fv_42_0, fv_42_1, fv_42_2, fv_42_3, fv_42_4, fv_42_5, ak_43, al_43, ak_44, al_44, ak_45, al_45, ak_46, al_46, ak_47, al_47, ak_48, al_48, rf_48, ak_49, al_49, ak_50, al_50, ak_51, al_51, ak_52, al_52, ak_53, al_53, ak_54, al_54, ak_55, al_55, ak_56, al_56, tn_add, tn_mul, g2, g3, m2, m3, ltT, ltF, leT, leF, eqT, eqF, and_self, iI_add, iI_sub, iI_mul, iI_neg, iI_lt, iI_le, iI_eq, iI_toInt, tn_n, tn_1, inb_I, Int.reduceEq, Int.reduceLT, Int.reduceLE, Int.reduceAdd, Int.reduceSub, Int.reduceMul, Int.reduceNeg, Int.reduceToNat, Nat.reduceAdd, Nat.reduceMul, Int.reduceNatCast, reduceCtorEq, Int.cast_ofNat_Int, bi_tr, bi_fa, bi_0, bi_1, not_true_eq_false, not_false_eq_true, rnk_v, rnk_n, ↓reduceIte, i00, i11, ibi, or_true, true_or, and_true, true_and, List.cons_append, List.nil_append, Option.toList, nop]
      exact hX
    · have e1 : bi ((gS K).2.1 i = true) = iI 1 := bi_t (by simp [gS, q])
      have e2 : bi ((gS K).2.2 i = true) = iI 1 := bi_t (by simp [gS, q])
      rw [e1] at m3
      rw [bi_f q] at m2 m3
      simp only [e1, e2] at hX
      simp (maxSteps := 4000000) (disch := omega) only [s_X9_prepareForKnocks_0, s_X9_prepareForKnocks_1, s_X9_prepareForKnocks_3, s_X9_prepareForKnocks_4, s_X9_prepareForKnocks_7, s_X9_prepareForKnocks_10, s_X9_prepareForKnocks_11, s_X9_prepareForKnocks_13, s_X9_prepareForKnocks_16, s_X9_prepareForKnocks_17, s_X9_prepareForKnocks_20, s_X9_prepareForKnocks_21, s_X9_prepareForKnocks_22, s_X9_prepareForKnocks_25, s_X9_prepareForKnocks_26, s_X9_prepareForKnocks_27, s_X9_prepareForKnocks_28, s_X9_prepareForKnocks_29, s_X9_prepareForKnocks_32, s_X9_prepareForKnocks_33, s_X9_prepareForKnocks_34, s_X9_prepareForKnocks_35, s_X9_prepareForKnocks_38, s_X9_prepareForKnocks_41, s_X9_prepareForKnocks_42, s_X9_prepareForKnocks_45, s_X9_prepareForKnocks_46, s_X9_prepareForKnocks_47, s_X9_prepareForKnocks_48, s_X9_prepareForKnocks_51, s_X9_prepareForKnocks_52, s_X9_prepareForKnocks_53, s_X9_prepareForKnocks_54, s_X9_prepareForKnocks_57, s_X9_prepareForKnocks_60, s_X9_prepareForKnocks_61, s_X9_prepareForKnocks_64, s_X9_prepareForKnocks_65, s_X9_prepareForKnocks_66, s_X9_prepareForKnocks_69, s_X9_prepareForKnocks_72, mn_cls hb, mn_fv0 hb, mn_fv1 hb, mn_fv2 hb, mn_fv3 hb, mn_fv4 hb, mn_fv5 hb, mn_fv6 hb, mn_fv7 hb, mn_fv8 hb, mn_fv9 hb, mn_fv10 hb, mn_fv11 hb, mn_fv12 hb, mn_fv13 hb, mn_fv14 hb, mn_fv15 hb, mn_ak1 hb, mn_al1 hb, mn_ak2 hb, mn_al2 hb, mn_ak3 hb, mn_al3 hb, mn_ak4 hb, mn_al4 hb, mn_ak5 hb, mn_al5 hb, mn_ak6 hb, mn_al6 hb, mn_ak7 hb, mn_al7 hb, mn_ak8 hb, mn_al8 hb, mn_ak9 hb, mn_al9 hb, cls_42, fv_42_0, fv_42_1, fv_42_2, fv_42_3, fv_42_4, fv_42_5, ak_43, al_43, ak_44, al_44, ak_45, al_45, ak_46, al_46, ak_47, al_47, ak_48, al_48, rf_48, ak_49, al_49, ak_50, al_50, ak_51, al_51, ak_52, al_52, ak_53, al_53, ak_54, al_54, ak_55, al_55, ak_56, al_56, tn_add, tn_mul, g2, g3, m2, m3, ltT, ltF, leT, leF, eqT, eqF, and_self, iI_add, iI_sub, iI_mul, iI_neg, iI_lt, iI_le, iI_eq, iI_toInt, tn_n, tn_1, inb_I, Int.reduceEq, Int.reduceLT, Int.reduceLE, Int.reduceAdd, Int.reduceSub, Int.reduceMul, Int.reduceNeg, Int.reduceToNat, Nat.reduceAdd, Nat.reduceMul, Int.reduceNatCast, reduceCtorEq, Int.cast_ofNat_Int, bi_tr, bi_fa, bi_0, bi_1, not_true_eq_false, not_false_eq_true, rnk_v, rnk_n, ↓reduceIte, i00, i11, ibi, or_true, true_or, and_true, true_and, List.cons_append, List.nil_append, Option.toList, nop]
      exact hX) (Nat.zero_le _) (a := M) ⟨Sm_rf _ _, fun t ht => absurd ht (by omega)⟩
  refine ⟨M', ?_, h4, h3⟩
  simp (maxSteps := 4000000) (disch := omega) only [en_X9_prepareForKnocks, s_X9_prepareForKnocks_0, s_X9_prepareForKnocks_1, Int.reduceEq, Int.reduceLT, Int.reduceLE, Int.reduceAdd, Int.reduceSub, Int.reduceMul, Int.reduceNeg, Int.reduceToNat, Nat.reduceAdd, Nat.reduceMul, Int.reduceNatCast, reduceCtorEq, Int.cast_ofNat_Int, bi_tr, bi_fa, bi_0, bi_1, not_true_eq_false, not_false_eq_true, rnk_v, rnk_n, ↓reduceIte, i00, i11, ibi, or_true, true_or, and_true, true_and, List.cons_append, List.nil_append, Option.toList, nop]
  refine e.trans ?_
  have g2 := (Rep_o hb hR h3 (by simp)).1.2.1
  simp (maxSteps := 4000000) (disch := omega) only [s_X9_prepareForKnocks_0, s_X9_prepareForKnocks_1, s_X9_prepareForKnocks_2, s_X9_prepareForKnocks_3, s_X9_prepareForKnocks_4, s_X9_prepareForKnocks_7, s_X9_prepareForKnocks_10, s_X9_prepareForKnocks_11, s_X9_prepareForKnocks_13, s_X9_prepareForKnocks_16, s_X9_prepareForKnocks_17, s_X9_prepareForKnocks_20, s_X9_prepareForKnocks_21, s_X9_prepareForKnocks_22, s_X9_prepareForKnocks_25, s_X9_prepareForKnocks_26, s_X9_prepareForKnocks_27, s_X9_prepareForKnocks_28, s_X9_prepareForKnocks_29, s_X9_prepareForKnocks_32, s_X9_prepareForKnocks_33, s_X9_prepareForKnocks_34, s_X9_prepareForKnocks_35, s_X9_prepareForKnocks_38, s_X9_prepareForKnocks_41, s_X9_prepareForKnocks_42, s_X9_prepareForKnocks_45, s_X9_prepareForKnocks_46, s_X9_prepareForKnocks_47, s_X9_prepareForKnocks_48, s_X9_prepareForKnocks_51, s_X9_prepareForKnocks_52, s_X9_prepareForKnocks_53, s_X9_prepareForKnocks_54, s_X9_prepareForKnocks_57, s_X9_prepareForKnocks_60, s_X9_prepareForKnocks_61, s_X9_prepareForKnocks_64, s_X9_prepareForKnocks_65, s_X9_prepareForKnocks_66, s_X9_prepareForKnocks_69, s_X9_prepareForKnocks_72, mn_cls hb, mn_fv0 hb, mn_fv1 hb, mn_fv2 hb, mn_fv3 hb, mn_fv4 hb, mn_fv5 hb, mn_fv6 hb, mn_fv7 hb, mn_fv8 hb, mn_fv9 hb, mn_fv10 hb, mn_fv11 hb, mn_fv12 hb, mn_fv13 hb, mn_fv14 hb, mn_fv15 hb, mn_ak1 hb, mn_al1 hb, mn_ak2 hb, mn_al2 hb, mn_ak3 hb, mn_al3 hb, mn_ak4 hb, mn_al4 hb, mn_ak5 hb, mn_al5 hb, mn_ak6 hb, mn_al6 hb, mn_ak7 hb, mn_al7 hb, mn_ak8 hb, mn_al8 hb, mn_ak9 hb, mn_al9 hb, g2, leT, iI_add, iI_sub, iI_mul, iI_neg, iI_lt, iI_le, iI_eq, iI_toInt, tn_n, tn_1, inb_I, Int.reduceEq, Int.reduceLT, Int.reduceLE, Int.reduceAdd, Int.reduceSub, Int.reduceMul, Int.reduceNeg, Int.reduceToNat, Nat.reduceAdd, Nat.reduceMul, Int.reduceNatCast, reduceCtorEq, Int.cast_ofNat_Int, bi_tr, bi_fa, bi_0, bi_1, not_true_eq_false, not_false_eq_true, rnk_v, rnk_n, ↓reduceIte, i00, i11, ibi, or_true, true_or, and_true, true_and, List.cons_append, List.nil_append, Option.toList, nop]
def RepR (M : tM) (K : tK) (r : Nat → Nat) : Prop := ∀ d, d < kD K → M.1 46 d = iI (r d) ∧ r d ≤ 9999
theorem RepR_put {M : tM} {K : tK} {r : Nat → Nat} (h : RepR M K r) {v x : Nat} (hx : x ≤ 9999) : RepR (sI M 46 v (iI x)) K (fun d => if d = v then x else r d) := by
  intro d hd
  have := h d hd
  by_cases e : d = v
  · subst e; rw [sI_s]; simp [hx]
  · rw [sI_k _ _ e]; simp [e, this]
theorem k_X9_comesNearer {D : Nat} (hD : 1 ≤ D) {M : tM} {K : tK} (hI : kInv K) {r : Nat → Nat} (hr : RepR M K r) {u v w : Nat} (hu : u < kD K) (hv : v < kD K) (hw : w ≤ 90) : ∃ M' z, exF D m_X9_comesNearer [.ref 42, .int (iI u), .int (iI v), .int (iI w)] M = some (some (.int (iI z)), M') ∧ (z = 0 ∨ z = 1) ∧ RepR M' K (rlx r u v w) ∧ Sm [46] M M' ∧ (z = 0 → rlx r u v w = r) := by
  obtain ⟨D, rfl⟩ : ∃ D0, D = D0 + 1 := ⟨D - 1, by omega⟩
  have g0 := kI_n hI
  obtain ⟨e1, e2⟩ := hr u hu
  obtain ⟨e3, e4⟩ := hr v hv
  unfold rlx
  by_cases h : r u = 9999 ∨ r v ≤ r u + w
  · rw [if_pos h]
    refine ⟨M, 0, ?_, Or.inl rfl, hr, Sm_rf _ _, fun _ => rfl⟩
    simp (maxSteps := 4000000) (disch := omega) only [en_X9_comesNearer, s_X9_comesNearer_0, s_X9_comesNearer_1, s_X9_comesNearer_4, s_X9_comesNearer_5, s_X9_comesNearer_6, s_X9_comesNearer_9, s_X9_comesNearer_12, s_X9_comesNearer_13, s_X9_comesNearer_16, s_X9_comesNearer_17, s_X9_comesNearer_18, s_X9_comesNearer_19, s_X9_comesNearer_20, s_X9_comesNearer_21, s_X9_comesNearer_24, s_X9_comesNearer_25, s_X9_comesNearer_26, s_X9_comesNearer_29, s_X9_comesNearer_30, s_X9_comesNearer_31, s_X9_comesNearer_32, s_X9_comesNearer_35, s_X9_comesNearer_36, s_X9_comesNearer_37, s_X9_comesNearer_40, s_X9_comesNearer_41, s_X9_comesNearer_42, s_X9_comesNearer_43, s_X9_comesNearer_44, s_X9_comesNearer_45, s_X9_comesNearer_46, cls_42, fv_42_0, fv_42_1, fv_42_2, fv_42_3, fv_42_4, fv_42_5, ak_43, al_43, ak_44, al_44, ak_45, al_45, ak_46, al_46, ak_47, al_47, ak_48, al_48, rf_48, ak_49, al_49, ak_50, al_50, ak_51, al_51, ak_52, al_52, ak_53, al_53, ak_54, al_54, ak_55, al_55, ak_56, al_56, tn_add, tn_mul, e1, e3, iI_add, iI_sub, iI_mul, iI_neg, iI_lt, iI_le, iI_eq, iI_toInt, tn_n, tn_1, inb_I, Int.reduceEq, Int.reduceLT, Int.reduceLE, Int.reduceAdd, Int.reduceSub, Int.reduceMul, Int.reduceNeg, Int.reduceToNat, Nat.reduceAdd, Nat.reduceMul, Int.reduceNatCast, reduceCtorEq, Int.cast_ofNat_Int, bi_tr, bi_fa, bi_0, bi_1, not_true_eq_false, not_false_eq_true, rnk_v, rnk_n, ↓reduceIte, i00, i11, ibi, or_true, true_or, and_true, true_and, List.cons_append, List.nil_append, Option.toList, nop]
    (repeat' split) <;> first | rfl | (exfalso; omega)
  · rw [if_neg h]
    refine ⟨sI M 46 v (iI ((r u + w : Nat) : Int)), 1, ?_, Or.inr rfl, RepR_put hr (by omega), Sm_sI (by simp), fun h => by omega⟩
    simp (maxSteps := 4000000) (disch := omega) only [en_X9_comesNearer, s_X9_comesNearer_0, s_X9_comesNearer_1, s_X9_comesNearer_4, s_X9_comesNearer_5, s_X9_comesNearer_6, s_X9_comesNearer_9, s_X9_comesNearer_12, s_X9_comesNearer_13, s_X9_comesNearer_16, s_X9_comesNearer_17, s_X9_comesNearer_18, s_X9_comesNearer_19, s_X9_comesNearer_20, s_X9_comesNearer_21, s_X9_comesNearer_24, s_X9_comesNearer_25, s_X9_comesNearer_26, s_X9_comesNearer_29, s_X9_comesNearer_30, s_X9_comesNearer_31, s_X9_comesNearer_32, s_X9_comesNearer_35, s_X9_comesNearer_36, s_X9_comesNearer_37, s_X9_comesNearer_40, s_X9_comesNearer_41, s_X9_comesNearer_42, s_X9_comesNearer_43, s_X9_comesNearer_44, s_X9_comesNearer_45, s_X9_comesNearer_46, cls_42, fv_42_0, fv_42_1, fv_42_2, fv_42_3, fv_42_4, fv_42_5, ak_43, al_43, ak_44, al_44, ak_45, al_45, ak_46, al_46, ak_47, al_47, ak_48, al_48, rf_48, ak_49, al_49, ak_50, al_50, ak_51, al_51, ak_52, al_52, ak_53, al_53, ak_54, al_54, ak_55, al_55, ak_56, al_56, tn_add, tn_mul, e1, e3, ltT, ltF, leT, leF, eqT, eqF, iI_add, iI_sub, iI_mul, iI_neg, iI_lt, iI_le, iI_eq, iI_toInt, tn_n, tn_1, inb_I, Int.reduceEq, Int.reduceLT, Int.reduceLE, Int.reduceAdd, Int.reduceSub, Int.reduceMul, Int.reduceNeg, Int.reduceToNat, Nat.reduceAdd, Nat.reduceMul, Int.reduceNatCast, reduceCtorEq, Int.cast_ofNat_Int, bi_tr, bi_fa, bi_0, bi_1, not_true_eq_false, not_false_eq_true, rnk_v, rnk_n, ↓reduceIte, i00, i11, ibi, or_true, true_or, and_true, true_and, List.cons_append, List.nil_append, Option.toList, nop]
    rfl
theorem l_spread1 {D : Nat} (hD : 1 ≤ D) {N : tM} {b : Nat} {K : tK} {G : tG} (hb : isMin b) (hR : Rep N b K) (hI : kInv K) (hG : gI K G) (hg : RepG N K G) {r : Nat → Nat} (hr : RepR N K r) {t : Nat} (ht : t < kT K) {s i z : Int} (hz : z = 0 ∨ z = 1) : ∃ N' z', rn (exF D) C_X9_spread 63 [some (.ref 42), some (.ref b), some (.int (iI s)), some (.int (iI z)), some (.int (iI i)), some (.int (iI t))] [] N = rn (exF D) C_X9_spread 103 [some (.ref 42), some (.ref b), some (.int (iI s)), some (.int (iI z')), some (.int (iI i)), some (.int (iI t))] [] N' ∧ (z' = 0 ∨ z' = 1) ∧ RepR N' K (rl1 K G t r) ∧ Sm [46] N N' ∧ (z' = 0 → z = 0 ∧ rl1 K G t r = r) := by
  have g0 := kI_n hI
  have g1 := kI_t hI ht
  obtain ⟨e1, e2, e3⟩ := hg t ht
  obtain ⟨f1, f2, f3, f4⟩ := hR.2.2.1 t ht
  unfold rl1
  by_cases q : G.2.1 t = true
  · rw [if_pos q]
    obtain ⟨N', z', c1, c2, c3, c4, c5⟩ := k_X9_comesNearer (show _ ≤ D by omega) hI hr g1.1.1 g1.1.2.1 (hG t ht).2
    rw [bi_t q] at e2
    rcases c2 with rfl | rfl
    · refine ⟨N', z, ?_, hz, c3, c4, fun h => ⟨h, c5 rfl⟩⟩
      simp (maxSteps := 4000000) (disch := omega) only [s_X9_spread_63, s_X9_spread_64, s_X9_spread_67, s_X9_spread_69, s_X9_spread_70, s_X9_spread_73, s_X9_spread_74, s_X9_spread_75, s_X9_spread_78, s_X9_spread_80, s_X9_spread_81, s_X9_spread_82, s_X9_spread_85, s_X9_spread_87, s_X9_spread_88, s_X9_spread_89, s_X9_spread_92, s_X9_spread_94, s_X9_spread_95, s_X9_spread_98, s_X9_spread_101, s_X9_spread_102, mn_cls hb, mn_fv0 hb, mn_fv1 hb, mn_fv2 hb, mn_fv3 hb, mn_fv4 hb, mn_fv5 hb, mn_fv6 hb, mn_fv7 hb, mn_fv8 hb, mn_fv9 hb, mn_fv10 hb, mn_fv11 hb, mn_fv12 hb, mn_fv13 hb, mn_fv14 hb, mn_fv15 hb, mn_ak1 hb, mn_al1 hb, mn_ak2 hb, mn_al2 hb, mn_ak3 hb, mn_al3 hb, mn_ak4 hb, mn_al4 hb, mn_ak5 hb, mn_al5 hb, mn_ak6 hb, mn_al6 hb, mn_ak7 hb, mn_al7 hb, mn_ak8 hb, mn_al8 hb, mn_ak9 hb, mn_al9 hb, cls_42, fv_42_0, fv_42_1, fv_42_2, fv_42_3, fv_42_4, fv_42_5, ak_43, al_43, ak_44, al_44, ak_45, al_45, ak_46, al_46, ak_47, al_47, ak_48, al_48, rf_48, ak_49, al_49, ak_50, al_50, ak_51, al_51, ak_52, al_52, ak_53, al_53, ak_54, al_54, ak_55, al_55, ak_56, al_56, tn_add, tn_mul, e1, e2, f1, f2, c1, iI_add, iI_sub, iI_mul, iI_neg, iI_lt, iI_le, iI_eq, iI_toInt, tn_n, tn_1, inb_I, Int.reduceEq, Int.reduceLT, Int.reduceLE, Int.reduceAdd, Int.reduceSub, Int.reduceMul, Int.reduceNeg, Int.reduceToNat, Nat.reduceAdd, Nat.reduceMul, Int.reduceNatCast, reduceCtorEq, Int.cast_ofNat_Int, bi_tr, bi_fa, bi_0, bi_1, not_true_eq_false, not_false_eq_true, rnk_v, rnk_n, ↓reduceIte, i00, i11, ibi, or_true, true_or, and_true, true_and, List.cons_append, List.nil_append, Option.toList, nop]
    · refine ⟨N', 1, ?_, Or.inr rfl, c3, c4, fun h => by omega⟩
      simp (maxSteps := 4000000) (disch := omega) only [s_X9_spread_63, s_X9_spread_64, s_X9_spread_67, s_X9_spread_69, s_X9_spread_70, s_X9_spread_73, s_X9_spread_74, s_X9_spread_75, s_X9_spread_78, s_X9_spread_80, s_X9_spread_81, s_X9_spread_82, s_X9_spread_85, s_X9_spread_87, s_X9_spread_88, s_X9_spread_89, s_X9_spread_92, s_X9_spread_94, s_X9_spread_95, s_X9_spread_98, s_X9_spread_101, s_X9_spread_102, mn_cls hb, mn_fv0 hb, mn_fv1 hb, mn_fv2 hb, mn_fv3 hb, mn_fv4 hb, mn_fv5 hb, mn_fv6 hb, mn_fv7 hb, mn_fv8 hb, mn_fv9 hb, mn_fv10 hb, mn_fv11 hb, mn_fv12 hb, mn_fv13 hb, mn_fv14 hb, mn_fv15 hb, mn_ak1 hb, mn_al1 hb, mn_ak2 hb, mn_al2 hb, mn_ak3 hb, mn_al3 hb, mn_ak4 hb, mn_al4 hb, mn_ak5 hb, mn_al5 hb, mn_ak6 hb, mn_al6 hb, mn_ak7 hb, mn_al7 hb, mn_ak8 hb, mn_al8 hb, mn_ak9 hb, mn_al9 hb, cls_42, fv_42_0, fv_42_1, fv_42_2, fv_42_3, fv_42_4, fv_42_5, ak_43, al_43, ak_44, al_44, ak_45, al_45, ak_46, al_46, ak_47, al_47, ak_48, al_48, rf_48, ak_49, al_49, ak_50, al_50, ak_51, al_51, ak_52, al_52, ak_53, al_53, ak_54, al_54, ak_55, al_55, ak_56, al_56, tn_add, tn_mul, e1, e2, f1, f2, c1, iI_add, iI_sub, iI_mul, iI_neg, iI_lt, iI_le, iI_eq, iI_toInt, tn_n, tn_1, inb_I, Int.reduceEq, Int.reduceLT, Int.reduceLE, Int.reduceAdd, Int.reduceSub, Int.reduceMul, Int.reduceNeg, Int.reduceToNat, Nat.reduceAdd, Nat.reduceMul, Int.reduceNatCast, reduceCtorEq, Int.cast_ofNat_Int, bi_tr, bi_fa, bi_0, bi_1, not_true_eq_false, not_false_eq_true, rnk_v, rnk_n, ↓reduceIte, i00, i11, ibi, or_true, true_or, and_true, true_and, List.cons_append, List.nil_append, Option.toList, nop]
  · rw [if_neg q]
    refine ⟨N, z, ?_, hz, hr, Sm_rf _ _, fun h => ⟨h, rfl⟩⟩
    rw [bi_f q] at e2
    simp (maxSteps := 4000000) (disch := omega) only [s_X9_spread_63, s_X9_spread_64, s_X9_spread_67, s_X9_spread_69, s_X9_spread_70, s_X9_spread_73, s_X9_spread_74, s_X9_spread_75, s_X9_spread_78, s_X9_spread_80, s_X9_spread_81, s_X9_spread_82, s_X9_spread_85, s_X9_spread_87, s_X9_spread_88, s_X9_spread_89, s_X9_spread_92, s_X9_spread_94, s_X9_spread_95, s_X9_spread_98, s_X9_spread_101, s_X9_spread_102, mn_cls hb, mn_fv0 hb, mn_fv1 hb, mn_fv2 hb, mn_fv3 hb, mn_fv4 hb, mn_fv5 hb, mn_fv6 hb, mn_fv7 hb, mn_fv8 hb, mn_fv9 hb, mn_fv10 hb, mn_fv11 hb, mn_fv12 hb, mn_fv13 hb, mn_fv14 hb, mn_fv15 hb, mn_ak1 hb, mn_al1 hb, mn_ak2 hb, mn_al2 hb, mn_ak3 hb, mn_al3 hb, mn_ak4 hb, mn_al4 hb, mn_ak5 hb, mn_al5 hb, mn_ak6 hb, mn_al6 hb, mn_ak7 hb, mn_al7 hb, mn_ak8 hb, mn_al8 hb, mn_ak9 hb, mn_al9 hb, cls_42, fv_42_0, fv_42_1, fv_42_2, fv_42_3, fv_42_4, fv_42_5, ak_43, al_43, ak_44, al_44, ak_45, al_45, ak_46, al_46, ak_47, al_47, ak_48, al_48, rf_48, ak_49, al_49, ak_50, al_50, ak_51, al_51, ak_52, al_52, ak_53, al_53, ak_54, al_54, ak_55, al_55, ak_56, al_56, tn_add, tn_mul, e2, iI_add, iI_sub, iI_mul, iI_neg, iI_lt, iI_le, iI_eq, iI_toInt, tn_n, tn_1, inb_I, Int.reduceEq, Int.reduceLT, Int.reduceLE, Int.reduceAdd, Int.reduceSub, Int.reduceMul, Int.reduceNeg, Int.reduceToNat, Nat.reduceAdd, Nat.reduceMul, Int.reduceNatCast, reduceCtorEq, Int.cast_ofNat_Int, bi_tr, bi_fa, bi_0, bi_1, not_true_eq_false, not_false_eq_true, rnk_v, rnk_n, ↓reduceIte, i00, i11, ibi, or_true, true_or, and_true, true_and, List.cons_append, List.nil_append, Option.toList, nop]
theorem l_spread2 {D : Nat} (hD : 1 ≤ D) {N : tM} {b : Nat} {K : tK} {G : tG} (hb : isMin b) (hR : Rep N b K) (hI : kInv K) (hG : gI K G) (hg : RepG N K G) {r : Nat → Nat} (hr : RepR N K r) {t : Nat} (ht : t < kT K) {s i z : Int} (hz : z = 0 ∨ z = 1) : ∃ N' z', rn (exF D) C_X9_spread 103 [some (.ref 42), some (.ref b), some (.int (iI s)), some (.int (iI z)), some (.int (iI i)), some (.int (iI t))] [] N = rn (exF D) C_X9_spread 143 [some (.ref 42), some (.ref b), some (.int (iI s)), some (.int (iI z')), some (.int (iI i)), some (.int (iI t))] [] N' ∧ (z' = 0 ∨ z' = 1) ∧ RepR N' K (rl2 K G t r) ∧ Sm [46] N N' ∧ (z' = 0 → z = 0 ∧ rl2 K G t r = r) := by
  have g0 := kI_n hI
  have g1 := kI_t hI ht
  obtain ⟨e1, e2, e3⟩ := hg t ht
  obtain ⟨f1, f2, f3, f4⟩ := hR.2.2.1 t ht
  unfold rl2
  by_cases q : G.2.2 t = true
  · rw [if_pos q]
    obtain ⟨N', z', c1, c2, c3, c4, c5⟩ := k_X9_comesNearer (show _ ≤ D by omega) hI hr g1.1.2.1 g1.1.1 (hG t ht).2
    rw [bi_t q] at e3
    rcases c2 with rfl | rfl
    · refine ⟨N', z, ?_, hz, c3, c4, fun h => ⟨h, c5 rfl⟩⟩
      simp (maxSteps := 4000000) (disch := omega) only [s_X9_spread_103, s_X9_spread_104, s_X9_spread_107, s_X9_spread_109, s_X9_spread_110, s_X9_spread_113, s_X9_spread_114, s_X9_spread_115, s_X9_spread_118, s_X9_spread_120, s_X9_spread_121, s_X9_spread_122, s_X9_spread_125, s_X9_spread_127, s_X9_spread_128, s_X9_spread_129, s_X9_spread_132, s_X9_spread_134, s_X9_spread_135, s_X9_spread_138, s_X9_spread_141, s_X9_spread_142, mn_cls hb, mn_fv0 hb, mn_fv1 hb, mn_fv2 hb, mn_fv3 hb, mn_fv4 hb, mn_fv5 hb, mn_fv6 hb, mn_fv7 hb, mn_fv8 hb, mn_fv9 hb, mn_fv10 hb, mn_fv11 hb, mn_fv12 hb, mn_fv13 hb, mn_fv14 hb, mn_fv15 hb, mn_ak1 hb, mn_al1 hb, mn_ak2 hb, mn_al2 hb, mn_ak3 hb, mn_al3 hb, mn_ak4 hb, mn_al4 hb, mn_ak5 hb, mn_al5 hb, mn_ak6 hb, mn_al6 hb, mn_ak7 hb, mn_al7 hb, mn_ak8 hb, mn_al8 hb, mn_ak9 hb, mn_al9 hb, cls_42, fv_42_0, fv_42_1, fv_42_2, fv_42_3, fv_42_4, fv_42_5, ak_43, al_43, ak_44, al_44, ak_45, al_45, ak_46, al_46, ak_47, al_47, ak_48, al_48, rf_48, ak_49, al_49, ak_50, al_50, ak_51, al_51, ak_52, al_52, ak_53, al_53, ak_54, al_54, ak_55, al_55, ak_56, al_56, tn_add, tn_mul, e1, e3, f1, f2, c1, iI_add, iI_sub, iI_mul, iI_neg, iI_lt, iI_le, iI_eq, iI_toInt, tn_n, tn_1, inb_I, Int.reduceEq, Int.reduceLT, Int.reduceLE, Int.reduceAdd, Int.reduceSub, Int.reduceMul, Int.reduceNeg, Int.reduceToNat, Nat.reduceAdd, Nat.reduceMul, Int.reduceNatCast, reduceCtorEq, Int.cast_ofNat_Int, bi_tr, bi_fa, bi_0, bi_1, not_true_eq_false, not_false_eq_true, rnk_v, rnk_n, ↓reduceIte, i00, i11, ibi, or_true, true_or, and_true, true_and, List.cons_append, List.nil_append, Option.toList, nop]
    · refine ⟨N', 1, ?_, Or.inr rfl, c3, c4, fun h => by omega⟩
      simp (maxSteps := 4000000) (disch := omega) only [s_X9_spread_103, s_X9_spread_104, s_X9_spread_107, s_X9_spread_109, s_X9_spread_110, s_X9_spread_113, s_X9_spread_114, s_X9_spread_115, s_X9_spread_118, s_X9_spread_120, s_X9_spread_121, s_X9_spread_122, s_X9_spread_125, s_X9_spread_127, s_X9_spread_128, s_X9_spread_129, s_X9_spread_132, s_X9_spread_134, s_X9_spread_135, s_X9_spread_138, s_X9_spread_141, s_X9_spread_142, mn_cls hb, mn_fv0 hb, mn_fv1 hb, mn_fv2 hb, mn_fv3 hb, mn_fv4 hb, mn_fv5 hb, mn_fv6 hb, mn_fv7 hb, mn_fv8 hb, mn_fv9 hb, mn_fv10 hb, mn_fv11 hb, mn_fv12 hb, mn_fv13 hb, mn_fv14 hb, mn_fv15 hb, mn_ak1 hb, mn_al1 hb, mn_ak2 hb, mn_al2 hb, mn_ak3 hb, mn_al3 hb, mn_ak4 hb, mn_al4 hb, mn_ak5 hb, mn_al5 hb, mn_ak6 hb, mn_al6 hb, mn_ak7 hb, mn_al7 hb, mn_ak8 hb, mn_al8 hb, mn_ak9 hb, mn_al9 hb, cls_42, fv_42_0, fv_42_1, fv_42_2, fv_42_3, fv_42_4, fv_42_5, ak_43, al_43, ak_44, al_44, ak_45, al_45, ak_46, al_46, ak_47, al_47, ak_48, al_48, rf_48, ak_49, al_49, ak_50, al_50, ak_51, al_51, ak_52, al_52, ak_53, al_53, ak_54, al_54, ak_55, al_55, ak_56, al_56, tn_add, tn_mul, e1, e3, f1, f2, c1, iI_add, iI_sub, iI_mul, iI_neg, iI_lt, iI_le, iI_eq, iI_toInt, tn_n, tn_1, inb_I, Int.reduceEq, Int.reduceLT, Int.reduceLE, Int.reduceAdd, Int.reduceSub, Int.reduceMul, Int.reduceNeg, Int.reduceToNat, Nat.reduceAdd, Nat.reduceMul, Int.reduceNatCast, reduceCtorEq, Int.cast_ofNat_Int, bi_tr, bi_fa, bi_0, bi_1, not_true_eq_false, not_false_eq_true, rnk_v, rnk_n, ↓reduceIte, i00, i11, ibi, or_true, true_or, and_true, true_and, List.cons_append, List.nil_append, Option.toList, nop]
  · rw [if_neg q]
    refine ⟨N, z, ?_, hz, hr, Sm_rf _ _, fun h => ⟨h, rfl⟩⟩
    rw [bi_f q] at e3
    simp (maxSteps := 4000000) (disch := omega) only [s_X9_spread_103, s_X9_spread_104, s_X9_spread_107, s_X9_spread_109, s_X9_spread_110, s_X9_spread_113, s_X9_spread_114, s_X9_spread_115, s_X9_spread_118, s_X9_spread_120, s_X9_spread_121, s_X9_spread_122, s_X9_spread_125, s_X9_spread_127, s_X9_spread_128, s_X9_spread_129, s_X9_spread_132, s_X9_spread_134, s_X9_spread_135, s_X9_spread_138, s_X9_spread_141, s_X9_spread_142, mn_cls hb, mn_fv0 hb, mn_fv1 hb, mn_fv2 hb, mn_fv3 hb, mn_fv4 hb, mn_fv5 hb, mn_fv6 hb, mn_fv7 hb, mn_fv8 hb, mn_fv9 hb, mn_fv10 hb, mn_fv11 hb, mn_fv12 hb, mn_fv13 hb, mn_fv14 hb, mn_fv15 hb, mn_ak1 hb, mn_al1 hb, mn_ak2 hb, mn_al2 hb, mn_ak3 hb, mn_al3 hb, mn_ak4 hb, mn_al4 hb, mn_ak5 hb, mn_al5 hb, mn_ak6 hb, mn_al6 hb, mn_ak7 hb, mn_al7 hb, mn_ak8 hb, mn_al8 hb, mn_ak9 hb, mn_al9 hb, cls_42, fv_42_0, fv_42_1, fv_42_2, fv_42_3, fv_42_4, fv_42_5, ak_43, al_43, ak_44, al_44, ak_45, al_45, ak_46, al_46, ak_47, al_47, ak_48, al_48, rf_48, ak_49, al_49, ak_50, al_50, ak_51, al_51, ak_52, al_52, ak_53, al_53, ak_54, al_54, ak_55, al_55, ak_56, al_56, tn_add, tn_mul, e3, iI_add, iI_sub, iI_mul, iI_neg, iI_lt, iI_le, iI_eq, iI_toInt, tn_n, tn_1, inb_I, Int.reduceEq, Int.reduceLT, Int.reduceLE, Int.reduceAdd, Int.reduceSub, Int.reduceMul, Int.reduceNeg, Int.reduceToNat, Nat.reduceAdd, Nat.reduceMul, Int.reduceNatCast, reduceCtorEq, Int.cast_ofNat_Int, bi_tr, bi_fa, bi_0, bi_1, not_true_eq_false, not_false_eq_true, rnk_v, rnk_n, ↓reduceIte, i00, i11, ibi, or_true, true_or, and_true, true_and, List.cons_append, List.nil_append, Option.toList, nop]
/-- all tubes once -/
theorem l_spreadT {D : Nat} (hD : 1 ≤ D) {N : tM} {b : Nat} {K : tK} {G : tG} (hb : isMin b) (hR : Rep N b K) (hI : kInv K) (hG : gI K G) (hg : RepG N K G) {r : Nat → Nat} (hr : RepR N K r) {s i : Int} : ∃ N' z, rn (exF D) C_X9_spread 47 [some (.ref 42), some (.ref b), some (.int (iI s)), some (.int (iI 0)), some (.int (iI i)), some (.int (iI 0))] [] N = rn (exF D) C_X9_spread 149 [some (.ref 42), some (.ref b), some (.int (iI s)), some (.int (iI z)), some (.int (iI i)), some (.int (iI (kT K : Int)))] [] N' ∧ (z = 0 ∨ z = 1) ∧ RepR N' K (rlT K G r (kT K)) ∧ Sm [46] N N' ∧ (z = 0 → rlT K G r (kT K) = r) := by
  have g0 := kI_n hI
  obtain ⟨⟨N', z⟩, e, h1, h2, h3, h4⟩ := lp (f := fun t (a : tM × Int) => rn (exF D) C_X9_spread 47 [some (.ref 42), some (.ref b), some (.int (iI s)), some (.int (iI a.2)), some (.int (iI i)), some (.int (iI t))] [] a.1) (P := fun t a => (a.2 = 0 ∨ a.2 = 1) ∧ RepR a.1 K (rlT K G r t) ∧ Sm [46] N a.1 ∧ (a.2 = 0 → rlT K G r t = r)) (n := kT K) (by
    rintro t ⟨N1, z1⟩ ht ⟨p1, p2, p3, p4⟩
    have r1 : Rep N1 b K := Rep_o hb hR p3 (by simp)
    have r2 : RepG N1 K G := RepG_Sm hg p3 (by simp) (by simp) (by simp)
    obtain ⟨N2, z2, a1, a2, a3, a4, a5⟩ := l_spread1 hD hb r1 hI hG r2 p2 ht (s := s) (i := i) p1
    have r3 : Rep N2 b K := Rep_o hb r1 a4 (by simp)
    have r4 : RepG N2 K G := RepG_Sm r2 a4 (by simp) (by simp) (by simp)
    obtain ⟨N3, z3, b1, b2, b3, b4, b5⟩ := l_spread2 hD hb r3 hI hG r4 a3 ht (s := s) (i := i) a2
    refine ⟨(N3, z3), ?_, b2, b3, Sm_tr p3 (Sm_tr a4 b4), ?_⟩
    · intro X hX
      show rn _ _ _ _ _ _ = X
      have g2 := r1.1.2.1
      rw [s_X9_spread_47]
      simp (maxSteps := 4000000) (disch := omega) only [s_X9_spread_49, s_X9_spread_50, s_X9_spread_53, s_X9_spread_56, s_X9_spread_58, s_X9_spread_60, mn_cls hb, mn_fv0 hb, mn_fv1 hb, mn_fv2 hb, mn_fv3 hb, mn_fv4 hb, mn_fv5 hb, mn_fv6 hb, mn_fv7 hb, mn_fv8 hb, mn_fv9 hb, mn_fv10 hb, mn_fv11 hb, mn_fv12 hb, mn_fv13 hb, mn_fv14 hb, mn_fv15 hb, mn_ak1 hb, mn_al1 hb, mn_ak2 hb, mn_al2 hb, mn_ak3 hb, mn_al3 hb, mn_ak4 hb, mn_al4 hb, mn_ak5 hb, mn_al5 hb, mn_ak6 hb, mn_al6 hb, mn_ak7 hb, mn_al7 hb, mn_ak8 hb, mn_al8 hb, mn_ak9 hb, mn_al9 hb, g2, ltT, ltF, leT, leF, eqT, eqF, iI_add, iI_sub, iI_mul, iI_neg, iI_lt, iI_le, iI_eq, iI_toInt, tn_n, tn_1, inb_I, Int.reduceEq, Int.reduceLT, Int.reduceLE, Int.reduceAdd, Int.reduceSub, Int.reduceMul, Int.reduceNeg, Int.reduceToNat, Nat.reduceAdd, Nat.reduceMul, Int.reduceNatCast, reduceCtorEq, Int.cast_ofNat_Int, bi_tr, bi_fa, bi_0, bi_1, not_true_eq_false, not_false_eq_true, rnk_v, rnk_n, ↓reduceIte, i00, i11, ibi, or_true, true_or, and_true, true_and, List.cons_append, List.nil_append, Option.toList, nop]
      refine (a1.trans b1).trans ?_
      simp (maxSteps := 4000000) (disch := omega) only [s_X9_spread_143, s_X9_spread_146, iI_add, iI_sub, iI_mul, iI_neg, iI_lt, iI_le, iI_eq, iI_toInt, tn_n, tn_1, inb_I, Int.reduceEq, Int.reduceLT, Int.reduceLE, Int.reduceAdd, Int.reduceSub, Int.reduceMul, Int.reduceNeg, Int.reduceToNat, Nat.reduceAdd, Nat.reduceMul, Int.reduceNatCast, reduceCtorEq, Int.cast_ofNat_Int, bi_tr, bi_fa, bi_0, bi_1, not_true_eq_false, not_false_eq_true, rnk_v, rnk_n, ↓reduceIte, i00, i11, ibi, or_true, true_or, and_true, true_and, List.cons_append, List.nil_append, Option.toList, nop]
      exact hX
    · intro h
      obtain ⟨q1, q2⟩ := b5 h
      obtain ⟨q3, q4⟩ := a5 q1
      show rl2 _ _ _ _ = r
      rw [q2, q4, p4 q3]) (Nat.zero_le _) (a := (N, 0)) ⟨Or.inl rfl, hr, Sm_rf _ _, fun _ => rfl⟩
  refine ⟨N', z, e.trans ?_, h1, h2, h3, h4⟩
  have g2 : N'.1 b 2 = iI (kT K) := (Rep_o hb hR h3 (by simp)).1.2.1
  simp (maxSteps := 4000000) (disch := omega) only [s_X9_spread_47, s_X9_spread_49, s_X9_spread_50, s_X9_spread_53, s_X9_spread_56, s_X9_spread_58, s_X9_spread_60, mn_cls hb, mn_fv0 hb, mn_fv1 hb, mn_fv2 hb, mn_fv3 hb, mn_fv4 hb, mn_fv5 hb, mn_fv6 hb, mn_fv7 hb, mn_fv8 hb, mn_fv9 hb, mn_fv10 hb, mn_fv11 hb, mn_fv12 hb, mn_fv13 hb, mn_fv14 hb, mn_fv15 hb, mn_ak1 hb, mn_al1 hb, mn_ak2 hb, mn_al2 hb, mn_ak3 hb, mn_al3 hb, mn_ak4 hb, mn_al4 hb, mn_ak5 hb, mn_al5 hb, mn_ak6 hb, mn_al6 hb, mn_ak7 hb, mn_al7 hb, mn_ak8 hb, mn_al8 hb, mn_ak9 hb, mn_al9 hb, g2, leT, iI_add, iI_sub, iI_mul, iI_neg, iI_lt, iI_le, iI_eq, iI_toInt, tn_n, tn_1, inb_I, Int.reduceEq, Int.reduceLT, Int.reduceLE, Int.reduceAdd, Int.reduceSub, Int.reduceMul, Int.reduceNeg, Int.reduceToNat, Nat.reduceAdd, Nat.reduceMul, Int.reduceNatCast, reduceCtorEq, Int.cast_ofNat_Int, bi_tr, bi_fa, bi_0, bi_1, not_true_eq_false, not_false_eq_true, rnk_v, rnk_n, ↓reduceIte, i00, i11, ibi, or_true, true_or, and_true, true_and, List.cons_append, List.nil_append, Option.toList, nop]
theorem l_spread {D : Nat} (hD : 1 ≤ D) {b s : Nat} {K : tK} {G : tG} (hb : isMin b) (hI : kInv K) (hG : gI K G) (hs : s < kD K) : ∀ (m i : Nat), i + m = 8 → ∀ (N : tM) (z : Int) (x5 : Option Value) (r : Nat → Nat), Rep N b K → RepG N K G → RepR N K r → rOK K G s r → (z = 0 ∨ z = 1) → (z = 0 → ∀ d, d < kD K → r d = dG K G s d) → stl K G s r i → ∃ M', rn (exF D) C_X9_spread 31 [some (.ref 42), some (.ref b), some (.int (iI s)), some (.int (iI z)), some (.int (iI i)), x5] [] N = some (none, M') ∧ RepR M' K (dG K G s) ∧ Sm [46] N M' := by
  intro m
  have hfin : ∀ (N : tM) (r : Nat → Nat), RepR N K r → (∀ d, d < kD K → r d = dG K G s d) → RepR N K (dG K G s) := by
    intro N r h1 h2 d hd
    rw [← h2 d hd]
    exact h1 d hd
  induction m with
  | zero =>
    intro i hi N z x5 r _ _ hr _ _ _ hst
    have e8 : i = 8 := by omega
    rw [e8] at hst
    refine ⟨N, ?_, hfin N r hr (stl_8 hI hst), Sm_rf _ _⟩
    simp (maxSteps := 4000000) (disch := omega) only [s_X9_spread_0, s_X9_spread_1, s_X9_spread_4, s_X9_spread_7, s_X9_spread_10, s_X9_spread_11, s_X9_spread_12, s_X9_spread_15, s_X9_spread_18, s_X9_spread_19, s_X9_spread_20, s_X9_spread_23, s_X9_spread_24, s_X9_spread_25, s_X9_spread_26, s_X9_spread_27, s_X9_spread_28, s_X9_spread_29, s_X9_spread_31, s_X9_spread_33, s_X9_spread_35, s_X9_spread_38, s_X9_spread_39, s_X9_spread_42, s_X9_spread_43, s_X9_spread_44, s_X9_spread_45, s_X9_spread_47, s_X9_spread_49, s_X9_spread_50, s_X9_spread_53, s_X9_spread_56, s_X9_spread_58, s_X9_spread_60, s_X9_spread_63, s_X9_spread_64, s_X9_spread_67, s_X9_spread_69, s_X9_spread_70, s_X9_spread_73, s_X9_spread_74, s_X9_spread_75, s_X9_spread_78, s_X9_spread_80, s_X9_spread_81, s_X9_spread_82, s_X9_spread_85, s_X9_spread_87, s_X9_spread_88, s_X9_spread_89, s_X9_spread_92, s_X9_spread_94, s_X9_spread_95, s_X9_spread_98, s_X9_spread_101, s_X9_spread_102, s_X9_spread_103, s_X9_spread_104, s_X9_spread_107, s_X9_spread_109, s_X9_spread_110, s_X9_spread_113, s_X9_spread_114, s_X9_spread_115, s_X9_spread_118, s_X9_spread_120, s_X9_spread_121, s_X9_spread_122, s_X9_spread_125, s_X9_spread_127, s_X9_spread_128, s_X9_spread_129, s_X9_spread_132, s_X9_spread_134, s_X9_spread_135, s_X9_spread_138, s_X9_spread_141, s_X9_spread_142, s_X9_spread_143, s_X9_spread_146, s_X9_spread_149, s_X9_spread_152, s_X9_spread_155, leT, iI_add, iI_sub, iI_mul, iI_neg, iI_lt, iI_le, iI_eq, iI_toInt, tn_n, tn_1, inb_I, Int.reduceEq, Int.reduceLT, Int.reduceLE, Int.reduceAdd, Int.reduceSub, Int.reduceMul, Int.reduceNeg, Int.reduceToNat, Nat.reduceAdd, Nat.reduceMul, Int.reduceNatCast, reduceCtorEq, Int.cast_ofNat_Int, bi_tr, bi_fa, bi_0, bi_1, not_true_eq_false, not_false_eq_true, rnk_v, rnk_n, ↓reduceIte, i00, i11, ibi, or_true, true_or, and_true, true_and, List.cons_append, List.nil_append, Option.toList, nop]
  | succ m ih =>
    intro i hi N z x5 r hR hg hr hO hz hz0 hst
    rcases hz with rfl | rfl
    · refine ⟨N, ?_, hfin N r hr (hz0 rfl), Sm_rf _ _⟩
      rw [s_X9_spread_31]
      simp (maxSteps := 4000000) (disch := omega) only [s_X9_spread_0, s_X9_spread_1, s_X9_spread_4, s_X9_spread_7, s_X9_spread_10, s_X9_spread_11, s_X9_spread_12, s_X9_spread_15, s_X9_spread_18, s_X9_spread_19, s_X9_spread_20, s_X9_spread_23, s_X9_spread_24, s_X9_spread_25, s_X9_spread_26, s_X9_spread_27, s_X9_spread_28, s_X9_spread_29, s_X9_spread_33, s_X9_spread_35, s_X9_spread_38, s_X9_spread_39, s_X9_spread_42, s_X9_spread_43, s_X9_spread_44, s_X9_spread_45, s_X9_spread_47, s_X9_spread_49, s_X9_spread_50, s_X9_spread_53, s_X9_spread_56, s_X9_spread_58, s_X9_spread_60, s_X9_spread_63, s_X9_spread_64, s_X9_spread_67, s_X9_spread_69, s_X9_spread_70, s_X9_spread_73, s_X9_spread_74, s_X9_spread_75, s_X9_spread_78, s_X9_spread_80, s_X9_spread_81, s_X9_spread_82, s_X9_spread_85, s_X9_spread_87, s_X9_spread_88, s_X9_spread_89, s_X9_spread_92, s_X9_spread_94, s_X9_spread_95, s_X9_spread_98, s_X9_spread_101, s_X9_spread_102, s_X9_spread_103, s_X9_spread_104, s_X9_spread_107, s_X9_spread_109, s_X9_spread_110, s_X9_spread_113, s_X9_spread_114, s_X9_spread_115, s_X9_spread_118, s_X9_spread_120, s_X9_spread_121, s_X9_spread_122, s_X9_spread_125, s_X9_spread_127, s_X9_spread_128, s_X9_spread_129, s_X9_spread_132, s_X9_spread_134, s_X9_spread_135, s_X9_spread_138, s_X9_spread_141, s_X9_spread_142, s_X9_spread_143, s_X9_spread_146, s_X9_spread_149, s_X9_spread_152, s_X9_spread_155, leF, iI_add, iI_sub, iI_mul, iI_neg, iI_lt, iI_le, iI_eq, iI_toInt, tn_n, tn_1, inb_I, Int.reduceEq, Int.reduceLT, Int.reduceLE, Int.reduceAdd, Int.reduceSub, Int.reduceMul, Int.reduceNeg, Int.reduceToNat, Nat.reduceAdd, Nat.reduceMul, Int.reduceNatCast, reduceCtorEq, Int.cast_ofNat_Int, bi_tr, bi_fa, bi_0, bi_1, not_true_eq_false, not_false_eq_true, rnk_v, rnk_n, ↓reduceIte, i00, i11, ibi, or_true, true_or, and_true, true_and, List.cons_append, List.nil_append, Option.toList, nop]
    · obtain ⟨N1, z1, e1, e2, e3, e4, e5⟩ := l_spreadT hD hb hR hI hG hg hr (s := (s : Int)) (i := (i : Int))
      have hO1 := rlT_ok hI hs hO (kT K) (Nat.le_refl _)
      obtain ⟨M', q1, q2, q3⟩ := ih (i + 1) (by omega) N1 z1 (some (.int (iI (kT K : Int)))) _ (Rep_o hb hR e4 (by simp)) (RepG_Sm hg e4 (by simp) (by simp) (by simp)) e3 hO1 e2 (by
        intro h
        have h5 := e5 h
        rw [h5]
        exact stl_all hI hG hs hO (fun d _ => by rw [h5])) (stl_up hI hG hs hO hst)
      refine ⟨M', ?_, q2, Sm_tr e4 q3⟩
      rw [s_X9_spread_31]
      simp (maxSteps := 4000000) (disch := omega) only [s_X9_spread_33, s_X9_spread_35, s_X9_spread_38, s_X9_spread_39, s_X9_spread_42, s_X9_spread_43, s_X9_spread_44, s_X9_spread_45, leF, iI_add, iI_sub, iI_mul, iI_neg, iI_lt, iI_le, iI_eq, iI_toInt, tn_n, tn_1, inb_I, Int.reduceEq, Int.reduceLT, Int.reduceLE, Int.reduceAdd, Int.reduceSub, Int.reduceMul, Int.reduceNeg, Int.reduceToNat, Nat.reduceAdd, Nat.reduceMul, Int.reduceNatCast, reduceCtorEq, Int.cast_ofNat_Int, bi_tr, bi_fa, bi_0, bi_1, not_true_eq_false, not_false_eq_true, rnk_v, rnk_n, ↓reduceIte, i00, i11, ibi, or_true, true_or, and_true, true_and, List.cons_append, List.nil_append, Option.toList, nop]
      rw [e1]
      simp (maxSteps := 4000000) (disch := omega) only [s_X9_spread_149, s_X9_spread_152, iI_add, iI_sub, iI_mul, iI_neg, iI_lt, iI_le, iI_eq, iI_toInt, tn_n, tn_1, inb_I, Int.reduceEq, Int.reduceLT, Int.reduceLE, Int.reduceAdd, Int.reduceSub, Int.reduceMul, Int.reduceNeg, Int.reduceToNat, Nat.reduceAdd, Nat.reduceMul, Int.reduceNatCast, reduceCtorEq, Int.cast_ofNat_Int, bi_tr, bi_fa, bi_0, bi_1, not_true_eq_false, not_false_eq_true, rnk_v, rnk_n, ↓reduceIte, i00, i11, ibi, or_true, true_or, and_true, true_and, List.cons_append, List.nil_append, Option.toList, nop]
      exact q1
theorem k_X9_spread {D : Nat} (hD : 2 ≤ D) {M : tM} {b s : Nat} {K : tK} {G : tG} (hb : isMin b) (hR : Rep M b K) (hI : kInv K) (hG : gI K G) (hg : RepG M K G) (hs : s < kD K) : ∃ M', exF D m_X9_spread [.ref 42, .ref b, .int (iI s)] M = some (none, M') ∧ RepR M' K (dG K G s) ∧ Sm [46] M M' := by
  obtain ⟨D, rfl⟩ : ∃ D0, D = D0 + 1 := ⟨D - 1, by omega⟩
  have g0 := kI_n hI
  have f1 : Sm [46] M (rI M 46 (fun k => if k < 8 then iI 9999 else M.1 46 k)) := Sm_rI (by simp)
  have f2 : Sm [46] (rI M 46 (fun k => if k < 8 then iI 9999 else M.1 46 k)) (sI (rI M 46 (fun k => if k < 8 then iI 9999 else M.1 46 k)) 46 s (iI 0)) := Sm_sI (by simp)
  have f3 := Sm_tr f1 f2
  obtain ⟨M', q1, q2, q3⟩ := l_spread (D := D) (by omega) hb hI hG hs 8 0 (by omega) (sI (rI M 46 (fun k => if k < 8 then iI 9999 else M.1 46 k)) 46 s (iI 0)) 1 none (fun d => if d = s then 0 else 9999) (Rep_o hb hR f3 (by simp)) (RepG_Sm hg f3 (by simp) (by simp) (by simp)) (by
      intro d hd
      by_cases e : d = s
      · subst e; rw [sI_s]; simp
      · rw [sI_k _ _ e, rI_s]
        simp [e, show d < 8 by omega]) (by
      refine ⟨by simp, ?_⟩
      intro d hd
      have := dG_le K G s d
      by_cases e : d = s
      · subst e; simp [dG_diag]
      · simp [e, this]) (Or.inr rfl) (fun h => by omega) (stl_0 hI hG hs (by
      refine ⟨by simp, ?_⟩
      intro d hd
      have := dG_le K G s d
      by_cases e : d = s
      · subst e; simp [dG_diag]
      · simp [e, this]))
  refine ⟨M', ?_, q2, Sm_tr f3 q3⟩
  have r1 : Rep (rI M 46 (fun k => if k < 8 then iI 9999 else M.1 46 k)) b K := Rep_o hb hR f1 (by simp)
  have z1 : (0 ≤ (s : Int) ∧ (s : Int) < (kD K : Int)) := by omega
  simp (maxSteps := 4000000) (disch := omega) only [en_X9_spread, s_X9_spread_0, s_X9_spread_1, s_X9_spread_4, s_X9_spread_7, s_X9_spread_10, s_X9_spread_11, s_X9_spread_12, s_X9_spread_15, s_X9_spread_18, s_X9_spread_19, s_X9_spread_20, s_X9_spread_23, s_X9_spread_24, s_X9_spread_25, s_X9_spread_26, s_X9_spread_27, s_X9_spread_28, s_X9_spread_29, mn_cls hb, mn_fv0 hb, mn_fv1 hb, mn_fv2 hb, mn_fv3 hb, mn_fv4 hb, mn_fv5 hb, mn_fv6 hb, mn_fv7 hb, mn_fv8 hb, mn_fv9 hb, mn_fv10 hb, mn_fv11 hb, mn_fv12 hb, mn_fv13 hb, mn_fv14 hb, mn_fv15 hb, mn_ak1 hb, mn_al1 hb, mn_ak2 hb, mn_al2 hb, mn_ak3 hb, mn_al3 hb, mn_ak4 hb, mn_al4 hb, mn_ak5 hb, mn_al5 hb, mn_ak6 hb, mn_al6 hb, mn_ak7 hb, mn_al7 hb, mn_ak8 hb, mn_al8 hb, mn_ak9 hb, mn_al9 hb, cls_42, fv_42_0, fv_42_1, fv_42_2, fv_42_3, fv_42_4, fv_42_5, ak_43, al_43, ak_44, al_44, ak_45, al_45, ak_46, al_46, ak_47, al_47, ak_48, al_48, rf_48, ak_49, al_49, ak_50, al_50, ak_51, al_51, ak_52, al_52, ak_53, al_53, ak_54, al_54, ak_55, al_55, ak_56, al_56, tn_add, tn_mul, k_fillI (show _ ≤ D by omega) ak_46 al_46, k_X4_hasDesk (show _ ≤ D by omega) hb r1 hI, bi_t z1, iI_add, iI_sub, iI_mul, iI_neg, iI_lt, iI_le, iI_eq, iI_toInt, tn_n, tn_1, inb_I, Int.reduceEq, Int.reduceLT, Int.reduceLE, Int.reduceAdd, Int.reduceSub, Int.reduceMul, Int.reduceNeg, Int.reduceToNat, Nat.reduceAdd, Nat.reduceMul, Int.reduceNatCast, reduceCtorEq, Int.cast_ofNat_Int, bi_tr, bi_fa, bi_0, bi_1, not_true_eq_false, not_false_eq_true, rnk_v, rnk_n, ↓reduceIte, i00, i11, ibi, or_true, true_or, and_true, true_and, List.cons_append, List.nil_append, Option.toList, nop]
  exact q1
