/-! CUTS: THE REFERENCE pushes -/
theorem k_push {K : tK} (hI : kInv K) {c : Nat} (hc : c < kC K) {p : Int} {f : Nat → Int} (hF : fF K (gK K c p) f) {b : Nat} (hb : b < kD K) : ∀ (m D : Nat), m + 6 ≤ D → ∀ (W : Nat → Bool) (N : tM) (a : Nat), ctn (fun d => !W d) 8 ≤ m → a < kD K → W a = false → W b = false → RepN N 92 K → RepFr N K f → RepV N W → puR (exF D m_X11_push [.ref 90, .int (iI c), .int (iI a), .int (iI b), .ref 105] N) N K (gK K c p) f W a b := by
  have n0 := kI_n hI
  intro m
  induction m with
  | zero =>
    intro D hD W N a h1 h2 h3
    have := ctn_lt (p := fun _ => false) (q := fun d => !W d) (n := 8) (fun i _ hi => by cases hi) (j := a) (by omega) rfl (by simp [h3])
    omega
  | succ m ih =>
    intro D hD W N a h1 h2 h3 h4 h5 h6 h7
    obtain ⟨D, rfl⟩ : ∃ D0, D = D0 + 1 := ⟨D - 1, by omega⟩
    by_cases c0 : a = b
    · refine ⟨N, Sm_rf _ _, Or.inl ⟨?_, f, h6, hF, fun e => by rw [c0]; omega, fun _ _ _ => rfl⟩⟩
      simp (maxSteps := 4000000) (disch := omega) only [en_X11_push, s_X11_push_0, s_X11_push_1, s_X11_push_2, s_X11_push_5, s_X11_push_6, eqT (show (a : Int) = b by omega), iI_add, iI_sub, iI_mul, iI_neg, iI_lt, iI_le, iI_eq, iI_toInt, tn_n, tn_1, inb_I, Int.reduceEq, Int.reduceLT, Int.reduceLE, Int.reduceAdd, Int.reduceSub, Int.reduceMul, Int.reduceNeg, Int.reduceToNat, Nat.reduceAdd, Nat.reduceMul, Int.reduceNatCast, reduceCtorEq, Int.cast_ofNat_Int, bi_tr, bi_fa, bi_0, bi_1, not_true_eq_false, not_false_eq_true, rnk_v, rnk_n, ↓reduceIte, i00, i11, ibi, or_true, true_or, and_true, true_and, List.cons_append, List.nil_append, Option.toList, nop]
    have s0 : Sm [104, 105] N (sI N 105 a (iI 1)) := Sm_sI (by simp)
    have j0 : puJ (sI N 105 a (iI 1)) K (gK K c p) f W (zA W a) a b := by
      refine ⟨fun t ht => by rw [sI_a _ _ (by omega)]; exact h6 t ht, ?_, fun x hx => zA_mono hx, by unfold zA; rw [if_pos rfl], ?_, ?_⟩
      · intro d hd
        unfold zA
        by_cases e : d = a
        · subst e; rw [sI_s, if_pos rfl, bi_t rfl]
        · rw [sI_k _ _ e, if_neg e]; exact h7 d hd
      · unfold zA; rw [if_neg (fun x => c0 x.symm)]; exact h4
      · intro x hx
        unfold zA at hx
        by_cases e : x = a
        · exact Or.inr (Or.inl e)
        · rw [if_neg e] at hx; exact Or.inl hx
    have cnt : ∀ V1 : Nat → Bool, (∀ x, W x = true → V1 x = true) → V1 a = true → ctn (fun d => !V1 d) 8 ≤ m := by
      intro V1 g1 g2
      have := ctn_lt (p := fun d => !V1 d) (q := fun d => !W d) (n := 8) (fun i _ hi => by
        cases e : W i with
        | false => rfl
        | true => rw [g1 i e] at hi; cases hi) (j := a) (by omega) (by simp [g2]) (by simp [h3])
      omega
    have loop : ∀ (n t : Nat), t + n = kT K → ∀ (M : tM) (V1 : Nat → Bool) (x6 x7 x8 x9 x10 : Option Value), Sm [104, 105] N M → puJ M K (gK K c p) f W V1 a b → (∀ u, u < t → (kF K u = a → f u < fc ((gK K c p).2.1 u) → V1 (kO K u) = true) ∧ (kO K u = a → -f u < fc ((gK K c p).2.2 u) → V1 (kF K u) = true)) → puR (rn (exF D) C_X11_push 15 [some (.ref 90), some (.int (iI c)), some (.int (iI a)), some (.int (iI b)), some (.ref 105), some (.int (iI t)), x6, x7, x8, x9, x10] [] M) N K (gK K c p) f W a b := by
      intro n
      induction n with
      | zero =>
        intro t ht M V1 x6 x7 x8 x9 x10 s1 hJ hdn
        have et : t = kT K := by omega
        subst et
        have hR : RepN M 92 K := RepN_Sm h5 s1 (by simp)
        have r2 := hR.1.2.1
        obtain ⟨j1, j2, j3, j4, j5, j6⟩ := hJ
        refine ⟨M, s1, Or.inr ⟨?_, V1, j1, j2, j3, j4, j5, fun x hx => ?_⟩⟩
        · simp (maxSteps := 4000000) (disch := omega) only [s_X11_push_15, s_X11_push_17, s_X11_push_18, s_X11_push_21, s_X11_push_23, s_X11_push_24, s_X11_push_209, s_X11_push_210, cls_90, fv_90_0, fv_90_1, fv_90_2, fv_90_3, fv_90_4, fv_90_5, fv_90_6, fv_90_7, fv_90_8, fv_90_9, fv_90_10, fv_90_11, fv_90_12, fv_90_13, fv_90_14, fv_90_15, fv_90_16, fv_90_17, fv_90_18, fv_90_19, fv_90_20, fv_90_21, fv_90_22, fv_90_23, fv_90_24, fv_90_25, ak_91, al_91, ak_92, al_92, ak_93, al_93, ak_94, al_94, ak_95, al_95, ak_96, al_96, ak_97, al_97, ak_98, al_98, ak_99, al_99, ak_100, al_100, rf_100, ak_101, al_101, ak_102, al_102, ak_103, al_103, ak_104, al_104, ak_105, al_105, ak_106, al_106, tn_add, tn_mul, iI_long, jJ_int, r2, leT (show (kT K : Int) ≤ kT K by omega), iI_add, iI_sub, iI_mul, iI_neg, iI_lt, iI_le, iI_eq, iI_toInt, tn_n, tn_1, inb_I, Int.reduceEq, Int.reduceLT, Int.reduceLE, Int.reduceAdd, Int.reduceSub, Int.reduceMul, Int.reduceNeg, Int.reduceToNat, Nat.reduceAdd, Nat.reduceMul, Int.reduceNatCast, reduceCtorEq, Int.cast_ofNat_Int, bi_tr, bi_fa, bi_0, bi_1, not_true_eq_false, not_false_eq_true, rnk_v, rnk_n, ↓reduceIte, i00, i11, ibi, or_true, true_or, and_true, true_and, List.cons_append, List.nil_append, Option.toList, nop]
        · rcases j6 x hx with z | z | z
          · exact Or.inl z
          · subst z; exact Or.inr hdn
          · exact Or.inr z
      | succ n ihn =>
        intro t ht M V1 x6 x7 x8 x9 x10 s1 hJ hdn
        have hR : RepN M 92 K := RepN_Sm h5 s1 (by simp)
        have r2 := hR.1.2.1
        have htt : t < kT K := by omega
        have pre : rn (exF D) C_X11_push 15 [some (.ref 90), some (.int (iI c)), some (.int (iI a)), some (.int (iI b)), some (.ref 105), some (.int (iI t)), x6, x7, x8, x9, x10] [] M = rn (exF D) C_X11_push 36 [some (.ref 90), some (.int (iI c)), some (.int (iI a)), some (.int (iI b)), some (.ref 105), some (.int (iI t)), some (.int (iI 0)), x7, x8, x9, x10] [] M := by
          simp (maxSteps := 4000000) (disch := omega) only [s_X11_push_15, s_X11_push_17, s_X11_push_18, s_X11_push_21, s_X11_push_23, s_X11_push_24, s_X11_push_27, s_X11_push_28, s_X11_push_30, s_X11_push_32, s_X11_push_33, cls_90, fv_90_0, fv_90_1, fv_90_2, fv_90_3, fv_90_4, fv_90_5, fv_90_6, fv_90_7, fv_90_8, fv_90_9, fv_90_10, fv_90_11, fv_90_12, fv_90_13, fv_90_14, fv_90_15, fv_90_16, fv_90_17, fv_90_18, fv_90_19, fv_90_20, fv_90_21, fv_90_22, fv_90_23, fv_90_24, fv_90_25, ak_91, al_91, ak_92, al_92, ak_93, al_93, ak_94, al_94, ak_95, al_95, ak_96, al_96, ak_97, al_97, ak_98, al_98, ak_99, al_99, ak_100, al_100, rf_100, ak_101, al_101, ak_102, al_102, ak_103, al_103, ak_104, al_104, ak_105, al_105, ak_106, al_106, tn_add, tn_mul, iI_long, jJ_int, r2, leF (show (t : Int) < kT K by omega), iI_add, iI_sub, iI_mul, iI_neg, iI_lt, iI_le, iI_eq, iI_toInt, tn_n, tn_1, inb_I, Int.reduceEq, Int.reduceLT, Int.reduceLE, Int.reduceAdd, Int.reduceSub, Int.reduceMul, Int.reduceNeg, Int.reduceToNat, Nat.reduceAdd, Nat.reduceMul, Int.reduceNatCast, reduceCtorEq, Int.cast_ofNat_Int, bi_tr, bi_fa, bi_0, bi_1, not_true_eq_false, not_false_eq_true, rnk_v, rnk_n, ↓reduceIte, i00, i11, ibi, or_true, true_or, and_true, true_and, List.cons_append, List.nil_append, Option.toList, nop]
        rw [pre]
        rcases l_arc0 (D := D) (m := m) (by omega) hI hc hF (fun W N x g1 g2 g3 g4 g5 g6 g7 => ih D (by omega) W N x g1 g2 g3 g4 g5 g6 g7) hb h2 h3 htt hR hJ (cnt V1 hJ.2.2.1 hJ.2.2.2.1) x7 x8 x9 x10 with ⟨M1, e1, e2, e3⟩ | ⟨M1, V2, y7, y8, y9, y10, e1, e2, e3, e4, e5⟩
        · exact ⟨M1, Sm_tr s1 e3, Or.inl ⟨e1, e2⟩⟩
        rw [e1]
        have s2 := Sm_tr s1 e5
        have hR2 : RepN M1 92 K := RepN_Sm h5 s2 (by simp)
        have mid : rn (exF D) C_X11_push 197 [some (.ref 90), some (.int (iI c)), some (.int (iI a)), some (.int (iI b)), some (.ref 105), some (.int (iI t)), some (.int (iI 0)), y7, y8, y9, y10] [] M1 = rn (exF D) C_X11_push 36 [some (.ref 90), some (.int (iI c)), some (.int (iI a)), some (.int (iI b)), some (.ref 105), some (.int (iI t)), some (.int (iI 1)), y7, y8, y9, y10] [] M1 := by
          simp (maxSteps := 4000000) (disch := omega) only [s_X11_push_197, s_X11_push_200, s_X11_push_30, s_X11_push_32, s_X11_push_33, iI_add, iI_sub, iI_mul, iI_neg, iI_lt, iI_le, iI_eq, iI_toInt, tn_n, tn_1, inb_I, Int.reduceEq, Int.reduceLT, Int.reduceLE, Int.reduceAdd, Int.reduceSub, Int.reduceMul, Int.reduceNeg, Int.reduceToNat, Nat.reduceAdd, Nat.reduceMul, Int.reduceNatCast, reduceCtorEq, Int.cast_ofNat_Int, bi_tr, bi_fa, bi_0, bi_1, not_true_eq_false, not_false_eq_true, rnk_v, rnk_n, ↓reduceIte, i00, i11, ibi, or_true, true_or, and_true, true_and, List.cons_append, List.nil_append, Option.toList, nop]
        rw [mid]
        rcases l_arc1 (D := D) (m := m) (by omega) hI hc hF (fun W N x g1 g2 g3 g4 g5 g6 g7 => ih D (by omega) W N x g1 g2 g3 g4 g5 g6 g7) hb h2 h3 htt hR2 e2 (cnt V2 e2.2.2.1 e2.2.2.2.1) y7 y8 y9 y10 with ⟨M2, d1, d2, d3⟩ | ⟨M2, V3, w7, w8, w9, w10, d1, d2, d3, d4, d5⟩
        · exact ⟨M2, Sm_tr s2 d3, Or.inl ⟨d1, d2⟩⟩
        rw [d1]
        have last : rn (exF D) C_X11_push 197 [some (.ref 90), some (.int (iI c)), some (.int (iI a)), some (.int (iI b)), some (.ref 105), some (.int (iI t)), some (.int (iI 1)), w7, w8, w9, w10] [] M2 = rn (exF D) C_X11_push 15 [some (.ref 90), some (.int (iI c)), some (.int (iI a)), some (.int (iI b)), some (.ref 105), some (.int (iI (t + 1 : Nat))), some (.int (iI 2)), w7, w8, w9, w10] [] M2 := by
          simp (maxSteps := 4000000) (disch := omega) only [s_X11_push_197, s_X11_push_200, s_X11_push_203, s_X11_push_206, s_X11_push_30, s_X11_push_32, s_X11_push_33, iI_add, iI_sub, iI_mul, iI_neg, iI_lt, iI_le, iI_eq, iI_toInt, tn_n, tn_1, inb_I, Int.reduceEq, Int.reduceLT, Int.reduceLE, Int.reduceAdd, Int.reduceSub, Int.reduceMul, Int.reduceNeg, Int.reduceToNat, Nat.reduceAdd, Nat.reduceMul, Int.reduceNatCast, reduceCtorEq, Int.cast_ofNat_Int, bi_tr, bi_fa, bi_0, bi_1, not_true_eq_false, not_false_eq_true, rnk_v, rnk_n, ↓reduceIte, i00, i11, ibi, or_true, true_or, and_true, true_and, List.cons_append, List.nil_append, Option.toList, nop]
          rfl
        rw [last]
        refine ihn (t + 1) (by omega) M2 V3 _ _ _ _ _ (Sm_tr s2 d5) d2 ?_
        intro u hu
        by_cases y : u = t
        · subst y
          exact ⟨fun z1 z2 => d3 _ (e4 z1 z2), d4⟩
        · obtain ⟨z1, z2⟩ := hdn u (by omega)
          exact ⟨fun a1 a2 => d3 _ (e3 _ (z1 a1 a2)), fun a1 a2 => d3 _ (e3 _ (z2 a1 a2))⟩
    have start : exF (D + 1) m_X11_push [.ref 90, .int (iI c), .int (iI a), .int (iI b), .ref 105] N = rn (exF D) C_X11_push 15 [some (.ref 90), some (.int (iI c)), some (.int (iI a)), some (.int (iI b)), some (.ref 105), some (.int (iI (0 : Nat))), none, none, none, none, none] [] (sI N 105 a (iI 1)) := by
      simp (maxSteps := 4000000) (disch := omega) only [en_X11_push, s_X11_push_0, s_X11_push_1, s_X11_push_2, s_X11_push_5, s_X11_push_6, s_X11_push_7, s_X11_push_9, s_X11_push_10, s_X11_push_11, s_X11_push_12, s_X11_push_13, cls_90, fv_90_0, fv_90_1, fv_90_2, fv_90_3, fv_90_4, fv_90_5, fv_90_6, fv_90_7, fv_90_8, fv_90_9, fv_90_10, fv_90_11, fv_90_12, fv_90_13, fv_90_14, fv_90_15, fv_90_16, fv_90_17, fv_90_18, fv_90_19, fv_90_20, fv_90_21, fv_90_22, fv_90_23, fv_90_24, fv_90_25, ak_91, al_91, ak_92, al_92, ak_93, al_93, ak_94, al_94, ak_95, al_95, ak_96, al_96, ak_97, al_97, ak_98, al_98, ak_99, al_99, ak_100, al_100, rf_100, ak_101, al_101, ak_102, al_102, ak_103, al_103, ak_104, al_104, ak_105, al_105, ak_106, al_106, tn_add, tn_mul, iI_long, jJ_int, eqF (show ¬ (a : Int) = b by omega), iI_add, iI_sub, iI_mul, iI_neg, iI_lt, iI_le, iI_eq, iI_toInt, tn_n, tn_1, inb_I, Int.reduceEq, Int.reduceLT, Int.reduceLE, Int.reduceAdd, Int.reduceSub, Int.reduceMul, Int.reduceNeg, Int.reduceToNat, Nat.reduceAdd, Nat.reduceMul, Int.reduceNatCast, reduceCtorEq, Int.cast_ofNat_Int, bi_tr, bi_fa, bi_0, bi_1, not_true_eq_false, not_false_eq_true, rnk_v, rnk_n, ↓reduceIte, i00, i11, ibi, or_true, true_or, and_true, true_and, List.cons_append, List.nil_append, Option.toList, nop]
      try rfl
    rw [start]
    exact loop (kT K) 0 (by omega) _ (zA W a) _ _ _ _ _ s0 j0 (fun u hu => absurd hu (by omega))
theorem k_X11_pushes {D : Nat} (hD : 15 ≤ D) {M : tM} {K : tK} (hR : RepN M 92 K) (hI : kInv K) {c : Nat} (hc : c < kC K) {p : Int} {f : Nat → Int} (hF : fF K (gK K c p) f) (hf : RepFr M K f) {b : Nat} (hb : b < kD K) : puR (exF D m_X11_pushes [.ref 90, .int (iI c), .int (iI b)] M) M K (gK K c p) f (fun _ => false) (kX K c) b := by
  obtain ⟨D, rfl⟩ : ∃ D0, D = D0 + 1 := ⟨D - 1, by omega⟩
  have n0 := kI_n hI
  have g0 := kI_c hI hc
  obtain ⟨M1, a1, a2, a3⟩ := lp (f := fun i (N : tM) => rn (exF D) C_X11_pushes 2 [some (.ref 90), some (.int (iI c)), some (.int (iI b)), some (.int (iI i))] [] N) (P := fun i N => Sm [104, 105] M N ∧ (∀ t, N.1 104 t = M.1 104 t) ∧ ∀ d, d < i → N.1 105 d = iI 0) (n := 8) (by
    rintro i N hi ⟨p1, p2, p3⟩
    refine ⟨sI N 105 i (iI 0), ?_, Sm_tr p1 (Sm_sI (by simp)), fun t => by rw [sI_a _ _ (by omega)]; exact p2 t, ?_⟩
    · intro X hX
      show rn _ _ _ _ _ _ = X
      rw [s_X11_pushes_2]
      simp (maxSteps := 4000000) (disch := omega) only [s_X11_pushes_3, s_X11_pushes_5, s_X11_pushes_8, s_X11_pushes_9, s_X11_pushes_12, s_X11_pushes_13, s_X11_pushes_14, s_X11_pushes_15, s_X11_pushes_18, cls_90, fv_90_0, fv_90_1, fv_90_2, fv_90_3, fv_90_4, fv_90_5, fv_90_6, fv_90_7, fv_90_8, fv_90_9, fv_90_10, fv_90_11, fv_90_12, fv_90_13, fv_90_14, fv_90_15, fv_90_16, fv_90_17, fv_90_18, fv_90_19, fv_90_20, fv_90_21, fv_90_22, fv_90_23, fv_90_24, fv_90_25, ak_91, al_91, ak_92, al_92, ak_93, al_93, ak_94, al_94, ak_95, al_95, ak_96, al_96, ak_97, al_97, ak_98, al_98, ak_99, al_99, ak_100, al_100, rf_100, ak_101, al_101, ak_102, al_102, ak_103, al_103, ak_104, al_104, ak_105, al_105, ak_106, al_106, tn_add, tn_mul, iI_long, jJ_int, leF (show (i : Int) < 8 by omega), iI_add, iI_sub, iI_mul, iI_neg, iI_lt, iI_le, iI_eq, iI_toInt, tn_n, tn_1, inb_I, Int.reduceEq, Int.reduceLT, Int.reduceLE, Int.reduceAdd, Int.reduceSub, Int.reduceMul, Int.reduceNeg, Int.reduceToNat, Nat.reduceAdd, Nat.reduceMul, Int.reduceNatCast, reduceCtorEq, Int.cast_ofNat_Int, bi_tr, bi_fa, bi_0, bi_1, not_true_eq_false, not_false_eq_true, rnk_v, rnk_n, ↓reduceIte, i00, i11, ibi, or_true, true_or, and_true, true_and, List.cons_append, List.nil_append, Option.toList, nop]
      exact hX
    · intro d hd
      by_cases y : d = i
      · subst y; rw [sI_s]
      · rw [sI_k _ _ y]; exact p3 d (by omega)) (Nat.zero_le _) (a := M) ⟨Sm_rf _ _, fun _ => rfl, fun d hd => absurd hd (by omega)⟩
  obtain ⟨a3, a4⟩ := a3
  have hR1 : RepN M1 92 K := RepN_Sm hR a2 (by simp)
  have m1 := k_X11_at (D := D) (by omega) hR1 hI hc
  obtain ⟨M2, b1, b2⟩ := k_push hI hc hF hb 8 D (by omega) (fun _ => false) M1 (kX K c) (ctn_le _ _) g0.2.2.2 rfl rfl hR1 (fun t ht => by rw [a3]; exact hf t ht) (fun d hd => by rw [a4 d hd, bi_f (by simp)])
  have pre : ∀ z, exF D m_X11_push [.ref 90, .int (iI c), .int (iI (kX K c)), .int (iI b), .ref 105] M1 = some (some (.int (iI z)), M2) → (z = 0 ∨ z = 1) → exF (D + 1) m_X11_pushes [.ref 90, .int (iI c), .int (iI b)] M = some (some (.int (iI z)), M2) := by
    intro z hz h01
    have : rn (exF D) C_X11_pushes 2 [some (.ref 90), some (.int (iI c)), some (.int (iI b)), some (.int (iI (8 : Nat)))] [] M1 = some (some (.int (iI z)), M2) := by
      rcases h01 with rfl | rfl
      · simp (maxSteps := 4000000) (disch := omega) only [s_X11_pushes_2, s_X11_pushes_3, s_X11_pushes_5, s_X11_pushes_21, s_X11_pushes_22, s_X11_pushes_23, s_X11_pushes_24, s_X11_pushes_25, s_X11_pushes_28, s_X11_pushes_29, s_X11_pushes_30, s_X11_pushes_33, s_X11_pushes_36, cls_90, fv_90_0, fv_90_1, fv_90_2, fv_90_3, fv_90_4, fv_90_5, fv_90_6, fv_90_7, fv_90_8, fv_90_9, fv_90_10, fv_90_11, fv_90_12, fv_90_13, fv_90_14, fv_90_15, fv_90_16, fv_90_17, fv_90_18, fv_90_19, fv_90_20, fv_90_21, fv_90_22, fv_90_23, fv_90_24, fv_90_25, ak_91, al_91, ak_92, al_92, ak_93, al_93, ak_94, al_94, ak_95, al_95, ak_96, al_96, ak_97, al_97, ak_98, al_98, ak_99, al_99, ak_100, al_100, rf_100, ak_101, al_101, ak_102, al_102, ak_103, al_103, ak_104, al_104, ak_105, al_105, ak_106, al_106, tn_add, tn_mul, iI_long, jJ_int, m1, hz, iI_add, iI_sub, iI_mul, iI_neg, iI_lt, iI_le, iI_eq, iI_toInt, tn_n, tn_1, inb_I, Int.reduceEq, Int.reduceLT, Int.reduceLE, Int.reduceAdd, Int.reduceSub, Int.reduceMul, Int.reduceNeg, Int.reduceToNat, Nat.reduceAdd, Nat.reduceMul, Int.reduceNatCast, reduceCtorEq, Int.cast_ofNat_Int, bi_tr, bi_fa, bi_0, bi_1, not_true_eq_false, not_false_eq_true, rnk_v, rnk_n, ↓reduceIte, i00, i11, ibi, or_true, true_or, and_true, true_and, List.cons_append, List.nil_append, Option.toList, nop]
      · simp (maxSteps := 4000000) (disch := omega) only [s_X11_pushes_2, s_X11_pushes_3, s_X11_pushes_5, s_X11_pushes_21, s_X11_pushes_22, s_X11_pushes_23, s_X11_pushes_24, s_X11_pushes_25, s_X11_pushes_28, s_X11_pushes_29, s_X11_pushes_30, s_X11_pushes_33, s_X11_pushes_36, cls_90, fv_90_0, fv_90_1, fv_90_2, fv_90_3, fv_90_4, fv_90_5, fv_90_6, fv_90_7, fv_90_8, fv_90_9, fv_90_10, fv_90_11, fv_90_12, fv_90_13, fv_90_14, fv_90_15, fv_90_16, fv_90_17, fv_90_18, fv_90_19, fv_90_20, fv_90_21, fv_90_22, fv_90_23, fv_90_24, fv_90_25, ak_91, al_91, ak_92, al_92, ak_93, al_93, ak_94, al_94, ak_95, al_95, ak_96, al_96, ak_97, al_97, ak_98, al_98, ak_99, al_99, ak_100, al_100, rf_100, ak_101, al_101, ak_102, al_102, ak_103, al_103, ak_104, al_104, ak_105, al_105, ak_106, al_106, tn_add, tn_mul, iI_long, jJ_int, m1, hz, iI_add, iI_sub, iI_mul, iI_neg, iI_lt, iI_le, iI_eq, iI_toInt, tn_n, tn_1, inb_I, Int.reduceEq, Int.reduceLT, Int.reduceLE, Int.reduceAdd, Int.reduceSub, Int.reduceMul, Int.reduceNeg, Int.reduceToNat, Nat.reduceAdd, Nat.reduceMul, Int.reduceNatCast, reduceCtorEq, Int.cast_ofNat_Int, bi_tr, bi_fa, bi_0, bi_1, not_true_eq_false, not_false_eq_true, rnk_v, rnk_n, ↓reduceIte, i00, i11, ibi, or_true, true_or, and_true, true_and, List.cons_append, List.nil_append, Option.toList, nop]
    rw [← this]
    simp (maxSteps := 4000000) (disch := omega) only [en_X11_pushes, s_X11_pushes_0, s_X11_pushes_1, iI_add, iI_sub, iI_mul, iI_neg, iI_lt, iI_le, iI_eq, iI_toInt, tn_n, tn_1, inb_I, Int.reduceEq, Int.reduceLT, Int.reduceLE, Int.reduceAdd, Int.reduceSub, Int.reduceMul, Int.reduceNeg, Int.reduceToNat, Nat.reduceAdd, Nat.reduceMul, Int.reduceNatCast, reduceCtorEq, Int.cast_ofNat_Int, bi_tr, bi_fa, bi_0, bi_1, not_true_eq_false, not_false_eq_true, rnk_v, rnk_n, ↓reduceIte, i00, i11, ibi, or_true, true_or, and_true, true_and, List.cons_append, List.nil_append, Option.toList, nop]
    exact a1
  rcases b2 with ⟨e, h⟩ | ⟨e, h⟩
  · exact ⟨M2, Sm_tr a2 b1, Or.inl ⟨pre 1 e (Or.inr rfl), h⟩⟩
  · exact ⟨M2, Sm_tr a2 b1, Or.inr ⟨pre 0 e (Or.inl rfl), h⟩⟩
