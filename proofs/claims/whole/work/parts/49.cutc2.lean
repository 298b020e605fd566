/-! CUTS: THE CLASS finds a way -/
def RepFl (M : tM) (K : tK) (f : Nat → Int) : Prop := ∀ t, t < kT K → M.1 60 t = iI (f t)
theorem zA_id {Z : Nat → Bool} {d : Nat} (h : Z d = true) : zA Z d = Z := by
  funext i
  unfold zA
  by_cases e : i = d
  · rw [if_pos e, e, h]
  · rw [if_neg e]
def pth (K : tK) (H : tG) (s : Nat) (Z : Nat → Bool) (cb rk : Nat → Nat) (k : Nat) : Prop := Z s = true ∧ k ≤ ctn Z 8 ∧ (∀ d, Z d = true → d < kD K ∧ rk d < k) ∧ ∀ d, Z d = true → d ≠ s → cb d < kT K ∧ ((H.2.1 (cb d) = true ∧ kO K (cb d) = d ∧ Z (kF K (cb d)) = true ∧ rk (kF K (cb d)) < rk d) ∨ (H.2.2 (cb d) = true ∧ kF K (cb d) = d ∧ Z (kO K (cb d)) = true ∧ rk (kO K (cb d)) < rk d))
def PT (M : tM) (K : tK) (H : tG) (s : Nat) (Z : Nat → Bool) : Prop := ∃ cb rk k, pth K H s Z cb rk k ∧ ∀ d, Z d = true → d ≠ s → M.1 61 d = iI (cb d)
theorem PT_add {M : tM} {K : tK} {H : tG} {s t v : Nat} {Z : Nat → Bool} (hI : kInv K) (ht : t < kT K) (h : PT M K H s Z) (hv : Z v = false) (hc : (H.2.1 t = true ∧ kO K t = v ∧ Z (kF K t) = true) ∨ (H.2.2 t = true ∧ kF K t = v ∧ Z (kO K t) = true)) : PT (sI M 61 v (iI t)) K H s (zA Z v) := by
  have n0 := kI_n hI
  have g := kI_t hI ht
  obtain ⟨cb, rk, k, ⟨h1, h2, h3, h4⟩, h5⟩ := h
  have hv8 : v < kD K := by
    rcases hc with ⟨-, e, -⟩ | ⟨-, e, -⟩
    · rw [← e]; exact g.1.2.1
    · rw [← e]; exact g.1.1
  have hne : ∀ x, Z x = true → ¬ x = v := fun x hx e => by rw [e, hv] at hx; cases hx
  refine ⟨fun d => if d = v then t else cb d, fun d => if d = v then k else rk d, k + 1, ⟨zA_mono h1, ?_, ?_, ?_⟩, ?_⟩
  · have := ctn_lt (p := Z) (q := zA Z v) (n := 8) (fun i _ hi => zA_mono hi) (j := v) (by omega) hv (by unfold zA; rw [if_pos rfl])
    omega
  · intro d hd
    dsimp only
    unfold zA at hd
    by_cases e : d = v
    · subst e; rw [if_pos rfl]; exact ⟨hv8, by omega⟩
    · rw [if_neg e] at *
      have := h3 d hd
      exact ⟨this.1, by omega⟩
  · intro d hd hs
    dsimp only
    unfold zA at hd
    by_cases e : d = v
    · subst e
      rw [if_pos rfl, if_pos rfl]
      refine ⟨ht, ?_⟩
      rcases hc with ⟨c1, c2, c3⟩ | ⟨c1, c2, c3⟩
      · refine Or.inl ⟨c1, c2, zA_mono c3, ?_⟩
        rw [if_neg (hne _ c3)]
        exact (h3 _ c3).2
      · refine Or.inr ⟨c1, c2, zA_mono c3, ?_⟩
        rw [if_neg (hne _ c3)]
        exact (h3 _ c3).2
    · rw [if_neg e] at hd
      rw [if_neg e, if_neg e]
      obtain ⟨a1, a2⟩ := h4 d hd hs
      refine ⟨a1, ?_⟩
      rcases a2 with ⟨c1, c2, c3, c4⟩ | ⟨c1, c2, c3, c4⟩
      · refine Or.inl ⟨c1, c2, zA_mono c3, ?_⟩
        rw [if_neg (hne _ c3)]; exact c4
      · refine Or.inr ⟨c1, c2, zA_mono c3, ?_⟩
        rw [if_neg (hne _ c3)]; exact c4
  · intro d hd hs
    dsimp only
    unfold zA at hd
    by_cases e : d = v
    · subst e; rw [sI_s, if_pos rfl]
    · rw [if_neg e] at *
      rw [sI_k _ _ e]; exact h5 d hd hs
theorem k_X0_comeBy {D : Nat} (hD : 2 ≤ D) {M : tM} {t d : Nat} (hd : d < 8) : exF D m_X0_comeBy [.ref 59, .int (iI t), .int (iI d)] M = some (some (.int (iI 1 <<< (iI (d : Int) &&& 31))), sI M 61 d (iI t)) := by
  obtain ⟨D, rfl⟩ : ∃ D0, D = D0 + 1 := ⟨D - 1, by omega⟩
  simp (maxSteps := 4000000) (disch := omega) only [en_X0_comeBy, s_X0_comeBy_0, s_X0_comeBy_1, s_X0_comeBy_4, s_X0_comeBy_7, s_X0_comeBy_8, s_X0_comeBy_9, s_X0_comeBy_10, s_X0_comeBy_13, s_X0_comeBy_14, s_X0_comeBy_15, s_X0_comeBy_16, s_X0_comeBy_17, s_X0_comeBy_18, s_X0_comeBy_19, cls_59, fv_59_0, fv_59_1, ak_60, al_60, ak_61, al_61, k_isDN (D := D) (show _ ≤ D by omega), iI_add, iI_sub, iI_mul, iI_neg, iI_lt, iI_le, iI_eq, iI_toInt, tn_n, tn_1, inb_I, Int.reduceEq, Int.reduceLT, Int.reduceLE, Int.reduceAdd, Int.reduceSub, Int.reduceMul, Int.reduceNeg, Int.reduceToNat, Nat.reduceAdd, Nat.reduceMul, Int.reduceNatCast, reduceCtorEq, Int.cast_ofNat_Int, bi_tr, bi_fa, bi_0, bi_1, not_true_eq_false, not_false_eq_true, rnk_v, rnk_n, ↓reduceIte, i00, i11, ibi, or_true, true_or, and_true, true_and, List.cons_append, List.nil_append, Option.toList, nop]
theorem l_fw1 {D : Nat} (hD : 2 ≤ D) {M : tM} {K : tK} {G : tG} (hR : Rep M 0 K) (hI : kInv K) (hg : RepG M K G) {f : Nat → Int} (hf : RepFl M K f) (hF : fF K G f) {Z : Nat → Bool} {t s g i : Nat} (ht : t < kT K) (hP : PT M K (rG G f) s Z) (x8 x9 : Option Value) : ∃ M' x8' x9', rn (exF D) C_X0_findWay 42 [some (.ref 59), some (.ref 0), some (.ref 42), some (.int (iI s)), some (.int (iI g)), some (.int (iI (bts Z 8 : Nat))), some (.int (iI i)), some (.int (iI t)), x8, x9] [] M = rn (exF D) C_X0_findWay 196 [some (.ref 59), some (.ref 0), some (.ref 42), some (.int (iI s)), some (.int (iI g)), some (.int (iI (bts (z2 K (rG G f) t (z1 K (rG G f) t Z)) 8 : Nat))), some (.int (iI i)), some (.int (iI t)), x8', x9'] [] M' ∧ PT M' K (rG G f) s (z2 K (rG G f) t (z1 K (rG G f) t Z)) ∧ Sm [61] M M' := by
  have n0 := kI_n hI
  have g1 := kI_t hI ht
  obtain ⟨f1, f2, f3, f4⟩ := R0_t hR ht
  obtain ⟨q0, q1, q2⟩ := hg t ht
  have v0 := hf t ht
  obtain ⟨v1, v2⟩ := hF t ht
  have hF8 : kF K t < 8 := by omega
  have hO8 : kO K t < 8 := by omega
  have hr1 : (rG G f).2.1 t = decide (f t < fc (G.2.1 t)) := rfl
  have hr2 : (rG G f).2.2 t = decide (-f t < fc (G.2.2 t)) := rfl
  have fc1 : 0 ≤ fc (G.2.1 t) ∧ fc (G.2.1 t) ≤ 1 := by unfold fc; split <;> omega
  have fc2 : 0 ≤ fc (G.2.2 t) ∧ fc (G.2.2 t) ≤ 1 := by unfold fc; split <;> omega
  cases a : Z (kF K t) <;> cases b : Z (kO K t)
  · have e : z2 K (rG G f) t (z1 K (rG G f) t Z) = Z := by
      have e1 : z1 K (rG G f) t Z = Z := by unfold z1; rw [a, if_neg (by simp)]
      rw [e1]; unfold z2; rw [b, if_neg (by simp)]
    rw [e]
    refine ⟨M, some (.int (iI 0)), some (.int (iI 0)), ?_, hP, Sm_rf _ _⟩
    simp (maxSteps := 4000000) (disch := omega) only [s_X0_findWay_42, s_X0_findWay_44, s_X0_findWay_45, s_X0_findWay_46, s_X0_findWay_49, s_X0_findWay_51, s_X0_findWay_52, s_X0_findWay_53, s_X0_findWay_54, s_X0_findWay_57, s_X0_findWay_58, s_X0_findWay_61, s_X0_findWay_62, s_X0_findWay_64, s_X0_findWay_66, s_X0_findWay_67, s_X0_findWay_68, s_X0_findWay_71, s_X0_findWay_73, s_X0_findWay_74, s_X0_findWay_75, s_X0_findWay_76, s_X0_findWay_79, s_X0_findWay_80, s_X0_findWay_83, s_X0_findWay_84, s_X0_findWay_86, s_X0_findWay_88, s_X0_findWay_91, s_X0_findWay_93, s_X0_findWay_96, s_X0_findWay_97, s_X0_findWay_100, s_X0_findWay_102, s_X0_findWay_103, s_X0_findWay_104, s_X0_findWay_107, s_X0_findWay_109, s_X0_findWay_110, s_X0_findWay_113, s_X0_findWay_114, s_X0_findWay_117, s_X0_findWay_118, s_X0_findWay_121, s_X0_findWay_123, s_X0_findWay_124, s_X0_findWay_126, s_X0_findWay_127, s_X0_findWay_130, s_X0_findWay_132, s_X0_findWay_133, s_X0_findWay_136, s_X0_findWay_137, s_X0_findWay_139, s_X0_findWay_142, s_X0_findWay_144, s_X0_findWay_147, s_X0_findWay_149, s_X0_findWay_152, s_X0_findWay_153, s_X0_findWay_156, s_X0_findWay_158, s_X0_findWay_159, s_X0_findWay_160, s_X0_findWay_161, s_X0_findWay_164, s_X0_findWay_166, s_X0_findWay_167, s_X0_findWay_170, s_X0_findWay_171, s_X0_findWay_174, s_X0_findWay_175, s_X0_findWay_178, s_X0_findWay_180, s_X0_findWay_181, s_X0_findWay_183, s_X0_findWay_184, s_X0_findWay_187, s_X0_findWay_189, s_X0_findWay_190, s_X0_findWay_193, s_X0_findWay_194, cls_59, fv_59_0, fv_59_1, ak_60, al_60, ak_61, al_61, cls_42, fv_42_0, fv_42_1, fv_42_2, fv_42_3, fv_42_4, fv_42_5, ak_43, al_43, ak_44, al_44, ak_45, al_45, cls_0, fv_0_0, fv_0_1, fv_0_2, fv_0_3, fv_0_4, fv_0_5, fv_0_6, fv_0_7, fv_0_8, fv_0_9, fv_0_10, fv_0_11, fv_0_12, fv_0_13, fv_0_14, fv_0_15, ak_1, al_1, ak_2, al_2, ak_3, al_3, f1, f2, se_bit hF8, se_bit hO8, a, b, iI_add, iI_sub, iI_mul, iI_neg, iI_lt, iI_le, iI_eq, iI_toInt, tn_n, tn_1, inb_I, Int.reduceEq, Int.reduceLT, Int.reduceLE, Int.reduceAdd, Int.reduceSub, Int.reduceMul, Int.reduceNeg, Int.reduceToNat, Nat.reduceAdd, Nat.reduceMul, Int.reduceNatCast, reduceCtorEq, Int.cast_ofNat_Int, bi_tr, bi_fa, bi_0, bi_1, not_true_eq_false, not_false_eq_true, rnk_v, rnk_n, ↓reduceIte, i00, i11, ibi, or_true, true_or, and_true, true_and, List.cons_append, List.nil_append, Option.toList, nop]
  · have e1 : z1 K (rG G f) t Z = Z := by unfold z1; rw [a, if_neg (by simp)]
    rw [e1]
    by_cases c : -f t < fc (G.2.2 t)
    · have e : z2 K (rG G f) t Z = zA Z (kF K t) := by unfold z2; rw [hr2, decide_eq_true c, b, if_pos (show (true && true) = true from rfl)]
      rw [e]
      refine ⟨sI M 61 (kF K t) (iI t), some (.int (iI 0)), some (.int (iI 1)), ?_, PT_add hI ht hP a (Or.inr ⟨by rw [hr2]; exact decide_eq_true c, rfl, b⟩), Sm_sI (by simp)⟩
      by_cases d : G.2.2 t = true
      · rw [bi_t d] at q2
        have c' : -f t < 1 := by unfold fc at c; rwa [if_pos d] at c
        simp (maxSteps := 4000000) (disch := omega) only [s_X0_findWay_42, s_X0_findWay_44, s_X0_findWay_45, s_X0_findWay_46, s_X0_findWay_49, s_X0_findWay_51, s_X0_findWay_52, s_X0_findWay_53, s_X0_findWay_54, s_X0_findWay_57, s_X0_findWay_58, s_X0_findWay_61, s_X0_findWay_62, s_X0_findWay_64, s_X0_findWay_66, s_X0_findWay_67, s_X0_findWay_68, s_X0_findWay_71, s_X0_findWay_73, s_X0_findWay_74, s_X0_findWay_75, s_X0_findWay_76, s_X0_findWay_79, s_X0_findWay_80, s_X0_findWay_83, s_X0_findWay_84, s_X0_findWay_86, s_X0_findWay_88, s_X0_findWay_91, s_X0_findWay_93, s_X0_findWay_96, s_X0_findWay_97, s_X0_findWay_100, s_X0_findWay_102, s_X0_findWay_103, s_X0_findWay_104, s_X0_findWay_107, s_X0_findWay_109, s_X0_findWay_110, s_X0_findWay_113, s_X0_findWay_114, s_X0_findWay_117, s_X0_findWay_118, s_X0_findWay_121, s_X0_findWay_123, s_X0_findWay_124, s_X0_findWay_126, s_X0_findWay_127, s_X0_findWay_130, s_X0_findWay_132, s_X0_findWay_133, s_X0_findWay_136, s_X0_findWay_137, s_X0_findWay_139, s_X0_findWay_142, s_X0_findWay_144, s_X0_findWay_147, s_X0_findWay_149, s_X0_findWay_152, s_X0_findWay_153, s_X0_findWay_156, s_X0_findWay_158, s_X0_findWay_159, s_X0_findWay_160, s_X0_findWay_161, s_X0_findWay_164, s_X0_findWay_166, s_X0_findWay_167, s_X0_findWay_170, s_X0_findWay_171, s_X0_findWay_174, s_X0_findWay_175, s_X0_findWay_178, s_X0_findWay_180, s_X0_findWay_181, s_X0_findWay_183, s_X0_findWay_184, s_X0_findWay_187, s_X0_findWay_189, s_X0_findWay_190, s_X0_findWay_193, s_X0_findWay_194, cls_59, fv_59_0, fv_59_1, ak_60, al_60, ak_61, al_61, cls_42, fv_42_0, fv_42_1, fv_42_2, fv_42_3, fv_42_4, fv_42_5, ak_43, al_43, ak_44, al_44, ak_45, al_45, cls_0, fv_0_0, fv_0_1, fv_0_2, fv_0_3, fv_0_4, fv_0_5, fv_0_6, fv_0_7, fv_0_8, fv_0_9, fv_0_10, fv_0_11, fv_0_12, fv_0_13, fv_0_14, fv_0_15, ak_1, al_1, ak_2, al_2, ak_3, al_3, f1, f2, v0, q2, se_bit hF8, se_bit hO8, se_or hF8, k_X0_comeBy (D := D) (show _ ≤ D by omega), a, b, leF c', ltT c', iI_add, iI_sub, iI_mul, iI_neg, iI_lt, iI_le, iI_eq, iI_toInt, tn_n, tn_1, inb_I, Int.reduceEq, Int.reduceLT, Int.reduceLE, Int.reduceAdd, Int.reduceSub, Int.reduceMul, Int.reduceNeg, Int.reduceToNat, Nat.reduceAdd, Nat.reduceMul, Int.reduceNatCast, reduceCtorEq, Int.cast_ofNat_Int, bi_tr, bi_fa, bi_0, bi_1, not_true_eq_false, not_false_eq_true, rnk_v, rnk_n, ↓reduceIte, i00, i11, ibi, or_true, true_or, and_true, true_and, List.cons_append, List.nil_append, Option.toList, nop]
      · rw [bi_f d] at q2
        have c' : -f t < 0 := by unfold fc at c; rwa [if_neg d] at c
        simp (maxSteps := 4000000) (disch := omega) only [s_X0_findWay_42, s_X0_findWay_44, s_X0_findWay_45, s_X0_findWay_46, s_X0_findWay_49, s_X0_findWay_51, s_X0_findWay_52, s_X0_findWay_53, s_X0_findWay_54, s_X0_findWay_57, s_X0_findWay_58, s_X0_findWay_61, s_X0_findWay_62, s_X0_findWay_64, s_X0_findWay_66, s_X0_findWay_67, s_X0_findWay_68, s_X0_findWay_71, s_X0_findWay_73, s_X0_findWay_74, s_X0_findWay_75, s_X0_findWay_76, s_X0_findWay_79, s_X0_findWay_80, s_X0_findWay_83, s_X0_findWay_84, s_X0_findWay_86, s_X0_findWay_88, s_X0_findWay_91, s_X0_findWay_93, s_X0_findWay_96, s_X0_findWay_97, s_X0_findWay_100, s_X0_findWay_102, s_X0_findWay_103, s_X0_findWay_104, s_X0_findWay_107, s_X0_findWay_109, s_X0_findWay_110, s_X0_findWay_113, s_X0_findWay_114, s_X0_findWay_117, s_X0_findWay_118, s_X0_findWay_121, s_X0_findWay_123, s_X0_findWay_124, s_X0_findWay_126, s_X0_findWay_127, s_X0_findWay_130, s_X0_findWay_132, s_X0_findWay_133, s_X0_findWay_136, s_X0_findWay_137, s_X0_findWay_139, s_X0_findWay_142, s_X0_findWay_144, s_X0_findWay_147, s_X0_findWay_149, s_X0_findWay_152, s_X0_findWay_153, s_X0_findWay_156, s_X0_findWay_158, s_X0_findWay_159, s_X0_findWay_160, s_X0_findWay_161, s_X0_findWay_164, s_X0_findWay_166, s_X0_findWay_167, s_X0_findWay_170, s_X0_findWay_171, s_X0_findWay_174, s_X0_findWay_175, s_X0_findWay_178, s_X0_findWay_180, s_X0_findWay_181, s_X0_findWay_183, s_X0_findWay_184, s_X0_findWay_187, s_X0_findWay_189, s_X0_findWay_190, s_X0_findWay_193, s_X0_findWay_194, cls_59, fv_59_0, fv_59_1, ak_60, al_60, ak_61, al_61, cls_42, fv_42_0, fv_42_1, fv_42_2, fv_42_3, fv_42_4, fv_42_5, ak_43, al_43, ak_44, al_44, ak_45, al_45, cls_0, fv_0_0, fv_0_1, fv_0_2, fv_0_3, fv_0_4, fv_0_5, fv_0_6, fv_0_7, fv_0_8, fv_0_9, fv_0_10, fv_0_11, fv_0_12, fv_0_13, fv_0_14, fv_0_15, ak_1, al_1, ak_2, al_2, ak_3, al_3, f1, f2, v0, q2, se_bit hF8, se_bit hO8, se_or hF8, k_X0_comeBy (D := D) (show _ ≤ D by omega), a, b, leF c', ltT c', iI_add, iI_sub, iI_mul, iI_neg, iI_lt, iI_le, iI_eq, iI_toInt, tn_n, tn_1, inb_I, Int.reduceEq, Int.reduceLT, Int.reduceLE, Int.reduceAdd, Int.reduceSub, Int.reduceMul, Int.reduceNeg, Int.reduceToNat, Nat.reduceAdd, Nat.reduceMul, Int.reduceNatCast, reduceCtorEq, Int.cast_ofNat_Int, bi_tr, bi_fa, bi_0, bi_1, not_true_eq_false, not_false_eq_true, rnk_v, rnk_n, ↓reduceIte, i00, i11, ibi, or_true, true_or, and_true, true_and, List.cons_append, List.nil_append, Option.toList, nop]
    · have e : z2 K (rG G f) t Z = Z := by unfold z2; rw [hr2, decide_eq_false c, if_neg (by simp)]
      rw [e]
      refine ⟨M, some (.int (iI 0)), some (.int (iI 1)), ?_, hP, Sm_rf _ _⟩
      by_cases d : G.2.2 t = true
      · rw [bi_t d] at q2
        have c' : 1 ≤ -f t := by unfold fc at c; rw [if_pos d] at c; omega
        simp (maxSteps := 4000000) (disch := omega) only [s_X0_findWay_42, s_X0_findWay_44, s_X0_findWay_45, s_X0_findWay_46, s_X0_findWay_49, s_X0_findWay_51, s_X0_findWay_52, s_X0_findWay_53, s_X0_findWay_54, s_X0_findWay_57, s_X0_findWay_58, s_X0_findWay_61, s_X0_findWay_62, s_X0_findWay_64, s_X0_findWay_66, s_X0_findWay_67, s_X0_findWay_68, s_X0_findWay_71, s_X0_findWay_73, s_X0_findWay_74, s_X0_findWay_75, s_X0_findWay_76, s_X0_findWay_79, s_X0_findWay_80, s_X0_findWay_83, s_X0_findWay_84, s_X0_findWay_86, s_X0_findWay_88, s_X0_findWay_91, s_X0_findWay_93, s_X0_findWay_96, s_X0_findWay_97, s_X0_findWay_100, s_X0_findWay_102, s_X0_findWay_103, s_X0_findWay_104, s_X0_findWay_107, s_X0_findWay_109, s_X0_findWay_110, s_X0_findWay_113, s_X0_findWay_114, s_X0_findWay_117, s_X0_findWay_118, s_X0_findWay_121, s_X0_findWay_123, s_X0_findWay_124, s_X0_findWay_126, s_X0_findWay_127, s_X0_findWay_130, s_X0_findWay_132, s_X0_findWay_133, s_X0_findWay_136, s_X0_findWay_137, s_X0_findWay_139, s_X0_findWay_142, s_X0_findWay_144, s_X0_findWay_147, s_X0_findWay_149, s_X0_findWay_152, s_X0_findWay_153, s_X0_findWay_156, s_X0_findWay_158, s_X0_findWay_159, s_X0_findWay_160, s_X0_findWay_161, s_X0_findWay_164, s_X0_findWay_166, s_X0_findWay_167, s_X0_findWay_170, s_X0_findWay_171, s_X0_findWay_174, s_X0_findWay_175, s_X0_findWay_178, s_X0_findWay_180, s_X0_findWay_181, s_X0_findWay_183, s_X0_findWay_184, s_X0_findWay_187, s_X0_findWay_189, s_X0_findWay_190, s_X0_findWay_193, s_X0_findWay_194, cls_59, fv_59_0, fv_59_1, ak_60, al_60, ak_61, al_61, cls_42, fv_42_0, fv_42_1, fv_42_2, fv_42_3, fv_42_4, fv_42_5, ak_43, al_43, ak_44, al_44, ak_45, al_45, cls_0, fv_0_0, fv_0_1, fv_0_2, fv_0_3, fv_0_4, fv_0_5, fv_0_6, fv_0_7, fv_0_8, fv_0_9, fv_0_10, fv_0_11, fv_0_12, fv_0_13, fv_0_14, fv_0_15, ak_1, al_1, ak_2, al_2, ak_3, al_3, f1, f2, v0, q2, se_bit hF8, se_bit hO8, a, b, leT c', ltF c', iI_add, iI_sub, iI_mul, iI_neg, iI_lt, iI_le, iI_eq, iI_toInt, tn_n, tn_1, inb_I, Int.reduceEq, Int.reduceLT, Int.reduceLE, Int.reduceAdd, Int.reduceSub, Int.reduceMul, Int.reduceNeg, Int.reduceToNat, Nat.reduceAdd, Nat.reduceMul, Int.reduceNatCast, reduceCtorEq, Int.cast_ofNat_Int, bi_tr, bi_fa, bi_0, bi_1, not_true_eq_false, not_false_eq_true, rnk_v, rnk_n, ↓reduceIte, i00, i11, ibi, or_true, true_or, and_true, true_and, List.cons_append, List.nil_append, Option.toList, nop]
      · rw [bi_f d] at q2
        have c' : 0 ≤ -f t := by unfold fc at c; rw [if_neg d] at c; omega
        simp (maxSteps := 4000000) (disch := omega) only [s_X0_findWay_42, s_X0_findWay_44, s_X0_findWay_45, s_X0_findWay_46, s_X0_findWay_49, s_X0_findWay_51, s_X0_findWay_52, s_X0_findWay_53, s_X0_findWay_54, s_X0_findWay_57, s_X0_findWay_58, s_X0_findWay_61, s_X0_findWay_62, s_X0_findWay_64, s_X0_findWay_66, s_X0_findWay_67, s_X0_findWay_68, s_X0_findWay_71, s_X0_findWay_73, s_X0_findWay_74, s_X0_findWay_75, s_X0_findWay_76, s_X0_findWay_79, s_X0_findWay_80, s_X0_findWay_83, s_X0_findWay_84, s_X0_findWay_86, s_X0_findWay_88, s_X0_findWay_91, s_X0_findWay_93, s_X0_findWay_96, s_X0_findWay_97, s_X0_findWay_100, s_X0_findWay_102, s_X0_findWay_103, s_X0_findWay_104, s_X0_findWay_107, s_X0_findWay_109, s_X0_findWay_110, s_X0_findWay_113, s_X0_findWay_114, s_X0_findWay_117, s_X0_findWay_118, s_X0_findWay_121, s_X0_findWay_123, s_X0_findWay_124, s_X0_findWay_126, s_X0_findWay_127, s_X0_findWay_130, s_X0_findWay_132, s_X0_findWay_133, s_X0_findWay_136, s_X0_findWay_137, s_X0_findWay_139, s_X0_findWay_142, s_X0_findWay_144, s_X0_findWay_147, s_X0_findWay_149, s_X0_findWay_152, s_X0_findWay_153, s_X0_findWay_156, s_X0_findWay_158, s_X0_findWay_159, s_X0_findWay_160, s_X0_findWay_161, s_X0_findWay_164, s_X0_findWay_166, s_X0_findWay_167, s_X0_findWay_170, s_X0_findWay_171, s_X0_findWay_174, s_X0_findWay_175, s_X0_findWay_178, s_X0_findWay_180, s_X0_findWay_181, s_X0_findWay_183, s_X0_findWay_184, s_X0_findWay_187, s_X0_findWay_189, s_X0_findWay_190, s_X0_findWay_193, s_X0_findWay_194, cls_59, fv_59_0, fv_59_1, ak_60, al_60, ak_61, al_61, cls_42, fv_42_0, fv_42_1, fv_42_2, fv_42_3, fv_42_4, fv_42_5, ak_43, al_43, ak_44, al_44, ak_45, al_45, cls_0, fv_0_0, fv_0_1, fv_0_2, fv_0_3, fv_0_4, fv_0_5, fv_0_6, fv_0_7, fv_0_8, fv_0_9, fv_0_10, fv_0_11, fv_0_12, fv_0_13, fv_0_14, fv_0_15, ak_1, al_1, ak_2, al_2, ak_3, al_3, f1, f2, v0, q2, se_bit hF8, se_bit hO8, a, b, leT c', ltF c', iI_add, iI_sub, iI_mul, iI_neg, iI_lt, iI_le, iI_eq, iI_toInt, tn_n, tn_1, inb_I, Int.reduceEq, Int.reduceLT, Int.reduceLE, Int.reduceAdd, Int.reduceSub, Int.reduceMul, Int.reduceNeg, Int.reduceToNat, Nat.reduceAdd, Nat.reduceMul, Int.reduceNatCast, reduceCtorEq, Int.cast_ofNat_Int, bi_tr, bi_fa, bi_0, bi_1, not_true_eq_false, not_false_eq_true, rnk_v, rnk_n, ↓reduceIte, i00, i11, ibi, or_true, true_or, and_true, true_and, List.cons_append, List.nil_append, Option.toList, nop]
  · by_cases c : f t < fc (G.2.1 t)
    · have e1 : z1 K (rG G f) t Z = zA Z (kO K t) := by unfold z1; rw [hr1, decide_eq_true c, a, if_pos (show (true && true) = true from rfl)]
      have e : z2 K (rG G f) t (z1 K (rG G f) t Z) = zA Z (kO K t) := by
        rw [e1]; unfold z2; split
        · exact zA_id (zA_mono a)
        · rfl
      rw [e]
      refine ⟨sI M 61 (kO K t) (iI t), some (.int (iI 1)), some (.int (iI 0)), ?_, PT_add hI ht hP b (Or.inl ⟨by rw [hr1]; exact decide_eq_true c, rfl, a⟩), Sm_sI (by simp)⟩
      by_cases d : G.2.1 t = true
      · rw [bi_t d] at q1
        have c' : f t < 1 := by unfold fc at c; rwa [if_pos d] at c
        simp (maxSteps := 4000000) (disch := omega) only [s_X0_findWay_42, s_X0_findWay_44, s_X0_findWay_45, s_X0_findWay_46, s_X0_findWay_49, s_X0_findWay_51, s_X0_findWay_52, s_X0_findWay_53, s_X0_findWay_54, s_X0_findWay_57, s_X0_findWay_58, s_X0_findWay_61, s_X0_findWay_62, s_X0_findWay_64, s_X0_findWay_66, s_X0_findWay_67, s_X0_findWay_68, s_X0_findWay_71, s_X0_findWay_73, s_X0_findWay_74, s_X0_findWay_75, s_X0_findWay_76, s_X0_findWay_79, s_X0_findWay_80, s_X0_findWay_83, s_X0_findWay_84, s_X0_findWay_86, s_X0_findWay_88, s_X0_findWay_91, s_X0_findWay_93, s_X0_findWay_96, s_X0_findWay_97, s_X0_findWay_100, s_X0_findWay_102, s_X0_findWay_103, s_X0_findWay_104, s_X0_findWay_107, s_X0_findWay_109, s_X0_findWay_110, s_X0_findWay_113, s_X0_findWay_114, s_X0_findWay_117, s_X0_findWay_118, s_X0_findWay_121, s_X0_findWay_123, s_X0_findWay_124, s_X0_findWay_126, s_X0_findWay_127, s_X0_findWay_130, s_X0_findWay_132, s_X0_findWay_133, s_X0_findWay_136, s_X0_findWay_137, s_X0_findWay_139, s_X0_findWay_142, s_X0_findWay_144, s_X0_findWay_147, s_X0_findWay_149, s_X0_findWay_152, s_X0_findWay_153, s_X0_findWay_156, s_X0_findWay_158, s_X0_findWay_159, s_X0_findWay_160, s_X0_findWay_161, s_X0_findWay_164, s_X0_findWay_166, s_X0_findWay_167, s_X0_findWay_170, s_X0_findWay_171, s_X0_findWay_174, s_X0_findWay_175, s_X0_findWay_178, s_X0_findWay_180, s_X0_findWay_181, s_X0_findWay_183, s_X0_findWay_184, s_X0_findWay_187, s_X0_findWay_189, s_X0_findWay_190, s_X0_findWay_193, s_X0_findWay_194, cls_59, fv_59_0, fv_59_1, ak_60, al_60, ak_61, al_61, cls_42, fv_42_0, fv_42_1, fv_42_2, fv_42_3, fv_42_4, fv_42_5, ak_43, al_43, ak_44, al_44, ak_45, al_45, cls_0, fv_0_0, fv_0_1, fv_0_2, fv_0_3, fv_0_4, fv_0_5, fv_0_6, fv_0_7, fv_0_8, fv_0_9, fv_0_10, fv_0_11, fv_0_12, fv_0_13, fv_0_14, fv_0_15, ak_1, al_1, ak_2, al_2, ak_3, al_3, f1, f2, v0, q1, se_bit hF8, se_bit hO8, se_or hO8, k_X0_comeBy (D := D) (show _ ≤ D by omega), a, b, leF c', ltT c', iI_add, iI_sub, iI_mul, iI_neg, iI_lt, iI_le, iI_eq, iI_toInt, tn_n, tn_1, inb_I, Int.reduceEq, Int.reduceLT, Int.reduceLE, Int.reduceAdd, Int.reduceSub, Int.reduceMul, Int.reduceNeg, Int.reduceToNat, Nat.reduceAdd, Nat.reduceMul, Int.reduceNatCast, reduceCtorEq, Int.cast_ofNat_Int, bi_tr, bi_fa, bi_0, bi_1, not_true_eq_false, not_false_eq_true, rnk_v, rnk_n, ↓reduceIte, i00, i11, ibi, or_true, true_or, and_true, true_and, List.cons_append, List.nil_append, Option.toList, nop]
      · rw [bi_f d] at q1
        have c' : f t < 0 := by unfold fc at c; rwa [if_neg d] at c
        simp (maxSteps := 4000000) (disch := omega) only [s_X0_findWay_42, s_X0_findWay_44, s_X0_findWay_45, s_X0_findWay_46, s_X0_findWay_49, s_X0_findWay_51, s_X0_findWay_52, s_X0_findWay_53, s_X0_findWay_54, s_X0_findWay_57, s_X0_findWay_58, s_X0_findWay_61, s_X0_findWay_62, s_X0_findWay_64, s_X0_findWay_66, s_X0_findWay_67, s_X0_findWay_68, s_X0_findWay_71, s_X0_findWay_73, s_X0_findWay_74, s_X0_findWay_75, s_X0_findWay_76, s_X0_findWay_79, s_X0_findWay_80, s_X0_findWay_83, s_X0_findWay_84, s_X0_findWay_86, s_X0_findWay_88, s_X0_findWay_91, s_X0_findWay_93, s_X0_findWay_96, s_X0_findWay_97, s_X0_findWay_100, s_X0_findWay_102, s_X0_findWay_103, s_X0_findWay_104, s_X0_findWay_107, s_X0_findWay_109, s_X0_findWay_110, s_X0_findWay_113, s_X0_findWay_114, s_X0_findWay_117, s_X0_findWay_118, s_X0_findWay_121, s_X0_findWay_123, s_X0_findWay_124, s_X0_findWay_126, s_X0_findWay_127, s_X0_findWay_130, s_X0_findWay_132, s_X0_findWay_133, s_X0_findWay_136, s_X0_findWay_137, s_X0_findWay_139, s_X0_findWay_142, s_X0_findWay_144, s_X0_findWay_147, s_X0_findWay_149, s_X0_findWay_152, s_X0_findWay_153, s_X0_findWay_156, s_X0_findWay_158, s_X0_findWay_159, s_X0_findWay_160, s_X0_findWay_161, s_X0_findWay_164, s_X0_findWay_166, s_X0_findWay_167, s_X0_findWay_170, s_X0_findWay_171, s_X0_findWay_174, s_X0_findWay_175, s_X0_findWay_178, s_X0_findWay_180, s_X0_findWay_181, s_X0_findWay_183, s_X0_findWay_184, s_X0_findWay_187, s_X0_findWay_189, s_X0_findWay_190, s_X0_findWay_193, s_X0_findWay_194, cls_59, fv_59_0, fv_59_1, ak_60, al_60, ak_61, al_61, cls_42, fv_42_0, fv_42_1, fv_42_2, fv_42_3, fv_42_4, fv_42_5, ak_43, al_43, ak_44, al_44, ak_45, al_45, cls_0, fv_0_0, fv_0_1, fv_0_2, fv_0_3, fv_0_4, fv_0_5, fv_0_6, fv_0_7, fv_0_8, fv_0_9, fv_0_10, fv_0_11, fv_0_12, fv_0_13, fv_0_14, fv_0_15, ak_1, al_1, ak_2, al_2, ak_3, al_3, f1, f2, v0, q1, se_bit hF8, se_bit hO8, se_or hO8, k_X0_comeBy (D := D) (show _ ≤ D by omega), a, b, leF c', ltT c', iI_add, iI_sub, iI_mul, iI_neg, iI_lt, iI_le, iI_eq, iI_toInt, tn_n, tn_1, inb_I, Int.reduceEq, Int.reduceLT, Int.reduceLE, Int.reduceAdd, Int.reduceSub, Int.reduceMul, Int.reduceNeg, Int.reduceToNat, Nat.reduceAdd, Nat.reduceMul, Int.reduceNatCast, reduceCtorEq, Int.cast_ofNat_Int, bi_tr, bi_fa, bi_0, bi_1, not_true_eq_false, not_false_eq_true, rnk_v, rnk_n, ↓reduceIte, i00, i11, ibi, or_true, true_or, and_true, true_and, List.cons_append, List.nil_append, Option.toList, nop]
    · have e1 : z1 K (rG G f) t Z = Z := by unfold z1; rw [hr1, decide_eq_false c, if_neg (by simp)]
      have e : z2 K (rG G f) t (z1 K (rG G f) t Z) = Z := by
        rw [e1]; unfold z2; rw [b, if_neg (by simp)]
      rw [e]
      refine ⟨M, some (.int (iI 1)), some (.int (iI 0)), ?_, hP, Sm_rf _ _⟩
      by_cases d : G.2.1 t = true
      · rw [bi_t d] at q1
        have c' : 1 ≤ f t := by unfold fc at c; rw [if_pos d] at c; omega
        simp (maxSteps := 4000000) (disch := omega) only [s_X0_findWay_42, s_X0_findWay_44, s_X0_findWay_45, s_X0_findWay_46, s_X0_findWay_49, s_X0_findWay_51, s_X0_findWay_52, s_X0_findWay_53, s_X0_findWay_54, s_X0_findWay_57, s_X0_findWay_58, s_X0_findWay_61, s_X0_findWay_62, s_X0_findWay_64, s_X0_findWay_66, s_X0_findWay_67, s_X0_findWay_68, s_X0_findWay_71, s_X0_findWay_73, s_X0_findWay_74, s_X0_findWay_75, s_X0_findWay_76, s_X0_findWay_79, s_X0_findWay_80, s_X0_findWay_83, s_X0_findWay_84, s_X0_findWay_86, s_X0_findWay_88, s_X0_findWay_91, s_X0_findWay_93, s_X0_findWay_96, s_X0_findWay_97, s_X0_findWay_100, s_X0_findWay_102, s_X0_findWay_103, s_X0_findWay_104, s_X0_findWay_107, s_X0_findWay_109, s_X0_findWay_110, s_X0_findWay_113, s_X0_findWay_114, s_X0_findWay_117, s_X0_findWay_118, s_X0_findWay_121, s_X0_findWay_123, s_X0_findWay_124, s_X0_findWay_126, s_X0_findWay_127, s_X0_findWay_130, s_X0_findWay_132, s_X0_findWay_133, s_X0_findWay_136, s_X0_findWay_137, s_X0_findWay_139, s_X0_findWay_142, s_X0_findWay_144, s_X0_findWay_147, s_X0_findWay_149, s_X0_findWay_152, s_X0_findWay_153, s_X0_findWay_156, s_X0_findWay_158, s_X0_findWay_159, s_X0_findWay_160, s_X0_findWay_161, s_X0_findWay_164, s_X0_findWay_166, s_X0_findWay_167, s_X0_findWay_170, s_X0_findWay_171, s_X0_findWay_174, s_X0_findWay_175, s_X0_findWay_178, s_X0_findWay_180, s_X0_findWay_181, s_X0_findWay_183, s_X0_findWay_184, s_X0_findWay_187, s_X0_findWay_189, s_X0_findWay_190, s_X0_findWay_193, s_X0_findWay_194, cls_59, fv_59_0, fv_59_1, ak_60, al_60, ak_61, al_61, cls_42, fv_42_0, fv_42_1, fv_42_2, fv_42_3, fv_42_4, fv_42_5, ak_43, al_43, ak_44, al_44, ak_45, al_45, cls_0, fv_0_0, fv_0_1, fv_0_2, fv_0_3, fv_0_4, fv_0_5, fv_0_6, fv_0_7, fv_0_8, fv_0_9, fv_0_10, fv_0_11, fv_0_12, fv_0_13, fv_0_14, fv_0_15, ak_1, al_1, ak_2, al_2, ak_3, al_3, f1, f2, v0, q1, se_bit hF8, se_bit hO8, a, b, leT c', ltF c', iI_add, iI_sub, iI_mul, iI_neg, iI_lt, iI_le, iI_eq, iI_toInt, tn_n, tn_1, inb_I, Int.reduceEq, Int.reduceLT, Int.reduceLE, Int.reduceAdd, Int.reduceSub, Int.reduceMul, Int.reduceNeg, Int.reduceToNat, Nat.reduceAdd, Nat.reduceMul, Int.reduceNatCast, reduceCtorEq, Int.cast_ofNat_Int, bi_tr, bi_fa, bi_0, bi_1, not_true_eq_false, not_false_eq_true, rnk_v, rnk_n, ↓reduceIte, i00, i11, ibi, or_true, true_or, and_true, true_and, List.cons_append, List.nil_append, Option.toList, nop]
      · rw [bi_f d] at q1
        have c' : 0 ≤ f t := by unfold fc at c; rw [if_neg d] at c; omega
        simp (maxSteps := 4000000) (disch := omega) only [s_X0_findWay_42, s_X0_findWay_44, s_X0_findWay_45, s_X0_findWay_46, s_X0_findWay_49, s_X0_findWay_51, s_X0_findWay_52, s_X0_findWay_53, s_X0_findWay_54, s_X0_findWay_57, s_X0_findWay_58, s_X0_findWay_61, s_X0_findWay_62, s_X0_findWay_64, s_X0_findWay_66, s_X0_findWay_67, s_X0_findWay_68, s_X0_findWay_71, s_X0_findWay_73, s_X0_findWay_74, s_X0_findWay_75, s_X0_findWay_76, s_X0_findWay_79, s_X0_findWay_80, s_X0_findWay_83, s_X0_findWay_84, s_X0_findWay_86, s_X0_findWay_88, s_X0_findWay_91, s_X0_findWay_93, s_X0_findWay_96, s_X0_findWay_97, s_X0_findWay_100, s_X0_findWay_102, s_X0_findWay_103, s_X0_findWay_104, s_X0_findWay_107, s_X0_findWay_109, s_X0_findWay_110, s_X0_findWay_113, s_X0_findWay_114, s_X0_findWay_117, s_X0_findWay_118, s_X0_findWay_121, s_X0_findWay_123, s_X0_findWay_124, s_X0_findWay_126, s_X0_findWay_127, s_X0_findWay_130, s_X0_findWay_132, s_X0_findWay_133, s_X0_findWay_136, s_X0_findWay_137, s_X0_findWay_139, s_X0_findWay_142, s_X0_findWay_144, s_X0_findWay_147, s_X0_findWay_149, s_X0_findWay_152, s_X0_findWay_153, s_X0_findWay_156, s_X0_findWay_158, s_X0_findWay_159, s_X0_findWay_160, s_X0_findWay_161, s_X0_findWay_164, s_X0_findWay_166, s_X0_findWay_167, s_X0_findWay_170, s_X0_findWay_171, s_X0_findWay_174, s_X0_findWay_175, s_X0_findWay_178, s_X0_findWay_180, s_X0_findWay_181, s_X0_findWay_183, s_X0_findWay_184, s_X0_findWay_187, s_X0_findWay_189, s_X0_findWay_190, s_X0_findWay_193, s_X0_findWay_194, cls_59, fv_59_0, fv_59_1, ak_60, al_60, ak_61, al_61, cls_42, fv_42_0, fv_42_1, fv_42_2, fv_42_3, fv_42_4, fv_42_5, ak_43, al_43, ak_44, al_44, ak_45, al_45, cls_0, fv_0_0, fv_0_1, fv_0_2, fv_0_3, fv_0_4, fv_0_5, fv_0_6, fv_0_7, fv_0_8, fv_0_9, fv_0_10, fv_0_11, fv_0_12, fv_0_13, fv_0_14, fv_0_15, ak_1, al_1, ak_2, al_2, ak_3, al_3, f1, f2, v0, q1, se_bit hF8, se_bit hO8, a, b, leT c', ltF c', iI_add, iI_sub, iI_mul, iI_neg, iI_lt, iI_le, iI_eq, iI_toInt, tn_n, tn_1, inb_I, Int.reduceEq, Int.reduceLT, Int.reduceLE, Int.reduceAdd, Int.reduceSub, Int.reduceMul, Int.reduceNeg, Int.reduceToNat, Nat.reduceAdd, Nat.reduceMul, Int.reduceNatCast, reduceCtorEq, Int.cast_ofNat_Int, bi_tr, bi_fa, bi_0, bi_1, not_true_eq_false, not_false_eq_true, rnk_v, rnk_n, ↓reduceIte, i00, i11, ibi, or_true, true_or, and_true, true_and, List.cons_append, List.nil_append, Option.toList, nop]
  · have e1 : z1 K (rG G f) t Z = Z := by
      unfold z1; split
      · exact zA_id b
      · rfl
    have e : z2 K (rG G f) t (z1 K (rG G f) t Z) = Z := by
      rw [e1]; unfold z2; split
      · exact zA_id a
      · rfl
    rw [e]
    refine ⟨M, some (.int (iI 1)), some (.int (iI 1)), ?_, hP, Sm_rf _ _⟩
    simp (maxSteps := 4000000) (disch := omega) only [s_X0_findWay_42, s_X0_findWay_44, s_X0_findWay_45, s_X0_findWay_46, s_X0_findWay_49, s_X0_findWay_51, s_X0_findWay_52, s_X0_findWay_53, s_X0_findWay_54, s_X0_findWay_57, s_X0_findWay_58, s_X0_findWay_61, s_X0_findWay_62, s_X0_findWay_64, s_X0_findWay_66, s_X0_findWay_67, s_X0_findWay_68, s_X0_findWay_71, s_X0_findWay_73, s_X0_findWay_74, s_X0_findWay_75, s_X0_findWay_76, s_X0_findWay_79, s_X0_findWay_80, s_X0_findWay_83, s_X0_findWay_84, s_X0_findWay_86, s_X0_findWay_88, s_X0_findWay_91, s_X0_findWay_93, s_X0_findWay_96, s_X0_findWay_97, s_X0_findWay_100, s_X0_findWay_102, s_X0_findWay_103, s_X0_findWay_104, s_X0_findWay_107, s_X0_findWay_109, s_X0_findWay_110, s_X0_findWay_113, s_X0_findWay_114, s_X0_findWay_117, s_X0_findWay_118, s_X0_findWay_121, s_X0_findWay_123, s_X0_findWay_124, s_X0_findWay_126, s_X0_findWay_127, s_X0_findWay_130, s_X0_findWay_132, s_X0_findWay_133, s_X0_findWay_136, s_X0_findWay_137, s_X0_findWay_139, s_X0_findWay_142, s_X0_findWay_144, s_X0_findWay_147, s_X0_findWay_149, s_X0_findWay_152, s_X0_findWay_153, s_X0_findWay_156, s_X0_findWay_158, s_X0_findWay_159, s_X0_findWay_160, s_X0_findWay_161, s_X0_findWay_164, s_X0_findWay_166, s_X0_findWay_167, s_X0_findWay_170, s_X0_findWay_171, s_X0_findWay_174, s_X0_findWay_175, s_X0_findWay_178, s_X0_findWay_180, s_X0_findWay_181, s_X0_findWay_183, s_X0_findWay_184, s_X0_findWay_187, s_X0_findWay_189, s_X0_findWay_190, s_X0_findWay_193, s_X0_findWay_194, cls_59, fv_59_0, fv_59_1, ak_60, al_60, ak_61, al_61, cls_42, fv_42_0, fv_42_1, fv_42_2, fv_42_3, fv_42_4, fv_42_5, ak_43, al_43, ak_44, al_44, ak_45, al_45, cls_0, fv_0_0, fv_0_1, fv_0_2, fv_0_3, fv_0_4, fv_0_5, fv_0_6, fv_0_7, fv_0_8, fv_0_9, fv_0_10, fv_0_11, fv_0_12, fv_0_13, fv_0_14, fv_0_15, ak_1, al_1, ak_2, al_2, ak_3, al_3, f1, f2, se_bit hF8, se_bit hO8, a, b, iI_add, iI_sub, iI_mul, iI_neg, iI_lt, iI_le, iI_eq, iI_toInt, tn_n, tn_1, inb_I, Int.reduceEq, Int.reduceLT, Int.reduceLE, Int.reduceAdd, Int.reduceSub, Int.reduceMul, Int.reduceNeg, Int.reduceToNat, Nat.reduceAdd, Nat.reduceMul, Int.reduceNatCast, reduceCtorEq, Int.cast_ofNat_Int, bi_tr, bi_fa, bi_0, bi_1, not_true_eq_false, not_false_eq_true, rnk_v, rnk_n, ↓reduceIte, i00, i11, ibi, or_true, true_or, and_true, true_and, List.cons_append, List.nil_append, Option.toList, nop]
theorem k_X0_findWay {D : Nat} (hD : 3 ≤ D) {M : tM} {K : tK} {G : tG} (hR : Rep M 0 K) (hI : kInv K) (hg : RepG M K G) {f : Nat → Int} (hf : RepFl M K f) (hF : fF K G f) {s g : Nat} (hs : s < kD K) (hgl : g < kD K) : ∃ M', exF D m_X0_findWay [.ref 59, .ref 0, .ref 42, .int (iI s), .int (iI g)] M = some (some (.int (bi (dG K (rG G f) s g < 9999))), M') ∧ PT M' K (rG G f) s (zR K (rG G f) s 8) ∧ Sm [61] M M' := by
  obtain ⟨D, rfl⟩ : ∃ D0, D = D0 + 1 := ⟨D - 1, by omega⟩
  have n0 := kI_n hI
  obtain ⟨r1, r2, r3, r4, r5, r6⟩ := R0_n hR
  have s0 : Sm [61] M (rI M 61 (fun k => if k < 8 then iI (-1) else M.1 61 k)) := Sm_rI (by simp)
  have p0 : PT (rI M 61 (fun k => if k < 8 then iI (-1) else M.1 61 k)) K (rG G f) s (zR K (rG G f) s 0) := by
    refine ⟨fun _ => 0, fun _ => 0, 1, ⟨decide_eq_true rfl, ?_, ?_, ?_⟩, ?_⟩
    · have := ctn_lt (p := fun _ => false) (q := zR K (rG G f) s 0) (n := 8) (fun i _ hi => by cases hi) (j := s) (by omega) rfl (decide_eq_true rfl)
      omega
    · intro d hd
      have e : d = s := of_decide_eq_true hd
      subst e; exact ⟨hs, by show 0 < 1; omega⟩
    · intro d hd hne
      exact absurd (of_decide_eq_true hd : d = s) hne
    · intro d hd hne
      exact absurd (of_decide_eq_true hd : d = s) hne
  obtain ⟨⟨M1, y7, y8, y9⟩, outer, b1, b2⟩ := lp (f := fun i (x : tM × Option Value × Option Value × Option Value) => rn (exF D) C_X0_findWay 16 [some (.ref 59), some (.ref 0), some (.ref 42), some (.int (iI s)), some (.int (iI g)), some (.int (iI (bts (zR K (rG G f) s i) 8 : Nat))), some (.int (iI i)), x.2.1, x.2.2.1, x.2.2.2] [] x.1) (P := fun i x => Sm [61] M x.1 ∧ PT x.1 K (rG G f) s (zR K (rG G f) s i)) (n := 8) (by
    rintro i ⟨N, y7, y8, y9⟩ hi ⟨p1, p2⟩
    obtain ⟨⟨N1, z8', z9'⟩, inner, c1, c2⟩ := lp (f := fun t (x : tM × Option Value × Option Value) => rn (exF D) C_X0_findWay 26 [some (.ref 59), some (.ref 0), some (.ref 42), some (.int (iI s)), some (.int (iI g)), some (.int (iI (bts (zT K (rG G f) (zR K (rG G f) s i) t) 8 : Nat))), some (.int (iI i)), some (.int (iI t)), x.2.1, x.2.2] [] x.1) (P := fun t x => Sm [61] M x.1 ∧ PT x.1 K (rG G f) s (zT K (rG G f) (zR K (rG G f) s i) t)) (n := kT K) (by
      rintro t ⟨N, w8, w9⟩ ht ⟨p1, p2⟩
      have hR' : Rep N 0 K := Rep_o h0 hR p1 (by simp)
      have r2' := (R0_n hR').2.1
      have hg' : RepG N K G := RepG_Sm hg p1 (by simp) (by simp) (by simp)
      have hf' : RepFl N K f := fun t ht => by rw [(p1 60 (by simp)).1]; exact hf t ht
      obtain ⟨N2, x8, x9, e1, e2, e3⟩ := l_fw1 (D := D) (by omega) (s := s) (g := g) (i := i) hR' hI hg' hf' hF ht p2 w8 w9
      refine ⟨(N2, x8, x9), ?_, Sm_tr p1 e3, e2⟩
      intro X hX
      show rn _ _ _ _ _ _ = X
      rw [s_X0_findWay_26]
      simp (maxSteps := 4000000) (disch := omega) only [s_X0_findWay_28, s_X0_findWay_29, s_X0_findWay_32, s_X0_findWay_35, s_X0_findWay_37, s_X0_findWay_39, cls_0, fv_0_0, fv_0_1, fv_0_2, fv_0_3, fv_0_4, fv_0_5, fv_0_6, fv_0_7, fv_0_8, fv_0_9, fv_0_10, fv_0_11, fv_0_12, fv_0_13, fv_0_14, fv_0_15, r2', leF (show (t : Int) < kT K by omega), leF (show (t : Int) < 16 by omega), iI_add, iI_sub, iI_mul, iI_neg, iI_lt, iI_le, iI_eq, iI_toInt, tn_n, tn_1, inb_I, Int.reduceEq, Int.reduceLT, Int.reduceLE, Int.reduceAdd, Int.reduceSub, Int.reduceMul, Int.reduceNeg, Int.reduceToNat, Nat.reduceAdd, Nat.reduceMul, Int.reduceNatCast, reduceCtorEq, Int.cast_ofNat_Int, bi_tr, bi_fa, bi_0, bi_1, not_true_eq_false, not_false_eq_true, rnk_v, rnk_n, ↓reduceIte, i00, i11, ibi, or_true, true_or, and_true, true_and, List.cons_append, List.nil_append, Option.toList, nop]
      refine Eq.trans e1 ?_
      simp (maxSteps := 4000000) (disch := omega) only [s_X0_findWay_196, s_X0_findWay_199, iI_add, iI_sub, iI_mul, iI_neg, iI_lt, iI_le, iI_eq, iI_toInt, tn_n, tn_1, inb_I, Int.reduceEq, Int.reduceLT, Int.reduceLE, Int.reduceAdd, Int.reduceSub, Int.reduceMul, Int.reduceNeg, Int.reduceToNat, Nat.reduceAdd, Nat.reduceMul, Int.reduceNatCast, reduceCtorEq, Int.cast_ofNat_Int, bi_tr, bi_fa, bi_0, bi_1, not_true_eq_false, not_false_eq_true, rnk_v, rnk_n, ↓reduceIte, i00, i11, ibi, or_true, true_or, and_true, true_and, List.cons_append, List.nil_append, Option.toList, nop]
      exact hX) (Nat.zero_le _) (a := (N, y8, y9)) ⟨p1, p2⟩
    have hR' : Rep N1 0 K := Rep_o h0 hR c1 (by simp)
    have r2' := (R0_n hR').2.1
    refine ⟨(N1, some (.int (iI (kT K))), z8', z9'), ?_, c1, c2⟩
    intro X hX
    show rn _ _ _ _ _ _ = X
    rw [s_X0_findWay_16]
    simp (maxSteps := 4000000) (disch := omega) only [s_X0_findWay_18, s_X0_findWay_20, s_X0_findWay_23, s_X0_findWay_24, leF (show (i : Int) < 8 by omega), iI_add, iI_sub, iI_mul, iI_neg, iI_lt, iI_le, iI_eq, iI_toInt, tn_n, tn_1, inb_I, Int.reduceEq, Int.reduceLT, Int.reduceLE, Int.reduceAdd, Int.reduceSub, Int.reduceMul, Int.reduceNeg, Int.reduceToNat, Nat.reduceAdd, Nat.reduceMul, Int.reduceNatCast, reduceCtorEq, Int.cast_ofNat_Int, bi_tr, bi_fa, bi_0, bi_1, not_true_eq_false, not_false_eq_true, rnk_v, rnk_n, ↓reduceIte, i00, i11, ibi, or_true, true_or, and_true, true_and, List.cons_append, List.nil_append, Option.toList, nop]
    refine Eq.trans inner ?_
    simp (maxSteps := 4000000) (disch := omega) only [s_X0_findWay_26, s_X0_findWay_28, s_X0_findWay_29, s_X0_findWay_32, s_X0_findWay_202, s_X0_findWay_205, cls_0, fv_0_0, fv_0_1, fv_0_2, fv_0_3, fv_0_4, fv_0_5, fv_0_6, fv_0_7, fv_0_8, fv_0_9, fv_0_10, fv_0_11, fv_0_12, fv_0_13, fv_0_14, fv_0_15, r2', leT (show (kT K : Int) ≤ kT K by omega), iI_add, iI_sub, iI_mul, iI_neg, iI_lt, iI_le, iI_eq, iI_toInt, tn_n, tn_1, inb_I, Int.reduceEq, Int.reduceLT, Int.reduceLE, Int.reduceAdd, Int.reduceSub, Int.reduceMul, Int.reduceNeg, Int.reduceToNat, Nat.reduceAdd, Nat.reduceMul, Int.reduceNatCast, reduceCtorEq, Int.cast_ofNat_Int, bi_tr, bi_fa, bi_0, bi_1, not_true_eq_false, not_false_eq_true, rnk_v, rnk_n, ↓reduceIte, i00, i11, ibi, or_true, true_or, and_true, true_and, List.cons_append, List.nil_append, Option.toList, nop]
    exact hX) (Nat.zero_le _) (a := (rI M 61 (fun k => if k < 8 then iI (-1) else M.1 61 k), none, none, none)) ⟨s0, p0⟩
  have e0 : iI 1 <<< (iI (s : Int) &&& 31) = iI (bts (zR K (rG G f) s 0) 8 : Nat) := by
    have h1 := se_or (Z := fun _ => false) (show s < 8 by omega)
    have h2 : bts (fun _ => false) 8 = 0 := rfl
    rw [h2] at h1
    have h3 : iI ((0 : Nat) : Int) ||| (iI 1 <<< (iI (s : Int) &&& 31)) = iI 1 <<< (iI (s : Int) &&& 31) := by
      rw [iI_shl1 (by omega), iI_or, Nat.zero_or]
    rw [h3] at h1
    rw [h1]
    have : zA (fun _ => false) s = zR K (rG G f) s 0 := by
      funext d
      unfold zA zR
      by_cases e : d = s <;> simp [e]
    rw [this]
  have e8 := zR_8 (G := rG G f) hI (rG_I K G f) hs hgl
  have eb := se_bit (Z := zR K (rG G f) s 8) (show g < 8 by omega)
  rw [e8] at eb
  refine ⟨M1, ?_, b2, b1⟩
  simp (maxSteps := 4000000) (disch := omega) only [en_X0_findWay, s_X0_findWay_0, s_X0_findWay_1, s_X0_findWay_4, s_X0_findWay_5, s_X0_findWay_8, s_X0_findWay_9, s_X0_findWay_10, s_X0_findWay_11, s_X0_findWay_13, s_X0_findWay_14, cls_59, fv_59_0, fv_59_1, ak_60, al_60, ak_61, al_61, k_fillI (show _ ≤ D by omega) ak_61 al_61, e0, iI_add, iI_sub, iI_mul, iI_neg, iI_lt, iI_le, iI_eq, iI_toInt, tn_n, tn_1, inb_I, Int.reduceEq, Int.reduceLT, Int.reduceLE, Int.reduceAdd, Int.reduceSub, Int.reduceMul, Int.reduceNeg, Int.reduceToNat, Nat.reduceAdd, Nat.reduceMul, Int.reduceNatCast, reduceCtorEq, Int.cast_ofNat_Int, bi_tr, bi_fa, bi_0, bi_1, not_true_eq_false, not_false_eq_true, rnk_v, rnk_n, ↓reduceIte, i00, i11, ibi, or_true, true_or, and_true, true_and, List.cons_append, List.nil_append, Option.toList, nop]
  refine Eq.trans outer ?_
  show rn _ _ 16 [_, _, _, _, _, some (.int (iI (bts (zR K (rG G f) s 8) 8 : Nat))), some (.int (iI 8)), _, _, _] _ _ = _
  by_cases q : dG K (rG G f) s g < 9999
  · rw [bi_t q]
    rw [decide_eq_true q] at eb
    simp (maxSteps := 4000000) (disch := omega) only [s_X0_findWay_16, s_X0_findWay_18, s_X0_findWay_20, s_X0_findWay_208, s_X0_findWay_210, s_X0_findWay_211, s_X0_findWay_213, s_X0_findWay_214, s_X0_findWay_215, s_X0_findWay_218, s_X0_findWay_219, s_X0_findWay_222, s_X0_findWay_223, eb, iI_add, iI_sub, iI_mul, iI_neg, iI_lt, iI_le, iI_eq, iI_toInt, tn_n, tn_1, inb_I, Int.reduceEq, Int.reduceLT, Int.reduceLE, Int.reduceAdd, Int.reduceSub, Int.reduceMul, Int.reduceNeg, Int.reduceToNat, Nat.reduceAdd, Nat.reduceMul, Int.reduceNatCast, reduceCtorEq, Int.cast_ofNat_Int, bi_tr, bi_fa, bi_0, bi_1, not_true_eq_false, not_false_eq_true, rnk_v, rnk_n, ↓reduceIte, i00, i11, ibi, or_true, true_or, and_true, true_and, List.cons_append, List.nil_append, Option.toList, nop]
  · rw [bi_f q]
    rw [decide_eq_false q] at eb
    simp (maxSteps := 4000000) (disch := omega) only [s_X0_findWay_16, s_X0_findWay_18, s_X0_findWay_20, s_X0_findWay_208, s_X0_findWay_210, s_X0_findWay_211, s_X0_findWay_213, s_X0_findWay_214, s_X0_findWay_215, s_X0_findWay_218, s_X0_findWay_219, s_X0_findWay_222, s_X0_findWay_223, eb, iI_add, iI_sub, iI_mul, iI_neg, iI_lt, iI_le, iI_eq, iI_toInt, tn_n, tn_1, inb_I, Int.reduceEq, Int.reduceLT, Int.reduceLE, Int.reduceAdd, Int.reduceSub, Int.reduceMul, Int.reduceNeg, Int.reduceToNat, Nat.reduceAdd, Nat.reduceMul, Int.reduceNatCast, reduceCtorEq, Int.cast_ofNat_Int, bi_tr, bi_fa, bi_0, bi_1, not_true_eq_false, not_false_eq_true, rnk_v, rnk_n, ↓reduceIte, i00, i11, ibi, or_true, true_or, and_true, true_and, List.cons_append, List.nil_append, Option.toList, nop]
