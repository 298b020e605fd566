/-! CUTS: THE CLASS takes ways -/
theorem fl_ok {K : tK} {G : tG} {f : Nat → Int} (h : fF K G f) {t : Nat} {e : Int} (h1 : e = 1 ∨ e = -1) (h2 : e = 1 → f t < fc (G.2.1 t)) (h3 : e = -1 → -f t < fc (G.2.2 t)) : fF K G (fl f t e) := by
  intro u hu
  obtain ⟨a1, a2⟩ := h u hu
  by_cases c : u = t
  · subst c
    have e1 : fl f u e u = f u + e := if_pos rfl
    rw [e1]
    rcases h1 with rfl | rfl
    · have := h2 rfl; omega
    · have := h3 rfl; omega
  · have e1 : fl f t e u = f u := if_neg c
    rw [e1]; exact ⟨a1, a2⟩
theorem RepFl_put {M : tM} {K : tK} {f : Nat → Int} (h : RepFl M K f) (t : Nat) (e : Int) : RepFl (sI M 60 t (iI (f t + e))) K (fl f t e) := by
  intro u hu
  by_cases c : u = t
  · subst c
    rw [sI_s, show fl f u e u = f u + e from if_pos rfl]
  · rw [sI_k _ _ c, show fl f t e u = f u from if_neg c]; exact h u hu
theorem fF_rng {K : tK} {G : tG} {f : Nat → Int} (h : fF K G f) {t : Nat} (ht : t < kT K) : -1 ≤ f t ∧ f t ≤ 1 := by
  obtain ⟨a1, a2⟩ := h t ht
  have c1 : 0 ≤ fc (G.2.1 t) ∧ fc (G.2.1 t) ≤ 1 := by unfold fc; split <;> omega
  have c2 : 0 ≤ fc (G.2.2 t) ∧ fc (G.2.2 t) ≤ 1 := by unfold fc; split <;> omega
  omega
theorem l_tw {D : Nat} (hD : 1 ≤ D) {K : tK} {G : tG} (hI : kInv K) {f : Nat → Int} {s g k : Nat} {Z : Nat → Bool} {cb rk : Nat → Nat} (hp : pth K (rG G f) s Z cb rk k) : ∀ (m i d : Nat) (M : tM) (f' : Nat → Int) (x6 : Option Value), rk d ≤ m → i + rk d ≤ 7 → Z d = true → Rep M 0 K → RepFl M K f' → (∀ d, Z d = true → d ≠ s → M.1 61 d = iI (cb d)) → fF K G f' → (∀ t, t < kT K → f' t = f t ∨ ∃ x, rk d < rk x ∧ (kF K t = x ∨ kO K t = x)) → (∀ e, nt K f' e (kT K) = nt K f e (kT K) + i1 (e = d) 1 - i1 (e = g) 1) → ∃ M' f'', rn (exF D) C_X0_takeWay 6 [some (.ref 59), some (.ref 0), some (.int (iI s)), some (.int (iI g)), some (.int (iI d)), some (.int (iI i)), x6] [] M = some (none, M') ∧ RepFl M' K f'' ∧ fF K G f'' ∧ (∀ e, nt K f'' e (kT K) = nt K f e (kT K) + i1 (e = s) 1 - i1 (e = g) 1) ∧ Sm [60] M M' := by
  have n0 := kI_n hI
  intro m
  induction m with
  | zero =>
    intro i d M f' x6 h1 h2 h3 h4 h5 h6 h7 h8 h9
    by_cases c : d = s
    · subst c
      refine ⟨M, f', ?_, h5, h7, h9, Sm_rf _ _⟩
      have b := (hp.2.2.1 d h3).1
      simp (maxSteps := 4000000) (disch := omega) only [s_X0_takeWay_6, s_X0_takeWay_8, s_X0_takeWay_10, s_X0_takeWay_13, s_X0_takeWay_15, s_X0_takeWay_16, s_X0_takeWay_0, s_X0_takeWay_1, s_X0_takeWay_3, s_X0_takeWay_4, s_X0_takeWay_6, s_X0_takeWay_8, s_X0_takeWay_10, s_X0_takeWay_13, s_X0_takeWay_15, s_X0_takeWay_16, s_X0_takeWay_19, s_X0_takeWay_21, s_X0_takeWay_24, s_X0_takeWay_27, s_X0_takeWay_28, s_X0_takeWay_31, s_X0_takeWay_33, s_X0_takeWay_34, s_X0_takeWay_36, s_X0_takeWay_37, s_X0_takeWay_39, s_X0_takeWay_42, s_X0_takeWay_45, s_X0_takeWay_46, s_X0_takeWay_47, s_X0_takeWay_50, s_X0_takeWay_52, s_X0_takeWay_53, s_X0_takeWay_55, s_X0_takeWay_58, s_X0_takeWay_59, s_X0_takeWay_62, s_X0_takeWay_64, s_X0_takeWay_65, s_X0_takeWay_66, s_X0_takeWay_67, s_X0_takeWay_68, s_X0_takeWay_69, s_X0_takeWay_70, s_X0_takeWay_73, s_X0_takeWay_75, s_X0_takeWay_76, s_X0_takeWay_78, s_X0_takeWay_81, s_X0_takeWay_82, s_X0_takeWay_85, s_X0_takeWay_87, s_X0_takeWay_88, s_X0_takeWay_89, s_X0_takeWay_90, s_X0_takeWay_91, s_X0_takeWay_92, s_X0_takeWay_93, s_X0_takeWay_96, s_X0_takeWay_98, s_X0_takeWay_99, s_X0_takeWay_101, s_X0_takeWay_104, s_X0_takeWay_107, leF (show (i : Int) < 8 by omega), iI_add, iI_sub, iI_mul, iI_neg, iI_lt, iI_le, iI_eq, iI_toInt, tn_n, tn_1, inb_I, Int.reduceEq, Int.reduceLT, Int.reduceLE, Int.reduceAdd, Int.reduceSub, Int.reduceMul, Int.reduceNeg, Int.reduceToNat, Nat.reduceAdd, Nat.reduceMul, Int.reduceNatCast, reduceCtorEq, Int.cast_ofNat_Int, bi_tr, bi_fa, bi_0, bi_1, not_true_eq_false, not_false_eq_true, rnk_v, rnk_n, ↓reduceIte, i00, i11, ibi, or_true, true_or, and_true, true_and, List.cons_append, List.nil_append, Option.toList, nop]
    · exfalso
      rcases (hp.2.2.2 d h3 c).2 with ⟨-, -, -, z⟩ | ⟨-, -, -, z⟩ <;> omega
  | succ m ih =>
    intro i d M f' x6 h1 h2 h3 h4 h5 h6 h7 h8 h9
    have b := (hp.2.2.1 d h3).1
    have bs := (hp.2.2.1 s hp.1).1
    by_cases c : d = s
    · subst c
      refine ⟨M, f', ?_, h5, h7, h9, Sm_rf _ _⟩
      simp (maxSteps := 4000000) (disch := omega) only [s_X0_takeWay_6, s_X0_takeWay_8, s_X0_takeWay_10, s_X0_takeWay_13, s_X0_takeWay_15, s_X0_takeWay_16, s_X0_takeWay_0, s_X0_takeWay_1, s_X0_takeWay_3, s_X0_takeWay_4, s_X0_takeWay_6, s_X0_takeWay_8, s_X0_takeWay_10, s_X0_takeWay_13, s_X0_takeWay_15, s_X0_takeWay_16, s_X0_takeWay_19, s_X0_takeWay_21, s_X0_takeWay_24, s_X0_takeWay_27, s_X0_takeWay_28, s_X0_takeWay_31, s_X0_takeWay_33, s_X0_takeWay_34, s_X0_takeWay_36, s_X0_takeWay_37, s_X0_takeWay_39, s_X0_takeWay_42, s_X0_takeWay_45, s_X0_takeWay_46, s_X0_takeWay_47, s_X0_takeWay_50, s_X0_takeWay_52, s_X0_takeWay_53, s_X0_takeWay_55, s_X0_takeWay_58, s_X0_takeWay_59, s_X0_takeWay_62, s_X0_takeWay_64, s_X0_takeWay_65, s_X0_takeWay_66, s_X0_takeWay_67, s_X0_takeWay_68, s_X0_takeWay_69, s_X0_takeWay_70, s_X0_takeWay_73, s_X0_takeWay_75, s_X0_takeWay_76, s_X0_takeWay_78, s_X0_takeWay_81, s_X0_takeWay_82, s_X0_takeWay_85, s_X0_takeWay_87, s_X0_takeWay_88, s_X0_takeWay_89, s_X0_takeWay_90, s_X0_takeWay_91, s_X0_takeWay_92, s_X0_takeWay_93, s_X0_takeWay_96, s_X0_takeWay_98, s_X0_takeWay_99, s_X0_takeWay_101, s_X0_takeWay_104, s_X0_takeWay_107, leF (show (i : Int) < 8 by omega), iI_add, iI_sub, iI_mul, iI_neg, iI_lt, iI_le, iI_eq, iI_toInt, tn_n, tn_1, inb_I, Int.reduceEq, Int.reduceLT, Int.reduceLE, Int.reduceAdd, Int.reduceSub, Int.reduceMul, Int.reduceNeg, Int.reduceToNat, Nat.reduceAdd, Nat.reduceMul, Int.reduceNatCast, reduceCtorEq, Int.cast_ofNat_Int, bi_tr, bi_fa, bi_0, bi_1, not_true_eq_false, not_false_eq_true, rnk_v, rnk_n, ↓reduceIte, i00, i11, ibi, or_true, true_or, and_true, true_and, List.cons_append, List.nil_append, Option.toList, nop]
    obtain ⟨ht, hc⟩ := hp.2.2.2 d h3 c
    have hm := h6 d h3 c
    generalize cb d = t at *
    have g1 := kI_t hI ht
    obtain ⟨f1, f2, f3, f4⟩ := R0_t h4 ht
    have v0 := h5 t ht
    have hrg := fF_rng h7 ht
    have hht := k_X4_hasTube (D := D) (by omega) h0 h4 hI t (by omega) (by omega)
    rw [bi_t (show 0 ≤ (t : Int) ∧ (t : Int) < (kT K : Int) by omega)] at hht
    have cds : ¬ (d : Int) = s := by omega
    rcases hc with ⟨c1, c2, c3, c4⟩ | ⟨c1, c2, c3, c4⟩
    · have same : f' t = f t := by
        rcases h8 t ht with z | ⟨x, z1, z2 | z2⟩
        · exact z
        · rw [z2] at c4; omega
        · rw [c2] at z2; subst z2; omega
      have c1' : f t < fc (G.2.1 t) := of_decide_eq_true c1
      have w1 := RepFl_put h5 t 1
      have s1 : Sm [60] M (sI M 60 t (iI (f' t + 1))) := Sm_sI (by simp)
      obtain ⟨M', f'', a1, a2, a3, a4, a5⟩ := ih (i + 1) (kF K t) (sI M 60 t (iI (f' t + 1))) (fl f' t 1) (some (.int (iI t))) (by omega) (by omega) c3 (Rep_o h0 h4 s1 (by simp)) w1 (fun d hd hs => by rw [sI_a _ _ (by omega)]; exact h6 d hd hs) (fl_ok h7 (Or.inl rfl) (fun _ => by rw [same]; exact c1') (fun z => by omega)) (by
        intro u hu
        by_cases y : u = t
        · subst y; exact Or.inr ⟨d, c4, Or.inr c2⟩
        · rw [show fl f' t 1 u = f' u from if_neg y]
          rcases h8 u hu with z | ⟨x, z1, z2⟩
          · exact Or.inl z
          · exact Or.inr ⟨x, by omega, z2⟩) (by
        intro e
        rw [nt_fl, h9 e, if_pos ht, c2]
        have e1 : i1 (kF K t = e) 1 = i1 (e = kF K t) 1 := by unfold i1; simp only [eq_comm]
        have e2 : i1 (d = e) 1 = i1 (e = d) 1 := by unfold i1; simp only [eq_comm]
        rw [e1, e2]; omega)
      refine ⟨M', f'', ?_, a2, a3, a4, Sm_tr s1 a5⟩
      rw [s_X0_takeWay_6]
      simp (maxSteps := 4000000) (disch := omega) only [s_X0_takeWay_8, s_X0_takeWay_10, s_X0_takeWay_13, s_X0_takeWay_15, s_X0_takeWay_16, s_X0_takeWay_19, s_X0_takeWay_21, s_X0_takeWay_24, s_X0_takeWay_27, s_X0_takeWay_28, s_X0_takeWay_31, s_X0_takeWay_33, s_X0_takeWay_34, s_X0_takeWay_36, s_X0_takeWay_37, s_X0_takeWay_39, s_X0_takeWay_42, s_X0_takeWay_45, s_X0_takeWay_46, s_X0_takeWay_47, s_X0_takeWay_50, s_X0_takeWay_52, s_X0_takeWay_53, s_X0_takeWay_55, s_X0_takeWay_58, s_X0_takeWay_59, s_X0_takeWay_62, s_X0_takeWay_64, s_X0_takeWay_65, s_X0_takeWay_66, s_X0_takeWay_67, s_X0_takeWay_68, s_X0_takeWay_69, s_X0_takeWay_70, s_X0_takeWay_73, s_X0_takeWay_75, s_X0_takeWay_76, s_X0_takeWay_78, s_X0_takeWay_81, s_X0_takeWay_82, s_X0_takeWay_85, s_X0_takeWay_87, s_X0_takeWay_88, s_X0_takeWay_89, s_X0_takeWay_90, s_X0_takeWay_91, s_X0_takeWay_92, s_X0_takeWay_93, s_X0_takeWay_96, s_X0_takeWay_98, s_X0_takeWay_99, s_X0_takeWay_101, s_X0_takeWay_104, cls_59, fv_59_0, fv_59_1, ak_60, al_60, ak_61, al_61, cls_0, fv_0_0, fv_0_1, fv_0_2, fv_0_3, fv_0_4, fv_0_5, fv_0_6, fv_0_7, fv_0_8, fv_0_9, fv_0_10, fv_0_11, fv_0_12, fv_0_13, fv_0_14, fv_0_15, ak_1, al_1, ak_2, al_2, ak_3, al_3, k_isDN (D := D) (show _ ≤ D by omega), hm, hht, f1, f2, v0, sI_a, eqF cds, eqT (show (kO K t : Int) = d by omega), leF (show (i : Int) < 8 by omega), iI_add, iI_sub, iI_mul, iI_neg, iI_lt, iI_le, iI_eq, iI_toInt, tn_n, tn_1, inb_I, Int.reduceEq, Int.reduceLT, Int.reduceLE, Int.reduceAdd, Int.reduceSub, Int.reduceMul, Int.reduceNeg, Int.reduceToNat, Nat.reduceAdd, Nat.reduceMul, Int.reduceNatCast, reduceCtorEq, Int.cast_ofNat_Int, bi_tr, bi_fa, bi_0, bi_1, not_true_eq_false, not_false_eq_true, rnk_v, rnk_n, ↓reduceIte, i00, i11, ibi, or_true, true_or, and_true, true_and, List.cons_append, List.nil_append, Option.toList, nop]
      exact a1
    · have same : f' t = f t := by
        rcases h8 t ht with z | ⟨x, z1, z2 | z2⟩
        · exact z
        · rw [c2] at z2; subst z2; omega
        · rw [z2] at c4; omega
      have c1' : -f t < fc (G.2.2 t) := of_decide_eq_true c1
      have hne : ¬ (kO K t : Int) = d := by
        have := g1.1.2.2
        omega
      have w1 := RepFl_put h5 t (-1)
      have e1 : iI (f' t - 1) = iI (f' t + -1) := rfl
      have s1 : Sm [60] M (sI M 60 t (iI (f' t + -1))) := Sm_sI (by simp)
      obtain ⟨M', f'', a1, a2, a3, a4, a5⟩ := ih (i + 1) (kO K t) (sI M 60 t (iI (f' t + -1))) (fl f' t (-1)) (some (.int (iI t))) (by omega) (by omega) c3 (Rep_o h0 h4 s1 (by simp)) w1 (fun d hd hs => by rw [sI_a _ _ (by omega)]; exact h6 d hd hs) (fl_ok h7 (Or.inr rfl) (fun z => by omega) (fun _ => by rw [same]; exact c1')) (by
        intro u hu
        by_cases y : u = t
        · subst y; exact Or.inr ⟨d, c4, Or.inl c2⟩
        · rw [show fl f' t (-1) u = f' u from if_neg y]
          rcases h8 u hu with z | ⟨x, z1, z2⟩
          · exact Or.inl z
          · exact Or.inr ⟨x, by omega, z2⟩) (by
        intro e
        rw [nt_fl, h9 e, if_pos ht, c2]
        have e1 : i1 (kO K t = e) (-1) = -i1 (e = kO K t) 1 := by unfold i1; simp only [eq_comm]; split <;> rfl
        have e2 : i1 (d = e) (-1) = -i1 (e = d) 1 := by unfold i1; simp only [eq_comm]; split <;> rfl
        rw [e1, e2]; omega)
      refine ⟨M', f'', ?_, a2, a3, a4, Sm_tr s1 a5⟩
      rw [s_X0_takeWay_6]
      simp (maxSteps := 4000000) (disch := omega) only [s_X0_takeWay_8, s_X0_takeWay_10, s_X0_takeWay_13, s_X0_takeWay_15, s_X0_takeWay_16, s_X0_takeWay_19, s_X0_takeWay_21, s_X0_takeWay_24, s_X0_takeWay_27, s_X0_takeWay_28, s_X0_takeWay_31, s_X0_takeWay_33, s_X0_takeWay_34, s_X0_takeWay_36, s_X0_takeWay_37, s_X0_takeWay_39, s_X0_takeWay_42, s_X0_takeWay_45, s_X0_takeWay_46, s_X0_takeWay_47, s_X0_takeWay_50, s_X0_takeWay_52, s_X0_takeWay_53, s_X0_takeWay_55, s_X0_takeWay_58, s_X0_takeWay_59, s_X0_takeWay_62, s_X0_takeWay_64, s_X0_takeWay_65, s_X0_takeWay_66, s_X0_takeWay_67, s_X0_takeWay_68, s_X0_takeWay_69, s_X0_takeWay_70, s_X0_takeWay_73, s_X0_takeWay_75, s_X0_takeWay_76, s_X0_takeWay_78, s_X0_takeWay_81, s_X0_takeWay_82, s_X0_takeWay_85, s_X0_takeWay_87, s_X0_takeWay_88, s_X0_takeWay_89, s_X0_takeWay_90, s_X0_takeWay_91, s_X0_takeWay_92, s_X0_takeWay_93, s_X0_takeWay_96, s_X0_takeWay_98, s_X0_takeWay_99, s_X0_takeWay_101, s_X0_takeWay_104, cls_59, fv_59_0, fv_59_1, ak_60, al_60, ak_61, al_61, cls_0, fv_0_0, fv_0_1, fv_0_2, fv_0_3, fv_0_4, fv_0_5, fv_0_6, fv_0_7, fv_0_8, fv_0_9, fv_0_10, fv_0_11, fv_0_12, fv_0_13, fv_0_14, fv_0_15, ak_1, al_1, ak_2, al_2, ak_3, al_3, k_isDN (D := D) (show _ ≤ D by omega), hm, hht, f1, f2, v0, e1, sI_a, eqF cds, eqF hne, leF (show (i : Int) < 8 by omega), iI_add, iI_sub, iI_mul, iI_neg, iI_lt, iI_le, iI_eq, iI_toInt, tn_n, tn_1, inb_I, Int.reduceEq, Int.reduceLT, Int.reduceLE, Int.reduceAdd, Int.reduceSub, Int.reduceMul, Int.reduceNeg, Int.reduceToNat, Nat.reduceAdd, Nat.reduceMul, Int.reduceNatCast, reduceCtorEq, Int.cast_ofNat_Int, bi_tr, bi_fa, bi_0, bi_1, not_true_eq_false, not_false_eq_true, rnk_v, rnk_n, ↓reduceIte, i00, i11, ibi, or_true, true_or, and_true, true_and, List.cons_append, List.nil_append, Option.toList, nop]
      exact a1
theorem k_X0_takeWay {D : Nat} (hD : 2 ≤ D) {M : tM} {K : tK} {G : tG} (hR : Rep M 0 K) (hI : kInv K) {f : Nat → Int} (hf : RepFl M K f) (hF : fF K G f) {s g : Nat} {Z : Nat → Bool} (hP : PT M K (rG G f) s Z) (hg : Z g = true) : ∃ M' f', exF D m_X0_takeWay [.ref 59, .ref 0, .int (iI s), .int (iI g)] M = some (none, M') ∧ RepFl M' K f' ∧ fF K G f' ∧ (∀ e, nt K f' e (kT K) = nt K f e (kT K) + i1 (e = s) 1 - i1 (e = g) 1) ∧ Sm [60] M M' := by
  obtain ⟨D, rfl⟩ : ∃ D0, D = D0 + 1 := ⟨D - 1, by omega⟩
  obtain ⟨cb, rk, k, hp, hm⟩ := hP
  have hk := hp.2.1
  have hk8 := ctn_le Z 8
  have hrk := (hp.2.2.1 g hg).2
  obtain ⟨M', f', a1, a2, a3, a4, a5⟩ := l_tw (D := D) (by omega) hI (g := g) hp (rk g) 0 g M f none (Nat.le_refl _) (by omega) hg hR hf hm hF (fun t _ => Or.inl rfl) (fun e => by omega)
  refine ⟨M', f', ?_, a2, a3, a4, a5⟩
  simp (maxSteps := 4000000) (disch := omega) only [en_X0_takeWay, s_X0_takeWay_0, s_X0_takeWay_1, s_X0_takeWay_3, s_X0_takeWay_4, iI_add, iI_sub, iI_mul, iI_neg, iI_lt, iI_le, iI_eq, iI_toInt, tn_n, tn_1, inb_I, Int.reduceEq, Int.reduceLT, Int.reduceLE, Int.reduceAdd, Int.reduceSub, Int.reduceMul, Int.reduceNeg, Int.reduceToNat, Nat.reduceAdd, Nat.reduceMul, Int.reduceNatCast, reduceCtorEq, Int.cast_ofNat_Int, bi_tr, bi_fa, bi_0, bi_1, not_true_eq_false, not_false_eq_true, rnk_v, rnk_n, ↓reduceIte, i00, i11, ibi, or_true, true_or, and_true, true_and, List.cons_append, List.nil_append, Option.toList, nop]
  exact a1
/-- no more ways than tubes -/
theorem nt_max {K : tK} {G : tG} (hI : kInv K) {f : Nat → Int} (hF : fF K G f) (s : Nat) : ∀ n, n ≤ kT K → nt K f s n ≤ n ∧ (nt K f s n = n → ∀ t, t < n → (kF K t = s ∧ f t = 1) ∨ (kO K t = s ∧ f t = -1))
  | 0, _ => ⟨Int.le_refl _, fun _ t ht => absurd ht (by omega)⟩
  | n + 1, hn => by
    obtain ⟨h1, h2⟩ := nt_max hI hF s n (by omega)
    have g := kI_t hI (show n < kT K by omega)
    have r := fF_rng hF (show n < kT K by omega)
    have key : i1 (kF K n = s) (f n) - i1 (kO K n = s) (f n) ≤ 1 ∧ (i1 (kF K n = s) (f n) - i1 (kO K n = s) (f n) = 1 → (kF K n = s ∧ f n = 1) ∨ (kO K n = s ∧ f n = -1)) := by
      have hne := g.1.2.2
      unfold i1
      by_cases c1 : kF K n = s
      · have c2 : ¬ kO K n = s := fun x => hne (by rw [c1, x])
        rw [if_pos c1, if_neg c2]
        exact ⟨by omega, fun z => Or.inl ⟨c1, by omega⟩⟩
      · rw [if_neg c1]
        by_cases c2 : kO K n = s
        · rw [if_pos c2]; exact ⟨by omega, fun z => Or.inr ⟨c2, by omega⟩⟩
        · rw [if_neg c2]; exact ⟨by omega, fun z => by omega⟩
    have e : nt K f s (n + 1) = nt K f s n + (i1 (kF K n = s) (f n) - i1 (kO K n = s) (f n)) := by
      show nt K f s n + i1 (kF K n = s) (f n) - i1 (kO K n = s) (f n) = _
      omega
    rw [e]
    refine ⟨by omega, fun z t ht => ?_⟩
    by_cases y : t = n
    · subst y; exact key.2 (by omega)
    · exact h2 (by omega) t (by omega)
theorem cons_v {K : tK} {f : Nat → Int} {a b : Nat} {v : Int} (h : cons K f a b v) (hab : a ≠ b) : nt K f a (kT K) = v := by
  rw [h a]
  have e1 : i1 (a = a) v = v := if_pos rfl
  have e2 : i1 (a = b) v = 0 := if_neg hab
  rw [e1, e2]; omega
theorem cons_le {K : tK} {G : tG} (hI : kInv K) {f : Nat → Int} (hF : fF K G f) {a b : Nat} {v : Int} (h : cons K f a b v) (hab : a ≠ b) : v ≤ (kT K : Int) := by
  have := (nt_max hI hF a (kT K) (Nat.le_refl _)).1
  rw [cons_v h hab] at this
  exact this
theorem isV_sat {K : tK} {G : tG} (hI : kInv K) {f : Nat → Int} (hF : fF K G f) {a b : Nat} (h : cons K f a b (kT K : Int)) (hab : a ≠ b) : isV K G a b (kT K : Int) := by
  have hs := (nt_max hI hF a (kT K) (Nat.le_refl _)).2 (cons_v h hab)
  refine ⟨f, fun d => decide (d = a), hF, h, ?_, decide_eq_true rfl, decide_eq_false (fun e => hab e.symm)⟩
  intro t ht
  have g := kI_t hI ht
  have hne := g.1.2.2
  have c1 : 0 ≤ fc (G.2.1 t) ∧ fc (G.2.1 t) ≤ 1 := by unfold fc; split <;> omega
  have c2 : 0 ≤ fc (G.2.2 t) ∧ fc (G.2.2 t) ≤ 1 := by unfold fc; split <;> omega
  refine ⟨fun s1 s2 => ?_, fun s1 s2 => ?_⟩
  · have s1' : kF K t = a := of_decide_eq_true s1
    have s2' : ¬ kO K t = a := of_decide_eq_false s2
    rcases hs t ht with ⟨-, z⟩ | ⟨z, -⟩
    · omega
    · exact absurd z s2'
  · have s1' : kO K t = a := of_decide_eq_true s1
    have s2' : ¬ kF K t = a := of_decide_eq_false s2
    rcases hs t ht with ⟨z, -⟩ | ⟨-, z⟩
    · exact absurd z s2'
    · omega
theorem cons_up {K : tK} {f f' : Nat → Int} {a b : Nat} {v : Int} (h : cons K f a b v) (h2 : ∀ e, nt K f' e (kT K) = nt K f e (kT K) + i1 (e = a) 1 - i1 (e = b) 1) : cons K f' a b (v + 1) := by
  intro d
  rw [h2 d, h d, i1_add, i1_add]
  omega
theorem nt_0 (K : tK) (d : Nat) : ∀ n, nt K (fun _ => 0) d n = 0
  | 0 => rfl
  | n + 1 => by simp only [nt, i1_0]; rw [nt_0 K d n]; rfl
theorem cons_0 (K : tK) (a b : Nat) : cons K (fun _ => 0) a b 0 := fun d => by rw [nt_0, i1_0, i1_0]; rfl
theorem fF_0 (K : tK) (G : tG) : fF K G (fun _ => 0) := by
  intro t _
  have c1 : 0 ≤ fc (G.2.1 t) ∧ fc (G.2.1 t) ≤ 1 := by unfold fc; split <;> omega
  have c2 : 0 ≤ fc (G.2.2 t) ∧ fc (G.2.2 t) ≤ 1 := by unfold fc; split <;> omega
  dsimp only
  omega
