/-! TREE: which tubes would do -/
def fg (g : Nat → Nat) : tF := fun i j => if g i = g j then 0 else 9999
def gu (g : Nat → Nat) (u v : Nat) : Nat → Nat := fun d => if g d = g v then g u else g d
theorem fg_tri (g : Nat → Nat) (a b c : Nat) : min 9999 (fg g a b + fg g b c) ≥ fg g a c := by
  unfold fg
  by_cases h1 : g a = g b
  · by_cases h2 : g b = g c
    · rw [if_pos h1, if_pos h2, if_pos (h1.trans h2)]; omega
    · rw [if_neg h2]; split <;> split <;> omega
  · rw [if_neg h1]; split <;> split <;> omega
theorem fw_lo {f : tF} {g : Nat → Nat} (hd : ∀ i, f i i = 0) {N : Nat} (h : ∀ i, i < N → ∀ j, j < N → fg g i j ≤ f i j) : ∀ n, n ≤ N → ∀ i, i < N → ∀ j, j < N → fg g i j ≤ fwK f N n i j := by
  intro n
  induction n with
  | zero => intro _ i hi j hj; exact h i hi j hj
  | succ n ih =>
    intro hn i hi j hj
    show _ ≤ fwI _ _ _ _ i j
    rw [fwI_eq (fwK_diag hd N n n), if_pos ⟨hi, hj⟩]
    have h1 := ih (by omega) i hi j hj
    have h2 := ih (by omega) i hi n (by omega)
    have h3 := ih (by omega) n (by omega) j hj
    have h4 := fg_tri g i n j
    have h5 : fg g i j ≤ 9999 := by unfold fg; split <;> omega
    omega
theorem gu_step {f : tF} {g : Nat → Nat} {N u v : Nat} (hd : ∀ i, f i i = 0) (h : ∀ i, i < N → ∀ j, j < N → f i j = fg g i j) (hu : u < N) (hv : v < N) (hne : g u ≠ g v) : ∀ i, i < N → ∀ j, j < N → fwK (um (um f u v 0) v u 0) N N i j = fg (gu g u v) i j := by
  have hd1 : ∀ i, um f u v 0 i i = 0 := um_diag hd _ _ _
  have hd2 : ∀ i, um (um f u v 0) v u 0 i i = 0 := um_diag hd1 _ _ _
  have guv : gu g u v u = gu g u v v := by
    unfold gu
    rw [if_neg hne, if_pos rfl]
  have lo0 : ∀ i, i < N → ∀ j, j < N → fg (gu g u v) i j ≤ f i j := by
    intro i hi j hj
    rw [h i hi j hj]
    by_cases e : g i = g j
    · have e1 : gu g u v i = gu g u v j := by unfold gu; rw [e]
      rw [show fg (gu g u v) i j = 0 from if_pos e1]; omega
    · rw [show fg g i j = 9999 from if_neg e]; unfold fg; split <;> omega
  have lo : ∀ i, i < N → ∀ j, j < N → fg (gu g u v) i j ≤ um (um f u v 0) v u 0 i j := by
    have e1 : fg (gu g u v) u v = 0 := if_pos guv
    have e2 : fg (gu g u v) v u = 0 := if_pos guv.symm
    intro i hi j hj
    have h1 := lo0 i hi j hj
    unfold um
    by_cases q : i = v ∧ j = u
    · obtain ⟨rfl, rfl⟩ := q
      rw [if_pos ⟨rfl, rfl⟩, e2]; omega
    · rw [if_neg q]
      by_cases q2 : i = u ∧ j = v
      · obtain ⟨rfl, rfl⟩ := q2
        rw [if_pos ⟨rfl, rfl⟩, e1]; omega
      · rw [if_neg q2]; exact h1
  intro i hi j hj
  have h1 := fw_lo hd2 lo N (Nat.le_refl _) i hi j hj
  have le : ∀ a b, fwK (um (um f u v 0) v u 0) N N a b ≤ f a b := fun a b => Nat.le_trans (fwK_le hd2 N N a b) (Nat.le_trans (um_le _ _ _ _ _ _) (um_le _ _ _ _ _ _))
  have le1 : fwK (um (um f u v 0) v u 0) N N u v ≤ 0 := Nat.le_trans (fwK_le hd2 N N u v) (Nat.le_trans (um_le _ _ _ _ _ _) (um_at _ _ _ _))
  have le2 : fwK (um (um f u v 0) v u 0) N N v u ≤ 0 := Nat.le_trans (fwK_le hd2 N N v u) (um_at _ _ _ _)
  have tri := fwK_tri hd2 N N (Nat.le_refl _)
  have zero : ∀ a b, a < N → b < N → g a = g b → fwK (um (um f u v 0) v u 0) N N a b = 0 := by
    intro a b ha hb e
    have h2 := le a b
    rw [h a ha b hb] at h2
    unfold fg at h2
    rw [if_pos e] at h2
    omega
  by_cases q : gu g u v i = gu g u v j
  · have e : fg (gu g u v) i j = 0 := if_pos q
    rw [e]
    unfold gu at q
    by_cases c1 : g i = g v
    · rw [if_pos c1] at q
      by_cases c2 : g j = g v
      · exact zero i j hi hj (c1.trans c2.symm)
      · rw [if_neg c2] at q
        have t1 := tri i j v hi hj hv
        have t2 := tri v j u hv hj hu
        have z1 := zero i v hi hv c1
        have z2 := zero u j hu hj q
        omega
    · rw [if_neg c1] at q
      by_cases c2 : g j = g v
      · rw [if_pos c2] at q
        have t1 := tri i j u hi hj hu
        have t2 := tri u j v hu hj hv
        have z1 := zero i u hi hu q
        have z2 := zero v j hv hj c2.symm
        omega
      · rw [if_neg c2] at q
        exact zero i j hi hj q
  · have e : fg (gu g u v) i j = 9999 := if_neg q
    have h2 := le i j
    rw [h i hi j hj] at h2
    have h3 : fg g i j ≤ 9999 := by unfold fg; split <;> omega
    omega
/-- groups, sum, bits, how many groups -/
abbrev tW : Type := (Nat → Nat) × Nat × Nat × Int
def tst (K : tK) (L : Nat) (W : tW) (t : Nat) : tW := if kL K t = L ∧ W.1 (kF K t) ≠ W.1 (kO K t) then (gu W.1 (kF K t) (kO K t), W.2.1 + L, W.2.2.1 ||| 2 ^ t, W.2.2.2 - 1) else W
def trT (K : tK) (L : Nat) (W : tW) : Nat → tW
  | 0 => W
  | t + 1 => tst K L (trT K L W t) t
def trL (K : tK) : Nat → tW
  | 0 => (fun d => d, 0, 0, (kD K : Int))
  | l + 1 => trT K (l + 1) (trL K l) (kT K)
def wOK (K : tK) (W : tW) (L t : Nat) : Prop := (∀ d, d < kD K → W.1 d < kD K ∧ W.1 (W.1 d) = W.1 d) ∧ (∀ d, d < 8 → W.1 d < 8) ∧ W.2.2.2 = (ctn (fun d => W.1 d == d) (kD K) : Int) ∧ W.2.1 ≤ 16 * 16 * L + 16 * t ∧ W.2.2.1 < 65536
theorem tst_ok {K : tK} (hI : kInv K) {W : tW} {L t : Nat} (hL : L ≤ 9) (ht : t < kT K) (h : wOK K W L t) : wOK K (tst K L W t) L (t + 1) := by
  have n0 := kI_n hI
  have g1 := kI_t hI ht
  unfold tst
  by_cases q : kL K t = L ∧ W.1 (kF K t) ≠ W.1 (kO K t)
  · rw [if_pos q]
    obtain ⟨h1, h2, h3, h4, h5⟩ := h
    have hF := h1 (kF K t) g1.1.1
    have hO := h1 (kO K t) g1.1.2.1
    refine ⟨?_, ?_, ?_, ?_, ?_⟩
    · intro d hd
      have hdd := h1 d hd
      show gu W.1 (kF K t) (kO K t) d < kD K ∧ gu W.1 (kF K t) (kO K t) (gu W.1 (kF K t) (kO K t) d) = gu W.1 (kF K t) (kO K t) d
      unfold gu
      by_cases c : W.1 d = W.1 (kO K t)
      · rw [if_pos c]
        refine ⟨hF.1, ?_⟩
        rw [hF.2, if_neg q.2]
      · rw [if_neg c]
        refine ⟨hdd.1, ?_⟩
        rw [hdd.2, if_neg c]
    · intro d hd
      show gu W.1 (kF K t) (kO K t) d < 8
      unfold gu
      split
      · omega
      · exact h2 d hd
    · show W.2.2.2 - 1 = _
      rw [h3]
      have e := ctn_sub (p := fun d => W.1 d == d) (d := W.1 (kO K t)) (by simp [hO.2]) hO.1
      rw [e]
      have e2 : ctn (fun i => if i = W.1 (kO K t) then false else W.1 i == i) (kD K) = ctn (fun d => gu W.1 (kF K t) (kO K t) d == d) (kD K) := by
        apply ctn_cong
        intro i hi
        unfold gu
        by_cases c : i = W.1 (kO K t)
        · subst c
          rw [if_pos rfl, hO.2, if_pos rfl]
          exact (beq_eq_false_iff_ne.mpr q.2).symm
        · rw [if_neg c]
          by_cases c2 : W.1 i = W.1 (kO K t)
          · rw [if_pos c2, c2]
            have x1 : ¬ W.1 (kO K t) = i := fun x => c x.symm
            have x2 : ¬ W.1 (kF K t) = i := by
              intro x
              have : W.1 (W.1 (kF K t)) = W.1 i := by rw [x]
              rw [hF.2, c2] at this
              exact q.2 this
            rw [beq_eq_false_iff_ne.mpr x1, beq_eq_false_iff_ne.mpr x2]
          · rw [if_neg c2]
      rw [e2]
      show ((_ + 1 : Nat) : Int) - 1 = (ctn (fun d => gu W.1 (kF K t) (kO K t) d == d) (kD K) : Int)
      omega
    · show W.2.1 + L ≤ _
      omega
    · show _ ||| _ < 2 ^ 16
      exact Nat.or_lt_two_pow h5 (Nat.pow_lt_pow_right (by omega) (by omega))
  · rw [if_neg q]
    obtain ⟨h1, h2, h3, h4, h5⟩ := h
    exact ⟨h1, h2, h3, by omega, h5⟩
theorem trT_ok {K : tK} (hI : kInv K) {W : tW} {L : Nat} (hL : L ≤ 9) (h : wOK K W L 0) : ∀ t, t ≤ kT K → wOK K (trT K L W t) L t
  | 0, _ => h
  | t + 1, ht => tst_ok hI hL (by omega) (trT_ok hI hL h t (by omega))
theorem ctn_all {p : Nat → Bool} : ∀ {n : Nat}, (∀ i, i < n → p i = true) → ctn p n = n
  | 0, _ => rfl
  | n + 1, h => by simp only [ctn]; rw [ctn_all (fun i hi => h i (by omega)), if_pos (h n (by omega))]
theorem wOK_up {K : tK} (hI : kInv K) {W : tW} {L : Nat} (h : wOK K W L (kT K)) : wOK K W (L + 1) 0 := by
  have n0 := kI_n hI
  obtain ⟨h1, h2, h3, h4, h5⟩ := h
  exact ⟨h1, h2, h3, by omega, h5⟩
theorem trL_ok {K : tK} (hI : kInv K) : ∀ l, l ≤ 9 → wOK K (trL K l) (l + 1) 0
  | 0, _ => ⟨fun d hd => ⟨hd, rfl⟩, fun d hd => hd, by
      show (kD K : Int) = _
      rw [ctn_all (fun i _ => by simp [trL])], by show (0 : Nat) ≤ _; omega, by show (0 : Nat) < _; omega⟩
  | l + 1, hl => wOK_up hI (trT_ok hI hl (trL_ok hI l (by omega)) (kT K) (Nat.le_refl _))
/-- few groups: all in one -/
theorem one_group {K : tK} {W : tW} (h1 : ∀ d, d < kD K → W.1 d < kD K ∧ W.1 (W.1 d) = W.1 d) (h3 : W.2.2.2 = (ctn (fun d => W.1 d == d) (kD K) : Int)) : W.2.2.2 ≤ 1 ↔ ∀ d, d < kD K → W.1 0 = W.1 d := by
  rw [h3]
  constructor
  · intro hc d hd
    by_cases q : W.1 0 = W.1 d
    · exact q
    · exfalso
      have a := h1 d hd
      have b := h1 0 (by omega)
      have e1 := ctn_sub (p := fun d => W.1 d == d) (d := W.1 0) (by simp [b.2]) b.1
      have e2 := ctn_sub (p := fun i => if i = W.1 0 then false else W.1 i == i) (d := W.1 d) (by
        have : ¬ W.1 d = W.1 0 := fun x => q x.symm
        simp [this, a.2]) a.1
      omega
  · intro hall
    by_cases q : kD K = 0
    · rw [q]; simp [ctn]
    · have b := h1 0 (by omega)
      have e1 := ctn_sub (p := fun d => W.1 d == d) (d := W.1 0) (by simp [b.2]) b.1
      have e2 : ctn (fun i => if i = W.1 0 then false else W.1 i == i) (kD K) = 0 := by
        have : ∀ n, n ≤ kD K → ctn (fun i => if i = W.1 0 then false else W.1 i == i) n = 0 := by
          intro n
          induction n with
          | zero => intro _; rfl
          | succ n ih =>
            intro hn
            simp only [ctn, ih (by omega)]
            have x := hall n (by omega)
            by_cases c : n = W.1 0
            · simp [c]
            · have c' : ¬ W.1 n = n := fun y => c (by rw [x]; exact y.symm)
              simp [c, c']
        exact this _ (Nat.le_refl _)
      omega
/-! THE CLASS -/
def RepJ (M : tM) (W : tW) : Prop := (∀ d, d < 8 → M.1 81 d = iI (W.1 d)) ∧ M.1 80 1 = iI (W.2.1) ∧ M.1 80 2 = iI (W.2.2.1)
theorem k_X2_joins {D : Nat} (hD : 2 ≤ D) {M : tM} {g : Nat → Nat} (hg : ∀ d, d < 8 → M.1 81 d = iI (g d)) (hl : ∀ d, d < 8 → g d < 8) {u v : Nat} (hu : u < 8) (hv : v < 8) : ∃ M', exF D m_X2_joins [.ref 80, .int (iI u), .int (iI v)] M = some (some (.int (bi (g u ≠ g v))), M') ∧ (∀ d, d < 8 → M'.1 81 d = iI (if g u ≠ g v then gu g u v d else g d)) ∧ Sm [81] M M' := by
  obtain ⟨D, rfl⟩ : ∃ D0, D = D0 + 1 := ⟨D - 1, by omega⟩
  have a1 := hg u hu
  have a2 := hg v hv
  have b1 := hl u hu
  have b2 := hl v hv
  by_cases q : g u = g v
  · refine ⟨M, ?_, fun d hd => ?_, Sm_rf _ _⟩
    · rw [bi_f (fun h => h q)]
      simp (maxSteps := 4000000) (disch := omega) only [en_X2_joins, s_X2_joins_0, s_X2_joins_1, s_X2_joins_4, s_X2_joins_7, s_X2_joins_8, s_X2_joins_11, s_X2_joins_14, s_X2_joins_15, s_X2_joins_16, s_X2_joins_17, s_X2_joins_20, s_X2_joins_21, s_X2_joins_22, s_X2_joins_23, s_X2_joins_24, s_X2_joins_27, s_X2_joins_28, s_X2_joins_29, s_X2_joins_31, s_X2_joins_32, s_X2_joins_34, s_X2_joins_37, s_X2_joins_38, s_X2_joins_39, s_X2_joins_40, s_X2_joins_42, s_X2_joins_44, s_X2_joins_46, s_X2_joins_49, s_X2_joins_50, s_X2_joins_53, s_X2_joins_55, s_X2_joins_56, s_X2_joins_58, s_X2_joins_61, s_X2_joins_62, s_X2_joins_65, s_X2_joins_67, s_X2_joins_68, s_X2_joins_69, s_X2_joins_72, s_X2_joins_75, s_X2_joins_76, cls_80, fv_80_0, fv_80_1, fv_80_2, ak_81, al_81, k_isDN (D := D) (show _ ≤ D by omega), a1, a2, eqT (show (g u : Int) = (g v : Int) by omega), iI_add, iI_sub, iI_mul, iI_neg, iI_lt, iI_le, iI_eq, iI_toInt, tn_n, tn_1, inb_I, Int.reduceEq, Int.reduceLT, Int.reduceLE, Int.reduceAdd, Int.reduceSub, Int.reduceMul, Int.reduceNeg, Int.reduceToNat, Nat.reduceAdd, Nat.reduceMul, Int.reduceNatCast, reduceCtorEq, Int.cast_ofNat_Int, bi_tr, bi_fa, bi_0, bi_1, not_true_eq_false, not_false_eq_true, rnk_v, rnk_n, ↓reduceIte, i00, i11, ibi, or_true, true_or, and_true, true_and, List.cons_append, List.nil_append, Option.toList, nop]
    · rw [if_neg (fun h => h q)]; exact hg d hd
  · obtain ⟨M', e, p1, p2⟩ := lp (f := fun d (N : tM) => rn (exF D) C_X2_joins 42 [some (.ref 80), some (.int (iI u)), some (.int (iI v)), some (.int (iI (g u))), some (.int (iI (g v))), some (.int (iI d))] [] N) (P := fun d N => Sm [81] M N ∧ ∀ x, x < 8 → N.1 81 x = iI (if x < d then gu g u v x else g x)) (n := 8) (by
      rintro d N hd ⟨p1, p2⟩
      have c1 := p2 d hd
      rw [if_neg (by omega)] at c1
      have c2 := hl d hd
      by_cases c : g d = g v
      · refine ⟨sI N 81 d (iI (g u)), ?_, Sm_tr p1 (Sm_sI (by simp)), ?_⟩
        · intro X hX
          show rn _ _ _ _ _ _ = X
          rw [s_X2_joins_42]
          simp (maxSteps := 4000000) (disch := omega) only [s_X2_joins_44, s_X2_joins_46, s_X2_joins_49, s_X2_joins_50, s_X2_joins_53, s_X2_joins_55, s_X2_joins_56, s_X2_joins_58, s_X2_joins_61, s_X2_joins_62, s_X2_joins_65, s_X2_joins_67, s_X2_joins_68, s_X2_joins_69, s_X2_joins_72, cls_80, fv_80_0, fv_80_1, fv_80_2, ak_81, al_81, c1, eqT (show (g d : Int) = (g v : Int) by omega), leF (show (d : Int) < 8 by omega), iI_add, iI_sub, iI_mul, iI_neg, iI_lt, iI_le, iI_eq, iI_toInt, tn_n, tn_1, inb_I, Int.reduceEq, Int.reduceLT, Int.reduceLE, Int.reduceAdd, Int.reduceSub, Int.reduceMul, Int.reduceNeg, Int.reduceToNat, Nat.reduceAdd, Nat.reduceMul, Int.reduceNatCast, reduceCtorEq, Int.cast_ofNat_Int, bi_tr, bi_fa, bi_0, bi_1, not_true_eq_false, not_false_eq_true, rnk_v, rnk_n, ↓reduceIte, i00, i11, ibi, or_true, true_or, and_true, true_and, List.cons_append, List.nil_append, Option.toList, nop]
          exact hX
        · intro x hx
          by_cases y : x = d
          · subst y; rw [sI_s, if_pos (by omega)]; simp [gu, c]
          · rw [sI_k _ _ y, p2 x hx]; simp [show (x < d + 1) = (x < d) by apply propext; omega]
      · refine ⟨N, ?_, p1, ?_⟩
        · intro X hX
          show rn _ _ _ _ _ _ = X
          rw [s_X2_joins_42]
          simp (maxSteps := 4000000) (disch := omega) only [s_X2_joins_44, s_X2_joins_46, s_X2_joins_49, s_X2_joins_50, s_X2_joins_53, s_X2_joins_55, s_X2_joins_56, s_X2_joins_58, s_X2_joins_61, s_X2_joins_62, s_X2_joins_65, s_X2_joins_67, s_X2_joins_68, s_X2_joins_69, s_X2_joins_72, cls_80, fv_80_0, fv_80_1, fv_80_2, ak_81, al_81, c1, eqF (show ¬ (g d : Int) = (g v : Int) by omega), leF (show (d : Int) < 8 by omega), iI_add, iI_sub, iI_mul, iI_neg, iI_lt, iI_le, iI_eq, iI_toInt, tn_n, tn_1, inb_I, Int.reduceEq, Int.reduceLT, Int.reduceLE, Int.reduceAdd, Int.reduceSub, Int.reduceMul, Int.reduceNeg, Int.reduceToNat, Nat.reduceAdd, Nat.reduceMul, Int.reduceNatCast, reduceCtorEq, Int.cast_ofNat_Int, bi_tr, bi_fa, bi_0, bi_1, not_true_eq_false, not_false_eq_true, rnk_v, rnk_n, ↓reduceIte, i00, i11, ibi, or_true, true_or, and_true, true_and, List.cons_append, List.nil_append, Option.toList, nop]
          exact hX
        · intro x hx
          by_cases y : x = d
          · subst y; rw [c1, if_pos (by omega)]; simp [gu, c]
          · rw [p2 x hx]; simp [show (x < d + 1) = (x < d) by apply propext; omega]) (Nat.zero_le _) (a := M) ⟨Sm_rf _ _, fun x hx => by rw [if_neg (by omega)]; exact hg x hx⟩
    refine ⟨M', ?_, ?_, p1⟩
    · rw [bi_t q]
      simp (maxSteps := 4000000) (disch := omega) only [en_X2_joins, s_X2_joins_0, s_X2_joins_1, s_X2_joins_4, s_X2_joins_7, s_X2_joins_8, s_X2_joins_11, s_X2_joins_14, s_X2_joins_15, s_X2_joins_16, s_X2_joins_17, s_X2_joins_20, s_X2_joins_21, s_X2_joins_22, s_X2_joins_23, s_X2_joins_24, s_X2_joins_27, s_X2_joins_28, s_X2_joins_29, s_X2_joins_31, s_X2_joins_32, s_X2_joins_34, s_X2_joins_37, s_X2_joins_38, s_X2_joins_39, s_X2_joins_40, cls_80, fv_80_0, fv_80_1, fv_80_2, ak_81, al_81, k_isDN (D := D) (show _ ≤ D by omega), a1, a2, eqF (show ¬ (g u : Int) = (g v : Int) by omega), iI_add, iI_sub, iI_mul, iI_neg, iI_lt, iI_le, iI_eq, iI_toInt, tn_n, tn_1, inb_I, Int.reduceEq, Int.reduceLT, Int.reduceLE, Int.reduceAdd, Int.reduceSub, Int.reduceMul, Int.reduceNeg, Int.reduceToNat, Nat.reduceAdd, Nat.reduceMul, Int.reduceNatCast, reduceCtorEq, Int.cast_ofNat_Int, bi_tr, bi_fa, bi_0, bi_1, not_true_eq_false, not_false_eq_true, rnk_v, rnk_n, ↓reduceIte, i00, i11, ibi, or_true, true_or, and_true, true_and, List.cons_append, List.nil_append, Option.toList, nop]
      refine Eq.trans e ?_
      simp (maxSteps := 4000000) (disch := omega) only [s_X2_joins_42, s_X2_joins_44, s_X2_joins_46, s_X2_joins_75, s_X2_joins_76, leT (show (8 : Int) ≤ 8 by omega), iI_add, iI_sub, iI_mul, iI_neg, iI_lt, iI_le, iI_eq, iI_toInt, tn_n, tn_1, inb_I, Int.reduceEq, Int.reduceLT, Int.reduceLE, Int.reduceAdd, Int.reduceSub, Int.reduceMul, Int.reduceNeg, Int.reduceToNat, Nat.reduceAdd, Nat.reduceMul, Int.reduceNatCast, reduceCtorEq, Int.cast_ofNat_Int, bi_tr, bi_fa, bi_0, bi_1, not_true_eq_false, not_false_eq_true, rnk_v, rnk_n, ↓reduceIte, i00, i11, ibi, or_true, true_or, and_true, true_and, List.cons_append, List.nil_append, Option.toList, nop]
    · intro d hd
      rw [p2 d hd, if_pos hd, if_pos q]
theorem l_join1 {D : Nat} (hD : 2 ≤ D) {M : tM} {K : tK} (hR : Rep M 0 K) (hI : kInv K) {W : tW} {L t : Nat} (hL : L ≤ 9) (ht : t < kT K) (hW : wOK K W L t) (hJ : RepJ M W) : ∃ M', rn (exF D) C_X2_joinAll 63 [some (.ref 80), some (.ref 0), some (.int (iI W.2.2.2)), some (.int (iI L)), some (.int (iI t))] [] M = rn (exF D) C_X2_joinAll 121 [some (.ref 80), some (.ref 0), some (.int (iI (tst K L W t).2.2.2)), some (.int (iI L)), some (.int (iI t))] [] M' ∧ RepJ M' (tst K L W t) ∧ Sm [80, 81] M M' := by
  have n0 := kI_n hI
  have g1 := kI_t hI ht
  obtain ⟨f1, f2, f3, f4⟩ := R0_t hR ht
  obtain ⟨j1, j2, j3⟩ := hJ
  obtain ⟨w1, w2, w3, w4, w5⟩ := hW
  by_cases q1 : kL K t = L
  · obtain ⟨M1, k1, k2, k3⟩ := k_X2_joins (D := D) (by omega) j1 w2 (u := kF K t) (v := kO K t) (by omega) (by omega)
    by_cases q2 : W.1 (kF K t) = W.1 (kO K t)
    · have e : tst K L W t = W := if_neg (fun h => h.2 q2)
      rw [e]
      rw [bi_f (fun h => h q2)] at k1
      refine ⟨M1, ?_, ⟨fun d hd => ?_, ?_, ?_⟩, Sm_mono (by simp) k3⟩
      · simp (maxSteps := 4000000) (disch := omega) only [s_X2_joinAll_63, s_X2_joinAll_64, s_X2_joinAll_67, s_X2_joinAll_69, s_X2_joinAll_70, s_X2_joinAll_71, s_X2_joinAll_74, s_X2_joinAll_75, s_X2_joinAll_76, s_X2_joinAll_79, s_X2_joinAll_81, s_X2_joinAll_82, s_X2_joinAll_83, s_X2_joinAll_86, s_X2_joinAll_88, s_X2_joinAll_89, s_X2_joinAll_92, s_X2_joinAll_95, s_X2_joinAll_96, s_X2_joinAll_96b, s_X2_joinAll_97, s_X2_joinAll_100, s_X2_joinAll_101, s_X2_joinAll_102, s_X2_joinAll_105, s_X2_joinAll_106, s_X2_joinAll_106b, s_X2_joinAll_107, s_X2_joinAll_110, s_X2_joinAll_111, s_X2_joinAll_113, s_X2_joinAll_114, s_X2_joinAll_115, s_X2_joinAll_118, cls_80, fv_80_0, fv_80_1, fv_80_2, cls_0, fv_0_0, fv_0_1, fv_0_2, fv_0_3, fv_0_4, fv_0_5, fv_0_6, fv_0_7, fv_0_8, fv_0_9, fv_0_10, fv_0_11, fv_0_12, fv_0_13, fv_0_14, fv_0_15, ak_1, al_1, ak_2, al_2, ak_3, al_3, ak_4, al_4, ak_5, al_5, ak_6, al_6, ak_7, al_7, ak_8, al_8, ak_9, al_9, f1, f2, f3, k1, eqT (show (kL K t : Int) = (L : Int) by omega), iI_add, iI_sub, iI_mul, iI_neg, iI_lt, iI_le, iI_eq, iI_toInt, tn_n, tn_1, inb_I, Int.reduceEq, Int.reduceLT, Int.reduceLE, Int.reduceAdd, Int.reduceSub, Int.reduceMul, Int.reduceNeg, Int.reduceToNat, Nat.reduceAdd, Nat.reduceMul, Int.reduceNatCast, reduceCtorEq, Int.cast_ofNat_Int, bi_tr, bi_fa, bi_0, bi_1, not_true_eq_false, not_false_eq_true, rnk_v, rnk_n, ↓reduceIte, i00, i11, ibi, or_true, true_or, and_true, true_and, List.cons_append, List.nil_append, Option.toList, nop]
      · rw [k2 d hd, if_neg (fun h => h q2)]
      · rw [(k3 80 (by simp)).1]; exact j2
      · rw [(k3 80 (by simp)).1]; exact j3
    · have e : tst K L W t = (gu W.1 (kF K t) (kO K t), W.2.1 + L, W.2.2.1 ||| 2 ^ t, W.2.2.2 - 1) := if_pos ⟨q1, q2⟩
      rw [e]
      rw [bi_t q2] at k1
      have j2' : M1.1 80 1 = iI (W.2.1) := by rw [(k3 80 (by simp)).1]; exact j2
      have j3' : M1.1 80 2 = iI (W.2.2.1) := by rw [(k3 80 (by simp)).1]; exact j3
      refine ⟨sI (sI M1 80 1 (iI ((W.2.1 : Int) + L))) 80 2 (iI ((W.2.2.1 ||| 2 ^ t : Nat) : Int)), ?_, ⟨fun d hd => ?_, ?_, ?_⟩, Sm_tr (Sm_mono (by simp) k3) (Sm_tr (Sm_sI (by simp)) (Sm_sI (by simp)))⟩
      · simp (maxSteps := 4000000) (disch := omega) only [s_X2_joinAll_63, s_X2_joinAll_64, s_X2_joinAll_67, s_X2_joinAll_69, s_X2_joinAll_70, s_X2_joinAll_71, s_X2_joinAll_74, s_X2_joinAll_75, s_X2_joinAll_76, s_X2_joinAll_79, s_X2_joinAll_81, s_X2_joinAll_82, s_X2_joinAll_83, s_X2_joinAll_86, s_X2_joinAll_88, s_X2_joinAll_89, s_X2_joinAll_92, s_X2_joinAll_95, s_X2_joinAll_96, s_X2_joinAll_96b, s_X2_joinAll_97, s_X2_joinAll_100, s_X2_joinAll_101, s_X2_joinAll_102, s_X2_joinAll_105, s_X2_joinAll_106, s_X2_joinAll_106b, s_X2_joinAll_107, s_X2_joinAll_110, s_X2_joinAll_111, s_X2_joinAll_113, s_X2_joinAll_114, s_X2_joinAll_115, s_X2_joinAll_118, cls_80, fv_80_0, fv_80_1, fv_80_2, cls_0, fv_0_0, fv_0_1, fv_0_2, fv_0_3, fv_0_4, fv_0_5, fv_0_6, fv_0_7, fv_0_8, fv_0_9, fv_0_10, fv_0_11, fv_0_12, fv_0_13, fv_0_14, fv_0_15, ak_1, al_1, ak_2, al_2, ak_3, al_3, ak_4, al_4, ak_5, al_5, ak_6, al_6, ak_7, al_7, ak_8, al_8, ak_9, al_9, f1, f2, f3, k1, j2', j3', sI_k, iI_shl1, iI_or, eqT (show (kL K t : Int) = (L : Int) by omega), iI_add, iI_sub, iI_mul, iI_neg, iI_lt, iI_le, iI_eq, iI_toInt, tn_n, tn_1, inb_I, Int.reduceEq, Int.reduceLT, Int.reduceLE, Int.reduceAdd, Int.reduceSub, Int.reduceMul, Int.reduceNeg, Int.reduceToNat, Nat.reduceAdd, Nat.reduceMul, Int.reduceNatCast, reduceCtorEq, Int.cast_ofNat_Int, bi_tr, bi_fa, bi_0, bi_1, not_true_eq_false, not_false_eq_true, rnk_v, rnk_n, ↓reduceIte, i00, i11, ibi, or_true, true_or, and_true, true_and, List.cons_append, List.nil_append, Option.toList, nop]
        rfl
      · simp (disch := omega) only [sI_a]
        rw [k2 d hd, if_pos q2]
      · rw [sI_k _ _ (by omega), sI_s]; rfl
      · rw [sI_s]
  · have e : tst K L W t = W := if_neg (fun h => q1 h.1)
    rw [e]
    refine ⟨M, ?_, ⟨j1, j2, j3⟩, Sm_rf _ _⟩
    simp (maxSteps := 4000000) (disch := omega) only [s_X2_joinAll_63, s_X2_joinAll_64, s_X2_joinAll_67, s_X2_joinAll_69, s_X2_joinAll_70, s_X2_joinAll_71, s_X2_joinAll_74, s_X2_joinAll_75, s_X2_joinAll_76, s_X2_joinAll_79, s_X2_joinAll_81, s_X2_joinAll_82, s_X2_joinAll_83, s_X2_joinAll_86, s_X2_joinAll_88, s_X2_joinAll_89, s_X2_joinAll_92, s_X2_joinAll_95, s_X2_joinAll_96, s_X2_joinAll_96b, s_X2_joinAll_97, s_X2_joinAll_100, s_X2_joinAll_101, s_X2_joinAll_102, s_X2_joinAll_105, s_X2_joinAll_106, s_X2_joinAll_106b, s_X2_joinAll_107, s_X2_joinAll_110, s_X2_joinAll_111, s_X2_joinAll_113, s_X2_joinAll_114, s_X2_joinAll_115, s_X2_joinAll_118, cls_80, fv_80_0, fv_80_1, fv_80_2, cls_0, fv_0_0, fv_0_1, fv_0_2, fv_0_3, fv_0_4, fv_0_5, fv_0_6, fv_0_7, fv_0_8, fv_0_9, fv_0_10, fv_0_11, fv_0_12, fv_0_13, fv_0_14, fv_0_15, ak_1, al_1, ak_2, al_2, ak_3, al_3, ak_4, al_4, ak_5, al_5, ak_6, al_6, ak_7, al_7, ak_8, al_8, ak_9, al_9, f3, eqF (show ¬ (kL K t : Int) = (L : Int) by omega), iI_add, iI_sub, iI_mul, iI_neg, iI_lt, iI_le, iI_eq, iI_toInt, tn_n, tn_1, inb_I, Int.reduceEq, Int.reduceLT, Int.reduceLE, Int.reduceAdd, Int.reduceSub, Int.reduceMul, Int.reduceNeg, Int.reduceToNat, Nat.reduceAdd, Nat.reduceMul, Int.reduceNatCast, reduceCtorEq, Int.cast_ofNat_Int, bi_tr, bi_fa, bi_0, bi_1, not_true_eq_false, not_false_eq_true, rnk_v, rnk_n, ↓reduceIte, i00, i11, ibi, or_true, true_or, and_true, true_and, List.cons_append, List.nil_append, Option.toList, nop]
theorem k_X2_joinAll {D : Nat} (hD : 3 ≤ D) {M : tM} {K : tK} (hR : Rep M 0 K) (hI : kInv K) : ∃ M', exF D m_X2_joinAll [.ref 80, .ref 0] M = some (some (.int (bi ((trL K 9).2.2.2 ≤ 1))), M') ∧ RepJ M' (trL K 9) ∧ Sm [80, 81] M M' := by
  obtain ⟨D, rfl⟩ : ∃ D0, D = D0 + 1 := ⟨D - 1, by omega⟩
  have n0 := kI_n hI
  obtain ⟨r1, r2, r3, r4, r5, r6⟩ := R0_n hR
  have s0 : Sm [80, 81] M (sI (sI M 80 1 (iI 0)) 80 2 (iI 0)) := Sm_tr (Sm_sI (by simp)) (Sm_sI (by simp))
  obtain ⟨M1, e1, a1, a2⟩ := lp (f := fun d (N : tM) => rn (exF D) C_X2_joinAll 17 [some (.ref 80), some (.ref 0), some (.int (iI (kD K))), some (.int (iI d)), none] [] N) (P := fun d N => Sm [81] (sI (sI M 80 1 (iI 0)) 80 2 (iI 0)) N ∧ ∀ x, x < d → N.1 81 x = iI x) (n := 8) (by
    rintro d N hd ⟨p1, p2⟩
    refine ⟨sI N 81 d (iI d), ?_, Sm_tr p1 (Sm_sI (by simp)), ?_⟩
    · intro X hX
      show rn _ _ _ _ _ _ = X
      rw [s_X2_joinAll_17]
      simp (maxSteps := 4000000) (disch := omega) only [s_X2_joinAll_18, s_X2_joinAll_20, s_X2_joinAll_23, s_X2_joinAll_24, s_X2_joinAll_27, s_X2_joinAll_28, s_X2_joinAll_29, s_X2_joinAll_30, s_X2_joinAll_33, cls_80, fv_80_0, fv_80_1, fv_80_2, ak_81, al_81, leF (show (d : Int) < 8 by omega), iI_add, iI_sub, iI_mul, iI_neg, iI_lt, iI_le, iI_eq, iI_toInt, tn_n, tn_1, inb_I, Int.reduceEq, Int.reduceLT, Int.reduceLE, Int.reduceAdd, Int.reduceSub, Int.reduceMul, Int.reduceNeg, Int.reduceToNat, Nat.reduceAdd, Nat.reduceMul, Int.reduceNatCast, reduceCtorEq, Int.cast_ofNat_Int, bi_tr, bi_fa, bi_0, bi_1, not_true_eq_false, not_false_eq_true, rnk_v, rnk_n, ↓reduceIte, i00, i11, ibi, or_true, true_or, and_true, true_and, List.cons_append, List.nil_append, Option.toList, nop]
      exact hX
    · intro x hx
      by_cases y : x = d
      · subst y; rw [sI_s]
      · rw [sI_k _ _ y]; exact p2 x (by omega)) (Nat.zero_le _) (a := sI (sI M 80 1 (iI 0)) 80 2 (iI 0)) ⟨Sm_rf _ _, fun x hx => absurd hx (by omega)⟩
  have s1 : Sm [80, 81] M M1 := Sm_tr s0 (Sm_mono (by simp) a1)
  have J1 : RepJ M1 (trL K 0) := by
    refine ⟨a2, ?_, ?_⟩
    · rw [(a1 80 (by simp)).1, sI_k _ _ (by omega), sI_s]; rfl
    · rw [(a1 80 (by simp)).1, sI_s]; rfl
  obtain ⟨⟨M2, x4⟩, e2, b1, b2⟩ := lp (f := fun l (x : tM × Option Value) => rn (exF D) C_X2_joinAll 38 [some (.ref 80), some (.ref 0), some (.int (iI (trL K l).2.2.2)), some (.int (iI ((l : Int) + 1))), x.2] [] x.1) (P := fun l x => Sm [80, 81] M x.1 ∧ RepJ x.1 (trL K l)) (n := 9) (by
    rintro l ⟨N, x4⟩ hl ⟨p1, p2⟩
    have W0 := trL_ok hI l (by omega)
    obtain ⟨N1, i1, i2, i3⟩ := lp (f := fun t (N1 : tM) => rn (exF D) C_X2_joinAll 47 [some (.ref 80), some (.ref 0), some (.int (iI (trT K (l + 1) (trL K l) t).2.2.2)), some (.int (iI ((l : Int) + 1))), some (.int (iI t))] [] N1) (P := fun t N1 => Sm [80, 81] M N1 ∧ RepJ N1 (trT K (l + 1) (trL K l) t)) (n := kT K) (by
      rintro t N1 ht ⟨q1, q2⟩
      have w3 : Rep N1 0 K := Rep_o h0 hR q1 (by simp)
      have v2 := (R0_n w3).2.1
      obtain ⟨N2, c1, c2, c3⟩ := l_join1 (D := D) (by omega) w3 hI (show l + 1 ≤ 9 by omega) ht (trT_ok hI (by omega) W0 t (by omega)) q2
      refine ⟨N2, ?_, Sm_tr q1 c3, c2⟩
      intro X hX
      show rn _ _ _ _ _ _ = X
      rw [s_X2_joinAll_47]
      simp (maxSteps := 4000000) (disch := omega) only [s_X2_joinAll_49, s_X2_joinAll_50, s_X2_joinAll_53, s_X2_joinAll_56, s_X2_joinAll_58, s_X2_joinAll_60, cls_0, fv_0_0, fv_0_1, fv_0_2, fv_0_3, fv_0_4, fv_0_5, fv_0_6, fv_0_7, fv_0_8, fv_0_9, fv_0_10, fv_0_11, fv_0_12, fv_0_13, fv_0_14, fv_0_15, v2, leF (show (t : Int) < kT K by omega), leF (show (t : Int) < 16 by omega), iI_add, iI_sub, iI_mul, iI_neg, iI_lt, iI_le, iI_eq, iI_toInt, tn_n, tn_1, inb_I, Int.reduceEq, Int.reduceLT, Int.reduceLE, Int.reduceAdd, Int.reduceSub, Int.reduceMul, Int.reduceNeg, Int.reduceToNat, Nat.reduceAdd, Nat.reduceMul, Int.reduceNatCast, reduceCtorEq, Int.cast_ofNat_Int, bi_tr, bi_fa, bi_0, bi_1, not_true_eq_false, not_false_eq_true, rnk_v, rnk_n, ↓reduceIte, i00, i11, ibi, or_true, true_or, and_true, true_and, List.cons_append, List.nil_append, Option.toList, nop]
      refine Eq.trans c1 ?_
      simp (maxSteps := 4000000) (disch := omega) only [s_X2_joinAll_121, s_X2_joinAll_124, iI_add, iI_sub, iI_mul, iI_neg, iI_lt, iI_le, iI_eq, iI_toInt, tn_n, tn_1, inb_I, Int.reduceEq, Int.reduceLT, Int.reduceLE, Int.reduceAdd, Int.reduceSub, Int.reduceMul, Int.reduceNeg, Int.reduceToNat, Nat.reduceAdd, Nat.reduceMul, Int.reduceNatCast, reduceCtorEq, Int.cast_ofNat_Int, bi_tr, bi_fa, bi_0, bi_1, not_true_eq_false, not_false_eq_true, rnk_v, rnk_n, ↓reduceIte, i00, i11, ibi, or_true, true_or, and_true, true_and, List.cons_append, List.nil_append, Option.toList, nop]
      exact hX) (Nat.zero_le _) (a := N) ⟨p1, p2⟩
    have w3 : Rep N1 0 K := Rep_o h0 hR i2 (by simp)
    have v2 := (R0_n w3).2.1
    refine ⟨(N1, some (.int (iI (kT K)))), ?_, i2, i3⟩
    intro X hX
    show rn _ _ _ _ _ _ = X
    rw [s_X2_joinAll_38]
    simp (maxSteps := 4000000) (disch := omega) only [s_X2_joinAll_39, s_X2_joinAll_41, s_X2_joinAll_44, s_X2_joinAll_45, ltF (show (l : Int) + 1 ≤ 9 by omega), iI_add, iI_sub, iI_mul, iI_neg, iI_lt, iI_le, iI_eq, iI_toInt, tn_n, tn_1, inb_I, Int.reduceEq, Int.reduceLT, Int.reduceLE, Int.reduceAdd, Int.reduceSub, Int.reduceMul, Int.reduceNeg, Int.reduceToNat, Nat.reduceAdd, Nat.reduceMul, Int.reduceNatCast, reduceCtorEq, Int.cast_ofNat_Int, bi_tr, bi_fa, bi_0, bi_1, not_true_eq_false, not_false_eq_true, rnk_v, rnk_n, ↓reduceIte, i00, i11, ibi, or_true, true_or, and_true, true_and, List.cons_append, List.nil_append, Option.toList, nop]
    refine Eq.trans i1 ?_
    simp (maxSteps := 4000000) (disch := omega) only [s_X2_joinAll_47, s_X2_joinAll_49, s_X2_joinAll_50, s_X2_joinAll_53, s_X2_joinAll_127, s_X2_joinAll_130, cls_0, fv_0_0, fv_0_1, fv_0_2, fv_0_3, fv_0_4, fv_0_5, fv_0_6, fv_0_7, fv_0_8, fv_0_9, fv_0_10, fv_0_11, fv_0_12, fv_0_13, fv_0_14, fv_0_15, v2, leT (show (kT K : Int) ≤ kT K by omega), iI_add, iI_sub, iI_mul, iI_neg, iI_lt, iI_le, iI_eq, iI_toInt, tn_n, tn_1, inb_I, Int.reduceEq, Int.reduceLT, Int.reduceLE, Int.reduceAdd, Int.reduceSub, Int.reduceMul, Int.reduceNeg, Int.reduceToNat, Nat.reduceAdd, Nat.reduceMul, Int.reduceNatCast, reduceCtorEq, Int.cast_ofNat_Int, bi_tr, bi_fa, bi_0, bi_1, not_true_eq_false, not_false_eq_true, rnk_v, rnk_n, ↓reduceIte, i00, i11, ibi, or_true, true_or, and_true, true_and, List.cons_append, List.nil_append, Option.toList, nop]
    exact hX) (Nat.zero_le _) (a := (M1, none)) ⟨s1, J1⟩
  have W9 := trL_ok hI 9 (by omega)
  have c9 := ctn_le (fun d => (trL K 9).1 d == d) (kD K)
  have c10 := W9.2.2.1
  refine ⟨M2, ?_, b2, b1⟩
  have e00 : ((0 : Nat) : Int) + 1 = 1 := rfl
  have e09 : ((9 : Nat) : Int) + 1 = 10 := rfl
  have et : iI (trL K 0).2.2.2 = iI (kD K) := rfl
  simp only [e00, e09, et] at e2
  simp (maxSteps := 4000000) (disch := omega) only [en_X2_joinAll, s_X2_joinAll_0, s_X2_joinAll_1, s_X2_joinAll_2, s_X2_joinAll_5, s_X2_joinAll_6, s_X2_joinAll_7, s_X2_joinAll_10, s_X2_joinAll_11, s_X2_joinAll_14, s_X2_joinAll_15, s_X2_joinAll_16, cls_80, fv_80_0, fv_80_1, fv_80_2, cls_0, fv_0_0, fv_0_1, fv_0_2, fv_0_3, fv_0_4, fv_0_5, fv_0_6, fv_0_7, fv_0_8, fv_0_9, fv_0_10, fv_0_11, fv_0_12, fv_0_13, fv_0_14, fv_0_15, r1, sI_a, iI_add, iI_sub, iI_mul, iI_neg, iI_lt, iI_le, iI_eq, iI_toInt, tn_n, tn_1, inb_I, Int.reduceEq, Int.reduceLT, Int.reduceLE, Int.reduceAdd, Int.reduceSub, Int.reduceMul, Int.reduceNeg, Int.reduceToNat, Nat.reduceAdd, Nat.reduceMul, Int.reduceNatCast, reduceCtorEq, Int.cast_ofNat_Int, bi_tr, bi_fa, bi_0, bi_1, not_true_eq_false, not_false_eq_true, rnk_v, rnk_n, ↓reduceIte, i00, i11, ibi, or_true, true_or, and_true, true_and, List.cons_append, List.nil_append, Option.toList, nop]
  refine Eq.trans e1 ?_
  simp (maxSteps := 4000000) (disch := omega) only [s_X2_joinAll_17, s_X2_joinAll_18, s_X2_joinAll_20, s_X2_joinAll_36, s_X2_joinAll_37, leT (show (8 : Int) ≤ 8 by omega), iI_add, iI_sub, iI_mul, iI_neg, iI_lt, iI_le, iI_eq, iI_toInt, tn_n, tn_1, inb_I, Int.reduceEq, Int.reduceLT, Int.reduceLE, Int.reduceAdd, Int.reduceSub, Int.reduceMul, Int.reduceNeg, Int.reduceToNat, Nat.reduceAdd, Nat.reduceMul, Int.reduceNatCast, reduceCtorEq, Int.cast_ofNat_Int, bi_tr, bi_fa, bi_0, bi_1, not_true_eq_false, not_false_eq_true, rnk_v, rnk_n, ↓reduceIte, i00, i11, ibi, or_true, true_or, and_true, true_and, List.cons_append, List.nil_append, Option.toList, nop]
  refine Eq.trans e2 ?_
  by_cases q : (trL K 9).2.2.2 ≤ 1
  · rw [bi_t q]
    simp (maxSteps := 4000000) (disch := omega) only [s_X2_joinAll_38, s_X2_joinAll_39, s_X2_joinAll_41, s_X2_joinAll_133, s_X2_joinAll_134, s_X2_joinAll_135, s_X2_joinAll_138, s_X2_joinAll_139, s_X2_joinAll_142, s_X2_joinAll_143, ltF q, iI_add, iI_sub, iI_mul, iI_neg, iI_lt, iI_le, iI_eq, iI_toInt, tn_n, tn_1, inb_I, Int.reduceEq, Int.reduceLT, Int.reduceLE, Int.reduceAdd, Int.reduceSub, Int.reduceMul, Int.reduceNeg, Int.reduceToNat, Nat.reduceAdd, Nat.reduceMul, Int.reduceNatCast, reduceCtorEq, Int.cast_ofNat_Int, bi_tr, bi_fa, bi_0, bi_1, not_true_eq_false, not_false_eq_true, rnk_v, rnk_n, ↓reduceIte, i00, i11, ibi, or_true, true_or, and_true, true_and, List.cons_append, List.nil_append, Option.toList, nop]
  · rw [bi_f q]
    simp (maxSteps := 4000000) (disch := omega) only [s_X2_joinAll_38, s_X2_joinAll_39, s_X2_joinAll_41, s_X2_joinAll_133, s_X2_joinAll_134, s_X2_joinAll_135, s_X2_joinAll_138, s_X2_joinAll_139, s_X2_joinAll_142, s_X2_joinAll_143, ltT (show 1 < (trL K 9).2.2.2 by omega), iI_add, iI_sub, iI_mul, iI_neg, iI_lt, iI_le, iI_eq, iI_toInt, tn_n, tn_1, inb_I, Int.reduceEq, Int.reduceLT, Int.reduceLE, Int.reduceAdd, Int.reduceSub, Int.reduceMul, Int.reduceNeg, Int.reduceToNat, Nat.reduceAdd, Nat.reduceMul, Int.reduceNatCast, reduceCtorEq, Int.cast_ofNat_Int, bi_tr, bi_fa, bi_0, bi_1, not_true_eq_false, not_false_eq_true, rnk_v, rnk_n, ↓reduceIte, i00, i11, ibi, or_true, true_or, and_true, true_and, List.cons_append, List.nil_append, Option.toList, nop]
def p_tree (S : tS) (w : Int) : Int × tS := if ¬ (0 ≤ w ∧ w ≤ 1) then rz10 S (-5) else (if ¬ (trL (stK S) 9).2.2.2 ≤ 1 then -1 else if w = 0 then ((trL (stK S) 9).2.1 : Int) else ((trL (stK S) 9).2.2.1 : Int), S)
theorem c_tree {D : Nat} (hD : 4 ≤ D) {M : tM} {S : tS} (hC : RelC S M) (hI : sInv S) {w : Int} (gw : -2147483648 ≤ w ∧ w ≤ 2147483647) : okC D m_X10_tree [.ref 88, .int (iI w)] M (p_tree S w) := by
  obtain ⟨D, rfl⟩ : ∃ D0, D = D0 + 1 := ⟨D - 1, by omega⟩
  obtain ⟨c1, c2, c3, c4, c5, c6, c7, c8, c9⟩ := id hC; obtain ⟨i1, i2, i3, i4, i5, i6, i7⟩ := id hI; have n0 := kI_n i1; obtain ⟨r1, r2, r3, r4, r5, r6⟩ := R0_n c1
  unfold p_tree
  by_cases e1 : 0 ≤ w ∧ w ≤ 1
  rotate_left
  · rw [if_pos e1]
    exact okC_rf10 hC (by omega) (by omega) (by simp (maxSteps := 4000000) (disch := omega) only [e1, en_X10_tree, s_X10_tree_0, s_X10_tree_1, s_X10_tree_4, s_X10_tree_5, s_X10_tree_6, s_X10_tree_9, s_X10_tree_10, s_X10_tree_12, s_X10_tree_15, s_X10_tree_16, s_X10_tree_17, s_X10_tree_20, s_X10_tree_21, s_X10_tree_24, s_X10_tree_27, s_X10_tree_30, s_X10_tree_31, s_X10_tree_32, s_X10_tree_33, s_X10_tree_36, s_X10_tree_37, s_X10_tree_40, s_X10_tree_43, s_X10_tree_46, s_X10_tree_47, s_X10_tree_50, s_X10_tree_53, cls_88, fv_88_0, fv_88_1, fv_88_2, fv_88_3, fv_88_4, fv_88_5, fv_88_6, fv_88_7, fv_88_8, fv_88_9, fv_88_10, fv_88_11, fv_88_12, fv_88_13, fv_88_14, ak_89, al_89, cls_0, fv_0_0, fv_0_1, fv_0_2, fv_0_3, fv_0_4, fv_0_5, fv_0_6, fv_0_7, fv_0_8, fv_0_9, fv_0_10, fv_0_11, fv_0_12, fv_0_13, fv_0_14, fv_0_15, ak_1, al_1, ak_2, al_2, ak_3, al_3, ak_4, al_4, ak_5, al_5, ak_6, al_6, ak_7, al_7, ak_8, al_8, ak_9, al_9, cls_10, cls_20, cls_30, cls_42, cls_57, cls_59, cls_62, cls_80, cls_82, cls_85, cls_86, k_X10_refuse (show _ ≤ D by omega), k_X10_refuse10 (show _ ≤ D by omega), ltT, ltF, leT, leF, eqT, eqF, iI_add, iI_sub, iI_mul, iI_neg, iI_lt, iI_le, iI_eq, iI_toInt, tn_n, tn_1, inb_I, Int.reduceEq, Int.reduceLT, Int.reduceLE, Int.reduceAdd, Int.reduceSub, Int.reduceMul, Int.reduceNeg, Int.reduceToNat, Nat.reduceAdd, Nat.reduceMul, Int.reduceNatCast, reduceCtorEq, Int.cast_ofNat_Int, bi_tr, bi_fa, bi_0, bi_1, not_true_eq_false, not_false_eq_true, rnk_v, rnk_n, ↓reduceIte, i00, i11, ibi, or_true, true_or, and_true, true_and, List.cons_append, List.nil_append, Option.toList, nop])
  rw [if_neg (fun q => q e1)]
  obtain ⟨M1, a1, ⟨a2, a3, a4⟩, a5⟩ := k_X2_joinAll (D := D) (by omega) c1 i1
  have hw : w = 0 ∨ w = 1 := by omega
  by_cases q : (trL (stK S) 9).2.2.2 ≤ 1
  · rw [bi_t q] at a1
    rw [if_neg (fun h => h q)]
    rcases hw with rfl | rfl
    · exact okC_scr hC (by simp (maxSteps := 4000000) (disch := omega) only [a1, a3, cls_80, fv_80_0, fv_80_1, fv_80_2, en_X10_tree, s_X10_tree_0, s_X10_tree_1, s_X10_tree_4, s_X10_tree_5, s_X10_tree_6, s_X10_tree_9, s_X10_tree_10, s_X10_tree_12, s_X10_tree_15, s_X10_tree_16, s_X10_tree_17, s_X10_tree_20, s_X10_tree_21, s_X10_tree_24, s_X10_tree_27, s_X10_tree_30, s_X10_tree_31, s_X10_tree_32, s_X10_tree_33, s_X10_tree_36, s_X10_tree_37, s_X10_tree_40, s_X10_tree_43, s_X10_tree_46, s_X10_tree_47, s_X10_tree_50, s_X10_tree_53, cls_88, fv_88_0, fv_88_1, fv_88_2, fv_88_3, fv_88_4, fv_88_5, fv_88_6, fv_88_7, fv_88_8, fv_88_9, fv_88_10, fv_88_11, fv_88_12, fv_88_13, fv_88_14, ak_89, al_89, cls_0, fv_0_0, fv_0_1, fv_0_2, fv_0_3, fv_0_4, fv_0_5, fv_0_6, fv_0_7, fv_0_8, fv_0_9, fv_0_10, fv_0_11, fv_0_12, fv_0_13, fv_0_14, fv_0_15, ak_1, al_1, ak_2, al_2, ak_3, al_3, ak_4, al_4, ak_5, al_5, ak_6, al_6, ak_7, al_7, ak_8, al_8, ak_9, al_9, cls_10, cls_20, cls_30, cls_42, cls_57, cls_59, cls_62, cls_80, cls_82, cls_85, cls_86, k_X10_refuse (show _ ≤ D by omega), ltT, ltF, leT, leF, eqT, eqF, iI_add, iI_sub, iI_mul, iI_neg, iI_lt, iI_le, iI_eq, iI_toInt, tn_n, tn_1, inb_I, Int.reduceEq, Int.reduceLT, Int.reduceLE, Int.reduceAdd, Int.reduceSub, Int.reduceMul, Int.reduceNeg, Int.reduceToNat, Nat.reduceAdd, Nat.reduceMul, Int.reduceNatCast, reduceCtorEq, Int.cast_ofNat_Int, bi_tr, bi_fa, bi_0, bi_1, not_true_eq_false, not_false_eq_true, rnk_v, rnk_n, ↓reduceIte, i00, i11, ibi, or_true, true_or, and_true, true_and, List.cons_append, List.nil_append, Option.toList, nop]) a5 (by simp)
    · exact okC_scr hC (by simp (maxSteps := 4000000) (disch := omega) only [a1, a4, cls_80, fv_80_0, fv_80_1, fv_80_2, en_X10_tree, s_X10_tree_0, s_X10_tree_1, s_X10_tree_4, s_X10_tree_5, s_X10_tree_6, s_X10_tree_9, s_X10_tree_10, s_X10_tree_12, s_X10_tree_15, s_X10_tree_16, s_X10_tree_17, s_X10_tree_20, s_X10_tree_21, s_X10_tree_24, s_X10_tree_27, s_X10_tree_30, s_X10_tree_31, s_X10_tree_32, s_X10_tree_33, s_X10_tree_36, s_X10_tree_37, s_X10_tree_40, s_X10_tree_43, s_X10_tree_46, s_X10_tree_47, s_X10_tree_50, s_X10_tree_53, cls_88, fv_88_0, fv_88_1, fv_88_2, fv_88_3, fv_88_4, fv_88_5, fv_88_6, fv_88_7, fv_88_8, fv_88_9, fv_88_10, fv_88_11, fv_88_12, fv_88_13, fv_88_14, ak_89, al_89, cls_0, fv_0_0, fv_0_1, fv_0_2, fv_0_3, fv_0_4, fv_0_5, fv_0_6, fv_0_7, fv_0_8, fv_0_9, fv_0_10, fv_0_11, fv_0_12, fv_0_13, fv_0_14, fv_0_15, ak_1, al_1, ak_2, al_2, ak_3, al_3, ak_4, al_4, ak_5, al_5, ak_6, al_6, ak_7, al_7, ak_8, al_8, ak_9, al_9, cls_10, cls_20, cls_30, cls_42, cls_57, cls_59, cls_62, cls_80, cls_82, cls_85, cls_86, k_X10_refuse (show _ ≤ D by omega), ltT, ltF, leT, leF, eqT, eqF, iI_add, iI_sub, iI_mul, iI_neg, iI_lt, iI_le, iI_eq, iI_toInt, tn_n, tn_1, inb_I, Int.reduceEq, Int.reduceLT, Int.reduceLE, Int.reduceAdd, Int.reduceSub, Int.reduceMul, Int.reduceNeg, Int.reduceToNat, Nat.reduceAdd, Nat.reduceMul, Int.reduceNatCast, reduceCtorEq, Int.cast_ofNat_Int, bi_tr, bi_fa, bi_0, bi_1, not_true_eq_false, not_false_eq_true, rnk_v, rnk_n, ↓reduceIte, i00, i11, ibi, or_true, true_or, and_true, true_and, List.cons_append, List.nil_append, Option.toList, nop]) a5 (by simp)
  · rw [bi_f q] at a1
    rw [if_pos q]
    rcases hw with rfl | rfl
    · exact okC_scr hC (by simp (maxSteps := 4000000) (disch := omega) only [a1, en_X10_tree, s_X10_tree_0, s_X10_tree_1, s_X10_tree_4, s_X10_tree_5, s_X10_tree_6, s_X10_tree_9, s_X10_tree_10, s_X10_tree_12, s_X10_tree_15, s_X10_tree_16, s_X10_tree_17, s_X10_tree_20, s_X10_tree_21, s_X10_tree_24, s_X10_tree_27, s_X10_tree_30, s_X10_tree_31, s_X10_tree_32, s_X10_tree_33, s_X10_tree_36, s_X10_tree_37, s_X10_tree_40, s_X10_tree_43, s_X10_tree_46, s_X10_tree_47, s_X10_tree_50, s_X10_tree_53, cls_88, fv_88_0, fv_88_1, fv_88_2, fv_88_3, fv_88_4, fv_88_5, fv_88_6, fv_88_7, fv_88_8, fv_88_9, fv_88_10, fv_88_11, fv_88_12, fv_88_13, fv_88_14, ak_89, al_89, cls_0, fv_0_0, fv_0_1, fv_0_2, fv_0_3, fv_0_4, fv_0_5, fv_0_6, fv_0_7, fv_0_8, fv_0_9, fv_0_10, fv_0_11, fv_0_12, fv_0_13, fv_0_14, fv_0_15, ak_1, al_1, ak_2, al_2, ak_3, al_3, ak_4, al_4, ak_5, al_5, ak_6, al_6, ak_7, al_7, ak_8, al_8, ak_9, al_9, cls_10, cls_20, cls_30, cls_42, cls_57, cls_59, cls_62, cls_80, cls_82, cls_85, cls_86, k_X10_refuse (show _ ≤ D by omega), ltT, ltF, leT, leF, eqT, eqF, iI_add, iI_sub, iI_mul, iI_neg, iI_lt, iI_le, iI_eq, iI_toInt, tn_n, tn_1, inb_I, Int.reduceEq, Int.reduceLT, Int.reduceLE, Int.reduceAdd, Int.reduceSub, Int.reduceMul, Int.reduceNeg, Int.reduceToNat, Nat.reduceAdd, Nat.reduceMul, Int.reduceNatCast, reduceCtorEq, Int.cast_ofNat_Int, bi_tr, bi_fa, bi_0, bi_1, not_true_eq_false, not_false_eq_true, rnk_v, rnk_n, ↓reduceIte, i00, i11, ibi, or_true, true_or, and_true, true_and, List.cons_append, List.nil_append, Option.toList, nop]) a5 (by simp)
    · exact okC_scr hC (by simp (maxSteps := 4000000) (disch := omega) only [a1, en_X10_tree, s_X10_tree_0, s_X10_tree_1, s_X10_tree_4, s_X10_tree_5, s_X10_tree_6, s_X10_tree_9, s_X10_tree_10, s_X10_tree_12, s_X10_tree_15, s_X10_tree_16, s_X10_tree_17, s_X10_tree_20, s_X10_tree_21, s_X10_tree_24, s_X10_tree_27, s_X10_tree_30, s_X10_tree_31, s_X10_tree_32, s_X10_tree_33, s_X10_tree_36, s_X10_tree_37, s_X10_tree_40, s_X10_tree_43, s_X10_tree_46, s_X10_tree_47, s_X10_tree_50, s_X10_tree_53, cls_88, fv_88_0, fv_88_1, fv_88_2, fv_88_3, fv_88_4, fv_88_5, fv_88_6, fv_88_7, fv_88_8, fv_88_9, fv_88_10, fv_88_11, fv_88_12, fv_88_13, fv_88_14, ak_89, al_89, cls_0, fv_0_0, fv_0_1, fv_0_2, fv_0_3, fv_0_4, fv_0_5, fv_0_6, fv_0_7, fv_0_8, fv_0_9, fv_0_10, fv_0_11, fv_0_12, fv_0_13, fv_0_14, fv_0_15, ak_1, al_1, ak_2, al_2, ak_3, al_3, ak_4, al_4, ak_5, al_5, ak_6, al_6, ak_7, al_7, ak_8, al_8, ak_9, al_9, cls_10, cls_20, cls_30, cls_42, cls_57, cls_59, cls_62, cls_80, cls_82, cls_85, cls_86, k_X10_refuse (show _ ≤ D by omega), ltT, ltF, leT, leF, eqT, eqF, iI_add, iI_sub, iI_mul, iI_neg, iI_lt, iI_le, iI_eq, iI_toInt, tn_n, tn_1, inb_I, Int.reduceEq, Int.reduceLT, Int.reduceLE, Int.reduceAdd, Int.reduceSub, Int.reduceMul, Int.reduceNeg, Int.reduceToNat, Nat.reduceAdd, Nat.reduceMul, Int.reduceNatCast, reduceCtorEq, Int.cast_ofNat_Int, bi_tr, bi_fa, bi_0, bi_1, not_true_eq_false, not_false_eq_true, rnk_v, rnk_n, ↓reduceIte, i00, i11, ibi, or_true, true_or, and_true, true_and, List.cons_append, List.nil_append, Option.toList, nop]) a5 (by simp)
/-! THE REFERENCE -/
theorem l_tree1 {D : Nat} (hD : 2 ≤ D) {M : tM} {K : tK} (hR : RepN M 92 K) (hI : kInv K) {W : tW} {f : tF} {L t : Nat} {w : Int} (hL : L ≤ 9) (ht : t < kT K) (hW : wOK K W L t) (hF : RepF M f) (hd : ∀ i, f i i = 0) (hf : ∀ i, i < kD K → ∀ j, j < kD K → f i j = fg W.1 i j) : ∃ M' f', rn (exF D) C_X11_tree 50 [some (.ref 90), some (.int (iI w)), some (.int (iI (W.2.1))), some (.int (iI (W.2.2.1))), some (.int (iI L)), some (.int (iI t))] [] M = rn (exF D) C_X11_tree 138 [some (.ref 90), some (.int (iI w)), some (.int (iI (tst K L W t).2.1)), some (.int (iI (tst K L W t).2.2.1)), some (.int (iI L)), some (.int (iI t))] [] M' ∧ RepF M' f' ∧ (∀ i, f' i i = 0) ∧ (∀ i, i < kD K → ∀ j, j < kD K → f' i j = fg (tst K L W t).1 i j) ∧ Sm [101] M M' := by
  have n0 := kI_n hI
  have g1 := kI_t hI ht
  have m1 := k_X11_length (D := D) (by omega) hR hI ht
  obtain ⟨w1, w2, w3, w4, w5⟩ := hW
  by_cases q1 : kL K t = L
  · have m2 := k_X11_from (D := D) (by omega) hR hI ht
    have m3 := k_X11_to (D := D) (by omega) hR hI ht
    have t1 := (hF (kF K t) (by omega) (kO K t) (by omega)).1
    rw [hf _ g1.1.1 _ g1.1.2.1] at t1
    unfold fg at t1
    by_cases q2 : W.1 (kF K t) = W.1 (kO K t)
    · have e : tst K L W t = W := if_neg (fun h => h.2 q2)
      rw [e]
      rw [if_pos q2] at t1
      refine ⟨M, f, ?_, hF, hd, hf, Sm_rf _ _⟩
      simp (maxSteps := 4000000) (disch := omega) only [s_X11_tree_50, s_X11_tree_51, s_X11_tree_53, s_X11_tree_56, s_X11_tree_58, s_X11_tree_61, s_X11_tree_62, s_X11_tree_65, s_X11_tree_67, s_X11_tree_68, s_X11_tree_70, s_X11_tree_73, s_X11_tree_74, s_X11_tree_75, s_X11_tree_77, s_X11_tree_80, s_X11_tree_81, s_X11_tree_82, s_X11_tree_85, s_X11_tree_88, s_X11_tree_89, s_X11_tree_90, s_X11_tree_92, s_X11_tree_95, s_X11_tree_96, s_X11_tree_98, s_X11_tree_101, s_X11_tree_102, s_X11_tree_105, s_X11_tree_106, s_X11_tree_107, s_X11_tree_109, s_X11_tree_112, s_X11_tree_113, s_X11_tree_115, s_X11_tree_118, s_X11_tree_119, s_X11_tree_122, s_X11_tree_123, s_X11_tree_126, s_X11_tree_127, s_X11_tree_129, s_X11_tree_130, s_X11_tree_131, s_X11_tree_132, s_X11_tree_133, s_X11_tree_135, s_X11_tree_136, s_X11_tree_137, cls_90, fv_90_0, fv_90_1, fv_90_2, fv_90_3, fv_90_4, fv_90_5, fv_90_6, fv_90_7, fv_90_8, fv_90_9, fv_90_10, fv_90_11, fv_90_12, fv_90_13, fv_90_14, fv_90_15, fv_90_16, fv_90_17, fv_90_18, fv_90_19, fv_90_20, fv_90_21, fv_90_22, fv_90_23, fv_90_24, fv_90_25, ak_91, al_91, ak_92, al_92, ak_93, al_93, ak_94, al_94, ak_95, al_95, ak_96, al_96, ak_97, al_97, ak_98, al_98, ak_99, al_99, ak_100, al_100, rf_100, ak_101, al_101, ak_102, al_102, ak_103, al_103, ak_104, al_104, ak_105, al_105, ak_106, al_106, tn_add, tn_mul, iI_long, jJ_int, m1, m2, m3, t1, eqT (show (kL K t : Int) = (L : Int) by omega), iI_add, iI_sub, iI_mul, iI_neg, iI_lt, iI_le, iI_eq, iI_toInt, tn_n, tn_1, inb_I, Int.reduceEq, Int.reduceLT, Int.reduceLE, Int.reduceAdd, Int.reduceSub, Int.reduceMul, Int.reduceNeg, Int.reduceToNat, Nat.reduceAdd, Nat.reduceMul, Int.reduceNatCast, reduceCtorEq, Int.cast_ofNat_Int, bi_tr, bi_fa, bi_0, bi_1, not_true_eq_false, not_false_eq_true, rnk_v, rnk_n, ↓reduceIte, i00, i11, ibi, or_true, true_or, and_true, true_and, List.cons_append, List.nil_append, Option.toList, nop]
    · have e : tst K L W t = (gu W.1 (kF K t) (kO K t), W.2.1 + L, W.2.2.1 ||| 2 ^ t, W.2.2.2 - 1) := if_pos ⟨q1, q2⟩
      rw [e]
      rw [if_neg q2] at t1
      have F1 := RepF_um hF (i := kF K t) (j := kO K t) (x := 0) (by omega) (by omega)
      have s1 : Sm [101] M (sI M 101 (8 * kF K t + kO K t) (iI ((min (f (kF K t) (kO K t)) 0 : Nat) : Int))) := Sm_sI (by simp)
      have R1 := RepN_Sm hR s1 (by simp)
      have F2 := RepF_um F1 (i := kO K t) (j := kF K t) (x := 0) (by omega) (by omega)
      have s2 : Sm [101] M (sI (sI M 101 (8 * kF K t + kO K t) (iI ((min (f (kF K t) (kO K t)) 0 : Nat) : Int))) 101 (8 * kO K t + kF K t) (iI ((min (um f (kF K t) (kO K t) 0 (kO K t) (kF K t)) 0 : Nat) : Int))) := Sm_tr s1 (Sm_sI (by simp))
      have R2 := RepN_Sm hR s2 (by simp)
      obtain ⟨M3, d1, d2, d3⟩ := k_X11_close (D := D) (by omega) R2 hI F2
      have hd2 : ∀ i, um (um f (kF K t) (kO K t) 0) (kO K t) (kF K t) 0 i i = 0 := um_diag (um_diag hd _ _ _) _ _ _
      have n1 := k_X11_nearer (D := D) (by omega) hF (i := kF K t) (j := kO K t) (x := 0) (by omega) (by omega) (by omega)
      have n2 := k_X11_nearer (D := D) (by omega) F1 (i := kO K t) (j := kF K t) (x := 0) (by omega) (by omega) (by omega)
      rw [show iI ((0 : Nat) : Int) = iI 0 from rfl] at n1 n2
      have m4 := k_X11_from (D := D) (by omega) R1 hI ht
      have m5 := k_X11_to (D := D) (by omega) R1 hI ht
      refine ⟨M3, fwK (um (um f (kF K t) (kO K t) 0) (kO K t) (kF K t) 0) (kD K) (kD K), ?_, d2, fwK_diag hd2 _ _, gu_step hd hf g1.1.1 g1.1.2.1 q2, Sm_tr s2 d3⟩
      simp (maxSteps := 4000000) (disch := omega) only [s_X11_tree_50, s_X11_tree_51, s_X11_tree_53, s_X11_tree_56, s_X11_tree_58, s_X11_tree_61, s_X11_tree_62, s_X11_tree_65, s_X11_tree_67, s_X11_tree_68, s_X11_tree_70, s_X11_tree_73, s_X11_tree_74, s_X11_tree_75, s_X11_tree_77, s_X11_tree_80, s_X11_tree_81, s_X11_tree_82, s_X11_tree_85, s_X11_tree_88, s_X11_tree_89, s_X11_tree_90, s_X11_tree_92, s_X11_tree_95, s_X11_tree_96, s_X11_tree_98, s_X11_tree_101, s_X11_tree_102, s_X11_tree_105, s_X11_tree_106, s_X11_tree_107, s_X11_tree_109, s_X11_tree_112, s_X11_tree_113, s_X11_tree_115, s_X11_tree_118, s_X11_tree_119, s_X11_tree_122, s_X11_tree_123, s_X11_tree_126, s_X11_tree_127, s_X11_tree_129, s_X11_tree_130, s_X11_tree_131, s_X11_tree_132, s_X11_tree_133, s_X11_tree_135, s_X11_tree_136, s_X11_tree_137, cls_90, fv_90_0, fv_90_1, fv_90_2, fv_90_3, fv_90_4, fv_90_5, fv_90_6, fv_90_7, fv_90_8, fv_90_9, fv_90_10, fv_90_11, fv_90_12, fv_90_13, fv_90_14, fv_90_15, fv_90_16, fv_90_17, fv_90_18, fv_90_19, fv_90_20, fv_90_21, fv_90_22, fv_90_23, fv_90_24, fv_90_25, ak_91, al_91, ak_92, al_92, ak_93, al_93, ak_94, al_94, ak_95, al_95, ak_96, al_96, ak_97, al_97, ak_98, al_98, ak_99, al_99, ak_100, al_100, rf_100, ak_101, al_101, ak_102, al_102, ak_103, al_103, ak_104, al_104, ak_105, al_105, ak_106, al_106, tn_add, tn_mul, iI_long, jJ_int, m1, m2, m3, t1, n1, m4, m5, n2, d1, iI_shl1, iI_or, eqT (show (kL K t : Int) = (L : Int) by omega), iI_add, iI_sub, iI_mul, iI_neg, iI_lt, iI_le, iI_eq, iI_toInt, tn_n, tn_1, inb_I, Int.reduceEq, Int.reduceLT, Int.reduceLE, Int.reduceAdd, Int.reduceSub, Int.reduceMul, Int.reduceNeg, Int.reduceToNat, Nat.reduceAdd, Nat.reduceMul, Int.reduceNatCast, reduceCtorEq, Int.cast_ofNat_Int, bi_tr, bi_fa, bi_0, bi_1, not_true_eq_false, not_false_eq_true, rnk_v, rnk_n, ↓reduceIte, i00, i11, ibi, or_true, true_or, and_true, true_and, List.cons_append, List.nil_append, Option.toList, nop]
      rfl
  · have e : tst K L W t = W := if_neg (fun h => q1 h.1)
    rw [e]
    refine ⟨M, f, ?_, hF, hd, hf, Sm_rf _ _⟩
    simp (maxSteps := 4000000) (disch := omega) only [s_X11_tree_50, s_X11_tree_51, s_X11_tree_53, s_X11_tree_56, s_X11_tree_58, s_X11_tree_61, s_X11_tree_62, s_X11_tree_65, s_X11_tree_67, s_X11_tree_68, s_X11_tree_70, s_X11_tree_73, s_X11_tree_74, s_X11_tree_75, s_X11_tree_77, s_X11_tree_80, s_X11_tree_81, s_X11_tree_82, s_X11_tree_85, s_X11_tree_88, s_X11_tree_89, s_X11_tree_90, s_X11_tree_92, s_X11_tree_95, s_X11_tree_96, s_X11_tree_98, s_X11_tree_101, s_X11_tree_102, s_X11_tree_105, s_X11_tree_106, s_X11_tree_107, s_X11_tree_109, s_X11_tree_112, s_X11_tree_113, s_X11_tree_115, s_X11_tree_118, s_X11_tree_119, s_X11_tree_122, s_X11_tree_123, s_X11_tree_126, s_X11_tree_127, s_X11_tree_129, s_X11_tree_130, s_X11_tree_131, s_X11_tree_132, s_X11_tree_133, s_X11_tree_135, s_X11_tree_136, s_X11_tree_137, cls_90, fv_90_0, fv_90_1, fv_90_2, fv_90_3, fv_90_4, fv_90_5, fv_90_6, fv_90_7, fv_90_8, fv_90_9, fv_90_10, fv_90_11, fv_90_12, fv_90_13, fv_90_14, fv_90_15, fv_90_16, fv_90_17, fv_90_18, fv_90_19, fv_90_20, fv_90_21, fv_90_22, fv_90_23, fv_90_24, fv_90_25, m1, eqF (show ¬ (kL K t : Int) = (L : Int) by omega), iI_add, iI_sub, iI_mul, iI_neg, iI_lt, iI_le, iI_eq, iI_toInt, tn_n, tn_1, inb_I, Int.reduceEq, Int.reduceLT, Int.reduceLE, Int.reduceAdd, Int.reduceSub, Int.reduceMul, Int.reduceNeg, Int.reduceToNat, Nat.reduceAdd, Nat.reduceMul, Int.reduceNatCast, reduceCtorEq, Int.cast_ofNat_Int, bi_tr, bi_fa, bi_0, bi_1, not_true_eq_false, not_false_eq_true, rnk_v, rnk_n, ↓reduceIte, i00, i11, ibi, or_true, true_or, and_true, true_and, List.cons_append, List.nil_append, Option.toList, nop]
def oB (W : tW) (d : Nat) : Bool := decide (W.1 0 = W.1 d)
theorem one_group' {K : tK} {W : tW} (h1 : ∀ d, d < kD K → W.1 d < kD K ∧ W.1 (W.1 d) = W.1 d) (h3 : W.2.2.2 = (ctn (fun d => W.1 d == d) (kD K) : Int)) : W.2.2.2 ≤ 1 ↔ alB (oB W) (kD K) = true := by
  rw [one_group h1 h3]
  constructor
  · intro h
    cases e : alB (oB W) (kD K) with
    | true => rfl
    | false =>
      have : ∀ n, n ≤ kD K → alB (oB W) n = true := by
        intro n
        induction n with
        | zero => intro _; rfl
        | succ n ih => intro hn; rw [alB_up, ih (by omega), show oB W n = true from decide_eq_true (h n (by omega))]; rfl
      rw [this _ (Nat.le_refl _)] at e
      cases e
  · intro h d hd
    exact of_decide_eq_true (alB_all h d hd)
theorem d_tree {D : Nat} (hD : 3 ≤ D) {M : tM} {S : tS} (hC : RelR S M) (hI : sInv S) {w : Int} (gw : -2147483648 ≤ w ∧ w ≤ 2147483647) : okR D m_X11_tree [.ref 90, .int (iI w)] M (p_tree S w) := by
  obtain ⟨D, rfl⟩ : ∃ D0, D = D0 + 1 := ⟨D - 1, by omega⟩
  obtain ⟨c1, c2, c3, c4, c5, c6, c7, c8, c9⟩ := id hC; obtain ⟨i1, i2, i3, i4, i5, i6, i7⟩ := id hI; have n0 := kI_n i1; obtain ⟨r1, r2, r3, r4, r5, r6⟩ := id c1.1
  unfold p_tree
  by_cases e1 : 0 ≤ w ∧ w ≤ 1
  rotate_left
  · rw [if_pos e1]
    exact okR_rf10 hC (by omega) (by omega) (by simp (maxSteps := 4000000) (disch := omega) only [e1, en_X11_tree, s_X11_tree_0, s_X11_tree_1, s_X11_tree_2, s_X11_tree_3, s_X11_tree_4, s_X11_tree_7, s_X11_tree_10, s_X11_tree_11, s_X11_tree_13, s_X11_tree_16, s_X11_tree_17, s_X11_tree_18, s_X11_tree_21, s_X11_tree_22, s_X11_tree_23, s_X11_tree_24, s_X11_tree_25, s_X11_tree_26, s_X11_tree_28, s_X11_tree_30, s_X11_tree_32, s_X11_tree_35, s_X11_tree_36, s_X11_tree_38, s_X11_tree_40, s_X11_tree_41, s_X11_tree_44, s_X11_tree_46, s_X11_tree_47, s_X11_tree_50, s_X11_tree_51, s_X11_tree_53, s_X11_tree_56, s_X11_tree_58, s_X11_tree_61, s_X11_tree_62, s_X11_tree_65, s_X11_tree_67, s_X11_tree_68, s_X11_tree_70, s_X11_tree_73, s_X11_tree_74, s_X11_tree_75, s_X11_tree_77, s_X11_tree_80, s_X11_tree_81, s_X11_tree_82, s_X11_tree_85, s_X11_tree_88, s_X11_tree_89, s_X11_tree_90, s_X11_tree_92, s_X11_tree_95, s_X11_tree_96, s_X11_tree_98, s_X11_tree_101, s_X11_tree_102, s_X11_tree_105, s_X11_tree_106, s_X11_tree_107, s_X11_tree_109, s_X11_tree_112, s_X11_tree_113, s_X11_tree_115, s_X11_tree_118, s_X11_tree_119, s_X11_tree_122, s_X11_tree_123, s_X11_tree_126, s_X11_tree_127, s_X11_tree_129, s_X11_tree_130, s_X11_tree_131, s_X11_tree_132, s_X11_tree_133, s_X11_tree_135, s_X11_tree_136, s_X11_tree_137, s_X11_tree_138, s_X11_tree_141, s_X11_tree_144, s_X11_tree_147, s_X11_tree_150, s_X11_tree_151, s_X11_tree_153, s_X11_tree_154, s_X11_tree_156, s_X11_tree_158, s_X11_tree_159, s_X11_tree_162, s_X11_tree_164, s_X11_tree_165, s_X11_tree_168, s_X11_tree_170, s_X11_tree_173, s_X11_tree_174, s_X11_tree_177, s_X11_tree_179, s_X11_tree_180, s_X11_tree_183, s_X11_tree_186, s_X11_tree_187, s_X11_tree_190, s_X11_tree_191, s_X11_tree_193, s_X11_tree_196, s_X11_tree_199, s_X11_tree_201, s_X11_tree_204, s_X11_tree_205, s_X11_tree_208, s_X11_tree_209, s_X11_tree_212, s_X11_tree_213, s_X11_tree_216, s_X11_tree_217, cls_90, fv_90_0, fv_90_1, fv_90_2, fv_90_3, fv_90_4, fv_90_5, fv_90_6, fv_90_7, fv_90_8, fv_90_9, fv_90_10, fv_90_11, fv_90_12, fv_90_13, fv_90_14, fv_90_15, fv_90_16, fv_90_17, fv_90_18, fv_90_19, fv_90_20, fv_90_21, fv_90_22, fv_90_23, fv_90_24, fv_90_25, ak_91, al_91, ak_92, al_92, ak_93, al_93, ak_94, al_94, ak_95, al_95, ak_96, al_96, ak_97, al_97, ak_98, al_98, ak_99, al_99, ak_100, al_100, rf_100, ak_101, al_101, ak_102, al_102, ak_103, al_103, ak_104, al_104, ak_105, al_105, ak_106, al_106, tn_add, tn_mul, iI_long, jJ_int, k_X11_refuse (show _ ≤ D by omega), k_X11_refuseBy10 (show _ ≤ D by omega), k_X11_isIn (show _ ≤ D by omega), ltT, ltF, leT, leF, eqT, eqF, iI_add, iI_sub, iI_mul, iI_neg, iI_lt, iI_le, iI_eq, iI_toInt, tn_n, tn_1, inb_I, Int.reduceEq, Int.reduceLT, Int.reduceLE, Int.reduceAdd, Int.reduceSub, Int.reduceMul, Int.reduceNeg, Int.reduceToNat, Nat.reduceAdd, Nat.reduceMul, Int.reduceNatCast, reduceCtorEq, Int.cast_ofNat_Int, bi_tr, bi_fa, bi_0, bi_1, not_true_eq_false, not_false_eq_true, rnk_v, rnk_n, ↓reduceIte, i00, i11, ibi, or_true, true_or, and_true, true_and, List.cons_append, List.nil_append, Option.toList, nop])
  rw [if_neg (fun q => q e1)]
  obtain ⟨M1, a1, a2, a3⟩ := k_X11_clear (D := D) (by omega) (M := M)
  obtain ⟨⟨M2, x5⟩, e2, b1, f9, b2, b3, b4⟩ := lp (f := fun l (x : tM × Option Value) => rn (exF D) C_X11_tree 28 [some (.ref 90), some (.int (iI w)), some (.int (iI (trL (stK S) l).2.1)), some (.int (iI (trL (stK S) l).2.2.1)), some (.int (iI ((l : Int) + 1))), x.2] [] x.1) (P := fun l x => Sm [101] M x.1 ∧ ∃ f, RepF x.1 f ∧ (∀ i, f i i = 0) ∧ ∀ i, i < kD (stK S) → ∀ j, j < kD (stK S) → f i j = fg (trL (stK S) l).1 i j) (n := 9) (by
    rintro l ⟨N, x5⟩ hl ⟨p1, f, p2, p3, p4⟩
    have W0 := trL_ok i1 l (by omega)
    obtain ⟨N1, i1', i2', f1, i3', i4', i5'⟩ := lp (f := fun t (N1 : tM) => rn (exF D) C_X11_tree 38 [some (.ref 90), some (.int (iI w)), some (.int (iI (trT (stK S) (l + 1) (trL (stK S) l) t).2.1)), some (.int (iI (trT (stK S) (l + 1) (trL (stK S) l) t).2.2.1)), some (.int (iI ((l : Int) + 1))), some (.int (iI t))] [] N1) (P := fun t N1 => Sm [101] M N1 ∧ ∃ f, RepF N1 f ∧ (∀ i, f i i = 0) ∧ ∀ i, i < kD (stK S) → ∀ j, j < kD (stK S) → f i j = fg (trT (stK S) (l + 1) (trL (stK S) l) t).1 i j) (n := kT (stK S)) (by
      rintro t N1 ht ⟨q1, f, q2, q3, q4⟩
      have w3 : RepN N1 92 (stK S) := RepN_Sm c1 q1 (by simp)
      have v2 := w3.1.2.1
      obtain ⟨N2, f2, c1', c2', c3', c4', c5'⟩ := l_tree1 (D := D) (by omega) w3 i1 (w := w) (show l + 1 ≤ 9 by omega) ht (trT_ok i1 (by omega) W0 t (by omega)) q2 q3 q4
      refine ⟨N2, ?_, Sm_tr q1 c5', f2, c2', c3', c4'⟩
      intro X hX
      show rn _ _ _ _ _ _ = X
      rw [s_X11_tree_38]
      simp (maxSteps := 4000000) (disch := omega) only [s_X11_tree_40, s_X11_tree_41, s_X11_tree_44, s_X11_tree_46, s_X11_tree_47, cls_90, fv_90_0, fv_90_1, fv_90_2, fv_90_3, fv_90_4, fv_90_5, fv_90_6, fv_90_7, fv_90_8, fv_90_9, fv_90_10, fv_90_11, fv_90_12, fv_90_13, fv_90_14, fv_90_15, fv_90_16, fv_90_17, fv_90_18, fv_90_19, fv_90_20, fv_90_21, fv_90_22, fv_90_23, fv_90_24, fv_90_25, ak_91, al_91, ak_92, al_92, ak_93, al_93, ak_94, al_94, ak_95, al_95, ak_96, al_96, ak_97, al_97, ak_98, al_98, ak_99, al_99, ak_100, al_100, rf_100, ak_101, al_101, ak_102, al_102, ak_103, al_103, ak_104, al_104, ak_105, al_105, ak_106, al_106, tn_add, tn_mul, iI_long, jJ_int, v2, leF (show (t : Int) < kT (stK S) by omega), iI_add, iI_sub, iI_mul, iI_neg, iI_lt, iI_le, iI_eq, iI_toInt, tn_n, tn_1, inb_I, Int.reduceEq, Int.reduceLT, Int.reduceLE, Int.reduceAdd, Int.reduceSub, Int.reduceMul, Int.reduceNeg, Int.reduceToNat, Nat.reduceAdd, Nat.reduceMul, Int.reduceNatCast, reduceCtorEq, Int.cast_ofNat_Int, bi_tr, bi_fa, bi_0, bi_1, not_true_eq_false, not_false_eq_true, rnk_v, rnk_n, ↓reduceIte, i00, i11, ibi, or_true, true_or, and_true, true_and, List.cons_append, List.nil_append, Option.toList, nop]
      refine Eq.trans c1' ?_
      simp (maxSteps := 4000000) (disch := omega) only [s_X11_tree_138, s_X11_tree_141, iI_add, iI_sub, iI_mul, iI_neg, iI_lt, iI_le, iI_eq, iI_toInt, tn_n, tn_1, inb_I, Int.reduceEq, Int.reduceLT, Int.reduceLE, Int.reduceAdd, Int.reduceSub, Int.reduceMul, Int.reduceNeg, Int.reduceToNat, Nat.reduceAdd, Nat.reduceMul, Int.reduceNatCast, reduceCtorEq, Int.cast_ofNat_Int, bi_tr, bi_fa, bi_0, bi_1, not_true_eq_false, not_false_eq_true, rnk_v, rnk_n, ↓reduceIte, i00, i11, ibi, or_true, true_or, and_true, true_and, List.cons_append, List.nil_append, Option.toList, nop]
      exact hX) (Nat.zero_le _) (a := N) ⟨p1, f, p2, p3, p4⟩
    have w3 : RepN N1 92 (stK S) := RepN_Sm c1 i2' (by simp)
    have v2 := w3.1.2.1
    refine ⟨(N1, some (.int (iI (kT (stK S))))), ?_, i2', f1, i3', i4', i5'⟩
    intro X hX
    show rn _ _ _ _ _ _ = X
    rw [s_X11_tree_28]
    simp (maxSteps := 4000000) (disch := omega) only [s_X11_tree_30, s_X11_tree_32, s_X11_tree_35, s_X11_tree_36, leF (show (l : Int) + 1 < 10 by omega), iI_add, iI_sub, iI_mul, iI_neg, iI_lt, iI_le, iI_eq, iI_toInt, tn_n, tn_1, inb_I, Int.reduceEq, Int.reduceLT, Int.reduceLE, Int.reduceAdd, Int.reduceSub, Int.reduceMul, Int.reduceNeg, Int.reduceToNat, Nat.reduceAdd, Nat.reduceMul, Int.reduceNatCast, reduceCtorEq, Int.cast_ofNat_Int, bi_tr, bi_fa, bi_0, bi_1, not_true_eq_false, not_false_eq_true, rnk_v, rnk_n, ↓reduceIte, i00, i11, ibi, or_true, true_or, and_true, true_and, List.cons_append, List.nil_append, Option.toList, nop]
    refine Eq.trans i1' ?_
    simp (maxSteps := 4000000) (disch := omega) only [s_X11_tree_38, s_X11_tree_40, s_X11_tree_41, s_X11_tree_44, s_X11_tree_46, s_X11_tree_47, s_X11_tree_144, s_X11_tree_147, cls_90, fv_90_0, fv_90_1, fv_90_2, fv_90_3, fv_90_4, fv_90_5, fv_90_6, fv_90_7, fv_90_8, fv_90_9, fv_90_10, fv_90_11, fv_90_12, fv_90_13, fv_90_14, fv_90_15, fv_90_16, fv_90_17, fv_90_18, fv_90_19, fv_90_20, fv_90_21, fv_90_22, fv_90_23, fv_90_24, fv_90_25, ak_91, al_91, ak_92, al_92, ak_93, al_93, ak_94, al_94, ak_95, al_95, ak_96, al_96, ak_97, al_97, ak_98, al_98, ak_99, al_99, ak_100, al_100, rf_100, ak_101, al_101, ak_102, al_102, ak_103, al_103, ak_104, al_104, ak_105, al_105, ak_106, al_106, tn_add, tn_mul, iI_long, jJ_int, v2, leT (show (kT (stK S) : Int) ≤ kT (stK S) by omega), iI_add, iI_sub, iI_mul, iI_neg, iI_lt, iI_le, iI_eq, iI_toInt, tn_n, tn_1, inb_I, Int.reduceEq, Int.reduceLT, Int.reduceLE, Int.reduceAdd, Int.reduceSub, Int.reduceMul, Int.reduceNeg, Int.reduceToNat, Nat.reduceAdd, Nat.reduceMul, Int.reduceNatCast, reduceCtorEq, Int.cast_ofNat_Int, bi_tr, bi_fa, bi_0, bi_1, not_true_eq_false, not_false_eq_true, rnk_v, rnk_n, ↓reduceIte, i00, i11, ibi, or_true, true_or, and_true, true_and, List.cons_append, List.nil_append, Option.toList, nop]
    exact hX) (Nat.zero_le _) (a := (M1, none)) ⟨a3, f0, a2, fun i => by simp [f0], fun i _ j _ => rfl⟩
  have b1' : Sm [101] M M2 := b1
  have b2' : RepF M2 f9 := b2
  have w3 : RepN M2 92 (stK S) := RepN_Sm c1 b1' (by simp)
  have v1 := w3.1.1
  have W9 := trL_ok i1 9 (by omega)
  have og := one_group' W9.1 W9.2.2.1
  have key := lq (f := fun d => rn (exF D) C_X11_tree 156 [some (.ref 90), some (.int (iI w)), some (.int (iI (trL (stK S) 9).2.1)), some (.int (iI (trL (stK S) 9).2.2.1)), some (.int (bi (alB (oB (trL (stK S) 9)) d = true))), some (.int (iI d))] [] M2) (n := kD (stK S)) (by
    intro d hd X hX
    show rn _ _ _ _ _ _ = X
    have t1 := (b2' 0 (by omega) d (by omega)).1
    rw [b4 0 (by omega) d hd, Nat.mul_zero, Nat.zero_add] at t1
    unfold fg at t1
    rw [s_X11_tree_156]
    by_cases q1 : alB (oB (trL (stK S) 9)) d = true
    · rw [bi_t q1]
      by_cases q2 : (trL (stK S) 9).1 0 = (trL (stK S) 9).1 d
      · rw [if_pos q2] at t1
        have e : alB (oB (trL (stK S) 9)) (d + 1) = true := by rw [alB_up, q1, show oB (trL (stK S) 9) d = true from decide_eq_true q2]; rfl
        simp only [bi_t e] at hX
        simp (maxSteps := 4000000) (disch := omega) only [s_X11_tree_158, s_X11_tree_159, s_X11_tree_162, s_X11_tree_164, s_X11_tree_165, s_X11_tree_168, s_X11_tree_170, s_X11_tree_173, s_X11_tree_174, s_X11_tree_177, s_X11_tree_179, s_X11_tree_180, s_X11_tree_183, s_X11_tree_186, s_X11_tree_187, s_X11_tree_190, s_X11_tree_191, s_X11_tree_193, s_X11_tree_196, cls_90, fv_90_0, fv_90_1, fv_90_2, fv_90_3, fv_90_4, fv_90_5, fv_90_6, fv_90_7, fv_90_8, fv_90_9, fv_90_10, fv_90_11, fv_90_12, fv_90_13, fv_90_14, fv_90_15, fv_90_16, fv_90_17, fv_90_18, fv_90_19, fv_90_20, fv_90_21, fv_90_22, fv_90_23, fv_90_24, fv_90_25, ak_91, al_91, ak_92, al_92, ak_93, al_93, ak_94, al_94, ak_95, al_95, ak_96, al_96, ak_97, al_97, ak_98, al_98, ak_99, al_99, ak_100, al_100, rf_100, ak_101, al_101, ak_102, al_102, ak_103, al_103, ak_104, al_104, ak_105, al_105, ak_106, al_106, tn_add, tn_mul, iI_long, jJ_int, v1, t1, leF (show (d : Int) < kD (stK S) by omega), iI_add, iI_sub, iI_mul, iI_neg, iI_lt, iI_le, iI_eq, iI_toInt, tn_n, tn_1, inb_I, Int.reduceEq, Int.reduceLT, Int.reduceLE, Int.reduceAdd, Int.reduceSub, Int.reduceMul, Int.reduceNeg, Int.reduceToNat, Nat.reduceAdd, Nat.reduceMul, Int.reduceNatCast, reduceCtorEq, Int.cast_ofNat_Int, bi_tr, bi_fa, bi_0, bi_1, not_true_eq_false, not_false_eq_true, rnk_v, rnk_n, ↓reduceIte, i00, i11, ibi, or_true, true_or, and_true, true_and, List.cons_append, List.nil_append, Option.toList, nop]
        exact hX
      · rw [if_neg q2] at t1
        have e : ¬ alB (oB (trL (stK S) 9)) (d + 1) = true := by rw [alB_up, show oB (trL (stK S) 9) d = false from decide_eq_false q2]; simp
        simp only [bi_f e] at hX
        simp (maxSteps := 4000000) (disch := omega) only [s_X11_tree_158, s_X11_tree_159, s_X11_tree_162, s_X11_tree_164, s_X11_tree_165, s_X11_tree_168, s_X11_tree_170, s_X11_tree_173, s_X11_tree_174, s_X11_tree_177, s_X11_tree_179, s_X11_tree_180, s_X11_tree_183, s_X11_tree_186, s_X11_tree_187, s_X11_tree_190, s_X11_tree_191, s_X11_tree_193, s_X11_tree_196, cls_90, fv_90_0, fv_90_1, fv_90_2, fv_90_3, fv_90_4, fv_90_5, fv_90_6, fv_90_7, fv_90_8, fv_90_9, fv_90_10, fv_90_11, fv_90_12, fv_90_13, fv_90_14, fv_90_15, fv_90_16, fv_90_17, fv_90_18, fv_90_19, fv_90_20, fv_90_21, fv_90_22, fv_90_23, fv_90_24, fv_90_25, ak_91, al_91, ak_92, al_92, ak_93, al_93, ak_94, al_94, ak_95, al_95, ak_96, al_96, ak_97, al_97, ak_98, al_98, ak_99, al_99, ak_100, al_100, rf_100, ak_101, al_101, ak_102, al_102, ak_103, al_103, ak_104, al_104, ak_105, al_105, ak_106, al_106, tn_add, tn_mul, iI_long, jJ_int, v1, t1, leF (show (d : Int) < kD (stK S) by omega), iI_add, iI_sub, iI_mul, iI_neg, iI_lt, iI_le, iI_eq, iI_toInt, tn_n, tn_1, inb_I, Int.reduceEq, Int.reduceLT, Int.reduceLE, Int.reduceAdd, Int.reduceSub, Int.reduceMul, Int.reduceNeg, Int.reduceToNat, Nat.reduceAdd, Nat.reduceMul, Int.reduceNatCast, reduceCtorEq, Int.cast_ofNat_Int, bi_tr, bi_fa, bi_0, bi_1, not_true_eq_false, not_false_eq_true, rnk_v, rnk_n, ↓reduceIte, i00, i11, ibi, or_true, true_or, and_true, true_and, List.cons_append, List.nil_append, Option.toList, nop]
        exact hX
    · rw [bi_f q1]
      have e : ¬ alB (oB (trL (stK S) 9)) (d + 1) = true := by rw [alB_up]; simp [q1]
      simp only [bi_f e] at hX
      simp (maxSteps := 4000000) (disch := omega) only [s_X11_tree_158, s_X11_tree_159, s_X11_tree_162, s_X11_tree_164, s_X11_tree_165, s_X11_tree_168, s_X11_tree_170, s_X11_tree_173, s_X11_tree_174, s_X11_tree_177, s_X11_tree_179, s_X11_tree_180, s_X11_tree_183, s_X11_tree_186, s_X11_tree_187, s_X11_tree_190, s_X11_tree_191, s_X11_tree_193, s_X11_tree_196, cls_90, fv_90_0, fv_90_1, fv_90_2, fv_90_3, fv_90_4, fv_90_5, fv_90_6, fv_90_7, fv_90_8, fv_90_9, fv_90_10, fv_90_11, fv_90_12, fv_90_13, fv_90_14, fv_90_15, fv_90_16, fv_90_17, fv_90_18, fv_90_19, fv_90_20, fv_90_21, fv_90_22, fv_90_23, fv_90_24, fv_90_25, ak_91, al_91, ak_92, al_92, ak_93, al_93, ak_94, al_94, ak_95, al_95, ak_96, al_96, ak_97, al_97, ak_98, al_98, ak_99, al_99, ak_100, al_100, rf_100, ak_101, al_101, ak_102, al_102, ak_103, al_103, ak_104, al_104, ak_105, al_105, ak_106, al_106, tn_add, tn_mul, iI_long, jJ_int, v1, leF (show (d : Int) < kD (stK S) by omega), iI_add, iI_sub, iI_mul, iI_neg, iI_lt, iI_le, iI_eq, iI_toInt, tn_n, tn_1, inb_I, Int.reduceEq, Int.reduceLT, Int.reduceLE, Int.reduceAdd, Int.reduceSub, Int.reduceMul, Int.reduceNeg, Int.reduceToNat, Nat.reduceAdd, Nat.reduceMul, Int.reduceNatCast, reduceCtorEq, Int.cast_ofNat_Int, bi_tr, bi_fa, bi_0, bi_1, not_true_eq_false, not_false_eq_true, rnk_v, rnk_n, ↓reduceIte, i00, i11, ibi, or_true, true_or, and_true, true_and, List.cons_append, List.nil_append, Option.toList, nop]
      exact hX)
  have e00 : ((0 : Nat) : Int) + 1 = 1 := rfl
  have e09 : ((9 : Nat) : Int) + 1 = 10 := rfl
  have et1 : iI ((trL (stK S) 0).2.1 : Nat) = iI 0 := rfl
  have et2 : iI ((trL (stK S) 0).2.2.1 : Nat) = iI 0 := rfl
  simp only [e00, e09, et1, et2] at e2
  have k0 : bi (alB (oB (trL (stK S) 9)) 0 = true) = iI 1 := bi_t rfl
  have k00 : iI ((0 : Nat) : Int) = iI 0 := rfl
  simp only [k0, k00] at key
  refine okR_scr hC (M' := M2) ?_ b1' (by simp)
  have pre : exF (D + 1) m_X11_tree [.ref 90, .int (iI w)] M = rn (exF D) C_X11_tree 156 [some (.ref 90), some (.int (iI w)), some (.int (iI (trL (stK S) 9).2.1)), some (.int (iI (trL (stK S) 9).2.2.1)), some (.int (bi (alB (oB (trL (stK S) 9)) (kD (stK S)) = true))), some (.int (iI (kD (stK S))))] [] M2 := by
    simp (maxSteps := 4000000) (disch := omega) only [en_X11_tree, s_X11_tree_0, s_X11_tree_1, s_X11_tree_2, s_X11_tree_3, s_X11_tree_4, s_X11_tree_7, s_X11_tree_10, s_X11_tree_11, s_X11_tree_13, s_X11_tree_16, s_X11_tree_17, s_X11_tree_18, s_X11_tree_21, s_X11_tree_22, s_X11_tree_23, s_X11_tree_24, s_X11_tree_25, s_X11_tree_26, cls_90, fv_90_0, fv_90_1, fv_90_2, fv_90_3, fv_90_4, fv_90_5, fv_90_6, fv_90_7, fv_90_8, fv_90_9, fv_90_10, fv_90_11, fv_90_12, fv_90_13, fv_90_14, fv_90_15, fv_90_16, fv_90_17, fv_90_18, fv_90_19, fv_90_20, fv_90_21, fv_90_22, fv_90_23, fv_90_24, fv_90_25, iI_long, k_X11_isIn (show _ ≤ D by omega), bi_t e1, a1, iI_add, iI_sub, iI_mul, iI_neg, iI_lt, iI_le, iI_eq, iI_toInt, tn_n, tn_1, inb_I, Int.reduceEq, Int.reduceLT, Int.reduceLE, Int.reduceAdd, Int.reduceSub, Int.reduceMul, Int.reduceNeg, Int.reduceToNat, Nat.reduceAdd, Nat.reduceMul, Int.reduceNatCast, reduceCtorEq, Int.cast_ofNat_Int, bi_tr, bi_fa, bi_0, bi_1, not_true_eq_false, not_false_eq_true, rnk_v, rnk_n, ↓reduceIte, i00, i11, ibi, or_true, true_or, and_true, true_and, List.cons_append, List.nil_append, Option.toList, nop]
    refine Eq.trans e2 ?_
    simp (maxSteps := 4000000) (disch := omega) only [s_X11_tree_28, s_X11_tree_30, s_X11_tree_32, s_X11_tree_150, s_X11_tree_151, s_X11_tree_153, s_X11_tree_154, iI_add, iI_sub, iI_mul, iI_neg, iI_lt, iI_le, iI_eq, iI_toInt, tn_n, tn_1, inb_I, Int.reduceEq, Int.reduceLT, Int.reduceLE, Int.reduceAdd, Int.reduceSub, Int.reduceMul, Int.reduceNeg, Int.reduceToNat, Nat.reduceAdd, Nat.reduceMul, Int.reduceNatCast, reduceCtorEq, Int.cast_ofNat_Int, bi_tr, bi_fa, bi_0, bi_1, not_true_eq_false, not_false_eq_true, rnk_v, rnk_n, ↓reduceIte, i00, i11, ibi, or_true, true_or, and_true, true_and, List.cons_append, List.nil_append, Option.toList, nop]
    exact key
  rw [pre]
  have hw : w = 0 ∨ w = 1 := by omega
  by_cases q : (trL (stK S) 9).2.2.2 ≤ 1
  · rw [bi_t (og.mp q), if_neg (fun h => h q)]
    rcases hw with rfl | rfl <;>
    · simp (maxSteps := 4000000) (disch := omega) only [s_X11_tree_156, s_X11_tree_158, s_X11_tree_159, s_X11_tree_162, s_X11_tree_164, s_X11_tree_165, s_X11_tree_168, s_X11_tree_170, s_X11_tree_173, s_X11_tree_174, s_X11_tree_177, s_X11_tree_179, s_X11_tree_180, s_X11_tree_183, s_X11_tree_186, s_X11_tree_187, s_X11_tree_190, s_X11_tree_191, s_X11_tree_193, s_X11_tree_196, s_X11_tree_199, s_X11_tree_201, s_X11_tree_204, s_X11_tree_205, s_X11_tree_208, s_X11_tree_209, s_X11_tree_212, s_X11_tree_213, s_X11_tree_216, s_X11_tree_217, cls_90, fv_90_0, fv_90_1, fv_90_2, fv_90_3, fv_90_4, fv_90_5, fv_90_6, fv_90_7, fv_90_8, fv_90_9, fv_90_10, fv_90_11, fv_90_12, fv_90_13, fv_90_14, fv_90_15, fv_90_16, fv_90_17, fv_90_18, fv_90_19, fv_90_20, fv_90_21, fv_90_22, fv_90_23, fv_90_24, fv_90_25, ak_91, al_91, ak_92, al_92, ak_93, al_93, ak_94, al_94, ak_95, al_95, ak_96, al_96, ak_97, al_97, ak_98, al_98, ak_99, al_99, ak_100, al_100, rf_100, ak_101, al_101, ak_102, al_102, ak_103, al_103, ak_104, al_104, ak_105, al_105, ak_106, al_106, tn_add, tn_mul, iI_long, jJ_int, v1, leT (show (kD (stK S) : Int) ≤ kD (stK S) by omega), iI_add, iI_sub, iI_mul, iI_neg, iI_lt, iI_le, iI_eq, iI_toInt, tn_n, tn_1, inb_I, Int.reduceEq, Int.reduceLT, Int.reduceLE, Int.reduceAdd, Int.reduceSub, Int.reduceMul, Int.reduceNeg, Int.reduceToNat, Nat.reduceAdd, Nat.reduceMul, Int.reduceNatCast, reduceCtorEq, Int.cast_ofNat_Int, bi_tr, bi_fa, bi_0, bi_1, not_true_eq_false, not_false_eq_true, rnk_v, rnk_n, ↓reduceIte, i00, i11, ibi, or_true, true_or, and_true, true_and, List.cons_append, List.nil_append, Option.toList, nop]
  · rw [bi_f (fun h => q (og.mpr h)), if_pos q]
    rcases hw with rfl | rfl <;>
    · simp (maxSteps := 4000000) (disch := omega) only [s_X11_tree_156, s_X11_tree_158, s_X11_tree_159, s_X11_tree_162, s_X11_tree_164, s_X11_tree_165, s_X11_tree_168, s_X11_tree_170, s_X11_tree_173, s_X11_tree_174, s_X11_tree_177, s_X11_tree_179, s_X11_tree_180, s_X11_tree_183, s_X11_tree_186, s_X11_tree_187, s_X11_tree_190, s_X11_tree_191, s_X11_tree_193, s_X11_tree_196, s_X11_tree_199, s_X11_tree_201, s_X11_tree_204, s_X11_tree_205, s_X11_tree_208, s_X11_tree_209, s_X11_tree_212, s_X11_tree_213, s_X11_tree_216, s_X11_tree_217, cls_90, fv_90_0, fv_90_1, fv_90_2, fv_90_3, fv_90_4, fv_90_5, fv_90_6, fv_90_7, fv_90_8, fv_90_9, fv_90_10, fv_90_11, fv_90_12, fv_90_13, fv_90_14, fv_90_15, fv_90_16, fv_90_17, fv_90_18, fv_90_19, fv_90_20, fv_90_21, fv_90_22, fv_90_23, fv_90_24, fv_90_25, ak_91, al_91, ak_92, al_92, ak_93, al_93, ak_94, al_94, ak_95, al_95, ak_96, al_96, ak_97, al_97, ak_98, al_98, ak_99, al_99, ak_100, al_100, rf_100, ak_101, al_101, ak_102, al_102, ak_103, al_103, ak_104, al_104, ak_105, al_105, ak_106, al_106, tn_add, tn_mul, iI_long, jJ_int, v1, leT (show (kD (stK S) : Int) ≤ kD (stK S) by omega), iI_add, iI_sub, iI_mul, iI_neg, iI_lt, iI_le, iI_eq, iI_toInt, tn_n, tn_1, inb_I, Int.reduceEq, Int.reduceLT, Int.reduceLE, Int.reduceAdd, Int.reduceSub, Int.reduceMul, Int.reduceNeg, Int.reduceToNat, Nat.reduceAdd, Nat.reduceMul, Int.reduceNatCast, reduceCtorEq, Int.cast_ofNat_Int, bi_tr, bi_fa, bi_0, bi_1, not_true_eq_false, not_false_eq_true, rnk_v, rnk_n, ↓reduceIte, i00, i11, ibi, or_true, true_or, and_true, true_and, List.cons_append, List.nil_append, Option.toList, nop]
