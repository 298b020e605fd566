/-! CUTS: THE REFERENCE, the call -/
theorem uShut_flags {K : tK} {c t u : Nat} {p : Int} (h5 : kK K c ≠ 5) (b : Bool) : mayK (uShut K t 1) c u b = (mayK K c u b && !decide ((u : Int) = (t : Int))) := by
  have e1 : kK (uShut K t 1) c = kK K c := by simp [uShut, ks, kK]
  have e2 : kW (uShut K t 1) c = kW K c := by simp [uShut, ks, kW]
  have e3 : kB (uShut K t 1) u = kB K u := by simp [uShut, ks, kB]
  unfold mayK
  rw [e1, e2, e3]
  have e5 : (kK K c == 5) = false := beq_eq_false_iff_ne.mpr h5
  rw [e5, Bool.false_or, Bool.false_or]
  by_cases y : u = t
  · subst y
    have e4 : kH (uShut K u 1) u = 1 := by simp [uShut, ks, kH]
    rw [e4]
    simp
  · have e4 : kH (uShut K t 1) u = kH K u := by simp [uShut, ks, kH, y]
    rw [e4]
    have y' : ¬ (u : Int) = (t : Int) := by omega
    simp [y']
theorem uShut_tm (K : tK) (c t u : Nat) (p : Int) : tmK (uShut K t 1) c u p = tmK K c u p := by
  have e1 : kK (uShut K t 1) c = kK K c := by simp [uShut, ks, kK]
  have e2 : kW (uShut K t 1) c = kW K c := by simp [uShut, ks, kW]
  have e3 : kB (uShut K t 1) u = kB K u := by simp [uShut, ks, kB]
  have e4 : kL (uShut K t 1) u = kL K u := by simp [uShut, ks, kL]
  have e5 : kA (uShut K t 1) c = kA K c := by simp [uShut, ks, kA]
  unfold tmK
  rw [e1, e2, e3, e4, e5]
theorem uShut_dX {K : tK} (hI : kInv K) {c t : Nat} (h5 : kK K c ≠ 5) {p : Int} {u v : Nat} (hu : u < kD K) (hv : v < kD K) : dG (uShut K t 1) (gK (uShut K t 1) c p) u v = dG K (gX (gK K c p) t) u v := by
  symm
  refine dG_E hI (uShut_inv hI (by omega)) (by simp [uShut, ks, kD]) (fun a b x => ?_) hu hv
  have eT : kT (uShut K t 1) = kT K := by simp [uShut, ks, kT]
  have eF : ∀ i, kF (uShut K t 1) i = kF K i := fun i => by simp [uShut, ks, kF]
  have eO : ∀ i, kO (uShut K t 1) i = kO K i := fun i => by simp [uShut, ks, kO]
  have f1 : ∀ i, (gK (uShut K t 1) c p).2.1 i = (gX (gK K c p) t).2.1 i := fun i => uShut_flags (p := p) h5 false
  have f2 : ∀ i, (gK (uShut K t 1) c p).2.2 i = (gX (gK K c p) t).2.2 i := fun i => uShut_flags (p := p) h5 true
  have f0 : ∀ i, (gK (uShut K t 1) c p).1 i = (gX (gK K c p) t).1 i := fun i => by
    show (tmK _ _ _ _).toNat = (tmK _ _ _ _).toNat
    rw [uShut_tm]
  unfold Eg
  constructor
  · rintro ⟨i, h1, h2, h3⟩
    exact ⟨i, by rw [eT]; exact h1, by rw [f0]; exact h2, by rw [f1, f2, eF, eO]; exact h3⟩
  · rintro ⟨i, h1, h2, h3⟩
    rw [f1, f2, eF, eO] at h3
    rw [f0] at h2
    rw [eT] at h1
    exact ⟨i, h1, h2, h3⟩
theorem uShut_dC {K : tK} (hI : kInv K) {c t : Nat} (h5 : kK K c = 5) {p : Int} {u v : Nat} (hu : u < kD K) (hv : v < kD K) : dG (uShut K t 1) (gK (uShut K t 1) c p) u v = dG K (gK K c p) u v := by
  symm
  refine dG_E hI (uShut_inv hI (by omega)) (by simp [uShut, ks, kD]) (fun a b x => ?_) hu hv
  have eT : kT (uShut K t 1) = kT K := by simp [uShut, ks, kT]
  have eF : ∀ i, kF (uShut K t 1) i = kF K i := fun i => by simp [uShut, ks, kF]
  have eO : ∀ i, kO (uShut K t 1) i = kO K i := fun i => by simp [uShut, ks, kO]
  have e1 : kK (uShut K t 1) c = kK K c := by simp [uShut, ks, kK]
  have m : ∀ i b, mayK (uShut K t 1) c i b = mayK K c i b := fun i b => by unfold mayK; rw [e1, h5]; rfl
  have f1 : ∀ i, (gK (uShut K t 1) c p).2.1 i = (gK K c p).2.1 i := fun i => m i false
  have f2 : ∀ i, (gK (uShut K t 1) c p).2.2 i = (gK K c p).2.2 i := fun i => m i true
  have f0 : ∀ i, (gK (uShut K t 1) c p).1 i = (gK K c p).1 i := fun i => by
    show (tmK _ _ _ _).toNat = (tmK _ _ _ _).toNat
    rw [uShut_tm]
  unfold Eg
  constructor
  · rintro ⟨i, h1, h2, h3⟩
    exact ⟨i, by rw [eT]; exact h1, by rw [f0]; exact h2, by rw [f1, f2, eF, eO]; exact h3⟩
  · rintro ⟨i, h1, h2, h3⟩
    rw [f1, f2, eF, eO] at h3
    rw [f0] at h2
    rw [eT] at h1
    exact ⟨i, h1, h2, h3⟩
theorem uShut_back (K : tK) (t : Nat) : uShut (uShut K t 1) t (kH K t) = K := by
  unfold uShut ks kH
  refine Prod.ext ?_ rfl
  funext x y
  dsimp only
  by_cases e : x = 6 ∧ y = t
  · rw [if_pos e, e.1, e.2]
  · rw [if_neg e, if_neg e]
theorem kP_uShut (K : tK) (t v : Nat) : kP (uShut K t v) = kP K := by simp [uShut, ks, kP]
def kpR (K : tK) (c g : Nat) : Nat := if kK K c = 5 then 0 else kpX K (gK K c (kP K)) (kX K c) g
def kpB (K : tK) (c g t : Nat) : Bool := decide (dG (uShut K t 1) (gK (uShut K t 1) c (kP K)) (kX K c) g = 9999)
theorem kpB_all {K : tK} (hI : kInv K) {c g : Nat} (hc : c < kC K) (hg : g < kD K) (hr : dG K (gK K c (kP K)) (kX K c) g < 9999) : bts (kpB K c g) (kT K) = kpR K c g := by
  have g0 := kI_c hI hc
  unfold kpR
  by_cases h5 : kK K c = 5
  · rw [if_pos h5]
    have : ∀ n, bts (kpB K c g) n = 0 := by
      intro n
      induction n with
      | zero => rfl
      | succ n ih =>
        rw [← bts_skip (decide_eq_false (by rw [uShut_dC hI h5 g0.2.2.2 hg]; omega)), ih]
    exact this _
  · rw [if_neg h5]
    unfold kpX
    apply bts_cong
    intro t _
    unfold kpB
    rw [uShut_dX hI h5 g0.2.2.2 hg]
theorem k_X11_keep {D : Nat} (hD : 4 ≤ D) {M : tM} {K : tK} (hR : RepN M 92 K) (hI : kInv K) {c g : Nat} (hc : c < kC K) (hg : g < kD K) : ∃ M', exF D m_X11_keep [.ref 90, .int (iI c), .int (iI g)] M = some (some (.int (iI (if dG K (gK K c (kP K)) (kX K c) g < 9999 then (kpR K c g : Int) else 0))), M') ∧ RepN M' 92 K ∧ Sm [92, 101] M M' := by
  obtain ⟨D, rfl⟩ : ∃ D0, D = D0 + 1 := ⟨D - 1, by omega⟩
  have n0 := kI_n hI
  have g0 := kI_c hI hc
  obtain ⟨M1, a1, a2, a3⟩ := k_X11_fill (D := D) (by omega) hR hI hc 0 false rfl
  have hR1 : RepN M1 92 K := RepN_Sm hR a3 (by simp)
  have w1 := k_X11_way (D := D) (by omega) hR1 hI a2 hc (show g < 8 by omega)
  rw [show gF K c false = gK K c (kP K) from rfl] at w1
  have hle := dG_le K (gK K c (kP K)) (kX K c) g
  by_cases q : dG K (gK K c (kP K)) (kX K c) g < 9999
  rotate_left
  · rw [if_neg q]
    refine ⟨M1, ?_, hR1, Sm_mono (by simp) a3⟩
    simp (maxSteps := 4000000) (disch := omega) only [en_X11_keep, s_X11_keep_0, s_X11_keep_1, s_X11_keep_2, s_X11_keep_3, s_X11_keep_6, s_X11_keep_7, s_X11_keep_8, s_X11_keep_9, s_X11_keep_12, s_X11_keep_15, s_X11_keep_18, s_X11_keep_19, cls_90, a1, w1, leT (show (9999 : Int) ≤ dG K (gK K c (kP K)) (kX K c) g by omega), ltF (show (9999 : Int) ≤ dG K (gK K c (kP K)) (kX K c) g by omega), iI_add, iI_sub, iI_mul, iI_neg, iI_lt, iI_le, iI_eq, iI_toInt, tn_n, tn_1, inb_I, Int.reduceEq, Int.reduceLT, Int.reduceLE, Int.reduceAdd, Int.reduceSub, Int.reduceMul, Int.reduceNeg, Int.reduceToNat, Nat.reduceAdd, Nat.reduceMul, Int.reduceNatCast, reduceCtorEq, Int.cast_ofNat_Int, bi_tr, bi_fa, bi_0, bi_1, not_true_eq_false, not_false_eq_true, rnk_v, rnk_n, ↓reduceIte, i00, i11, ibi, or_true, true_or, and_true, true_and, List.cons_append, List.nil_append, Option.toList, nop]
  rw [if_pos q, ← kpB_all hI hc hg q]
  obtain ⟨⟨M2, y5⟩, b1, b2, b3⟩ := lp (f := fun t (x : tM × Option Value) => rn (exF D) C_X11_keep 25 [some (.ref 90), some (.int (iI c)), some (.int (iI g)), some (.int (iI (bts (kpB K c g) t))), some (.int (iI t)), x.2] [] x.1) (P := fun t x => Sm [92, 101] M x.1 ∧ RepN x.1 92 K) (n := kT K) (by
    rintro t ⟨N, y5⟩ ht ⟨p1, p2⟩
    replace p2 : RepN N 92 K := p2
    replace p1 : Sm [92, 101] M N := p1
    have r2 := p2.1.2.1
    have g1 := kI_t hI ht
    obtain ⟨f1, f2, f3, f4, f5⟩ := p2.2.2.1 t ht
    have q1 : RepN (sI N 92 (5 * t + 4) (iI (1 : Nat))) 92 (uShut K t 1) := uShut_RepN p2 hI ht
    have hI' : kInv (uShut K t 1) := uShut_inv hI (by omega)
    have hc' : c < kC (uShut K t 1) := by simpa [uShut, ks, kC] using hc
    have hX : kX (uShut K t 1) c = kX K c := by simp [uShut, ks, kX]
    have ht' : t < kT (uShut K t 1) := by simpa [uShut, ks, kT] using ht
    obtain ⟨N1, d1, d2, d3⟩ := k_X11_fill (D := D) (by omega) q1 hI' hc' 0 false rfl
    have q2 : RepN N1 92 (uShut K t 1) := RepN_Sm q1 d3 (by simp)
    have w2 := k_X11_way (D := D) (by omega) q2 hI' d2 hc' (show g < 8 by omega)
    rw [show gF (uShut K t 1) c false = gK (uShut K t 1) c (kP K) from by unfold gF; rw [if_neg (by simp), kP_uShut], hX] at w2
    have q3 : RepN (sI N1 92 (5 * t + 4) (iI (kH K t))) 92 K := by
      have := uShut_RepN (v := kH K t) q2 hI' ht'
      rw [uShut_back] at this
      exact this
    have hle2 := dG_le (uShut K t 1) (gK (uShut K t 1) c (kP K)) (kX K c) g
    have hlt := bts_lt (kpB K c g) t
    have s2 : Sm [92, 101] M (sI N1 92 (5 * t + 4) (iI (kH K t))) := Sm_tr p1 (Sm_tr (Sm_sI (by simp)) (Sm_tr (Sm_mono (by simp) d3) (Sm_sI (by simp))))
    refine ⟨(sI N1 92 (5 * t + 4) (iI (kH K t)), some (.int (iI (kH K t)))), ?_, s2, q3⟩
    intro X hX'
    show rn _ _ _ _ _ _ = X
    have e1 : iI ((1 : Nat) : Int) = iI 1 := rfl
    rw [e1] at d1
    rw [s_X11_keep_25]
    by_cases z : dG (uShut K t 1) (gK (uShut K t 1) c (kP K)) (kX K c) g < 9999
    · have eb : bts (kpB K c g) t = bts (kpB K c g) (t + 1) := bts_skip (decide_eq_false (by omega))
      have e0 : iI (bts (kpB K c g) t) ||| iI 0 = iI (bts (kpB K c g) t) := by
        have := iI_or (bts (kpB K c g) t) 0
        rw [Nat.or_zero] at this
        exact this
      rw [← eb] at hX'
      generalize dG (uShut K t 1) (gK (uShut K t 1) c (kP K)) (kX K c) g = v at *
      simp (maxSteps := 4000000) (disch := omega) only [s_X11_keep_27, s_X11_keep_28, s_X11_keep_31, s_X11_keep_33, s_X11_keep_34, s_X11_keep_37, s_X11_keep_38, s_X11_keep_41, s_X11_keep_42, s_X11_keep_44, s_X11_keep_45, s_X11_keep_46, s_X11_keep_47, s_X11_keep_48, s_X11_keep_50, s_X11_keep_51, s_X11_keep_54, s_X11_keep_55, s_X11_keep_57, s_X11_keep_58, s_X11_keep_59, s_X11_keep_60, s_X11_keep_61, s_X11_keep_62, s_X11_keep_63, s_X11_keep_64, s_X11_keep_65, s_X11_keep_68, s_X11_keep_69, s_X11_keep_70, s_X11_keep_71, s_X11_keep_72, s_X11_keep_75, s_X11_keep_78, s_X11_keep_81, s_X11_keep_82, s_X11_keep_84, s_X11_keep_85, s_X11_keep_88, s_X11_keep_89, s_X11_keep_90, s_X11_keep_91, s_X11_keep_92, s_X11_keep_95, s_X11_keep_96, s_X11_keep_98, s_X11_keep_99, s_X11_keep_100, s_X11_keep_101, s_X11_keep_103, s_X11_keep_104, s_X11_keep_107, cls_90, fv_90_0, fv_90_1, fv_90_2, fv_90_3, fv_90_4, fv_90_5, fv_90_6, fv_90_7, fv_90_8, fv_90_9, fv_90_10, fv_90_11, fv_90_12, fv_90_13, fv_90_14, fv_90_15, fv_90_16, fv_90_17, fv_90_18, fv_90_19, fv_90_20, fv_90_21, fv_90_22, fv_90_23, fv_90_24, fv_90_25, ak_91, al_91, ak_92, al_92, ak_93, al_93, ak_94, al_94, ak_95, al_95, ak_96, al_96, ak_97, al_97, ak_98, al_98, ak_99, al_99, ak_100, al_100, rf_100, ak_101, al_101, ak_102, al_102, ak_103, al_103, ak_104, al_104, ak_105, al_105, ak_106, al_106, tn_add, tn_mul, iI_long, jJ_int, tn_5k, r2, f5, d1, w2, e0, leF (show (v : Int) < 9999 by omega), ltT (show (v : Int) < 9999 by omega), leF (show (t : Int) < kT K by omega), iI_add, iI_sub, iI_mul, iI_neg, iI_lt, iI_le, iI_eq, iI_toInt, tn_n, tn_1, inb_I, Int.reduceEq, Int.reduceLT, Int.reduceLE, Int.reduceAdd, Int.reduceSub, Int.reduceMul, Int.reduceNeg, Int.reduceToNat, Nat.reduceAdd, Nat.reduceMul, Int.reduceNatCast, reduceCtorEq, Int.cast_ofNat_Int, bi_tr, bi_fa, bi_0, bi_1, not_true_eq_false, not_false_eq_true, rnk_v, rnk_n, ↓reduceIte, i00, i11, ibi, or_true, true_or, and_true, true_and, List.cons_append, List.nil_append, Option.toList, nop]
      exact hX'
    · have eb : bts (kpB K c g) t ||| 2 ^ t = bts (kpB K c g) (t + 1) := bts_next (decide_eq_true (by omega))
      rw [← eb] at hX'
      generalize dG (uShut K t 1) (gK (uShut K t 1) c (kP K)) (kX K c) g = v at *
      simp (maxSteps := 4000000) (disch := omega) only [s_X11_keep_27, s_X11_keep_28, s_X11_keep_31, s_X11_keep_33, s_X11_keep_34, s_X11_keep_37, s_X11_keep_38, s_X11_keep_41, s_X11_keep_42, s_X11_keep_44, s_X11_keep_45, s_X11_keep_46, s_X11_keep_47, s_X11_keep_48, s_X11_keep_50, s_X11_keep_51, s_X11_keep_54, s_X11_keep_55, s_X11_keep_57, s_X11_keep_58, s_X11_keep_59, s_X11_keep_60, s_X11_keep_61, s_X11_keep_62, s_X11_keep_63, s_X11_keep_64, s_X11_keep_65, s_X11_keep_68, s_X11_keep_69, s_X11_keep_70, s_X11_keep_71, s_X11_keep_72, s_X11_keep_75, s_X11_keep_78, s_X11_keep_81, s_X11_keep_82, s_X11_keep_84, s_X11_keep_85, s_X11_keep_88, s_X11_keep_89, s_X11_keep_90, s_X11_keep_91, s_X11_keep_92, s_X11_keep_95, s_X11_keep_96, s_X11_keep_98, s_X11_keep_99, s_X11_keep_100, s_X11_keep_101, s_X11_keep_103, s_X11_keep_104, s_X11_keep_107, cls_90, fv_90_0, fv_90_1, fv_90_2, fv_90_3, fv_90_4, fv_90_5, fv_90_6, fv_90_7, fv_90_8, fv_90_9, fv_90_10, fv_90_11, fv_90_12, fv_90_13, fv_90_14, fv_90_15, fv_90_16, fv_90_17, fv_90_18, fv_90_19, fv_90_20, fv_90_21, fv_90_22, fv_90_23, fv_90_24, fv_90_25, ak_91, al_91, ak_92, al_92, ak_93, al_93, ak_94, al_94, ak_95, al_95, ak_96, al_96, ak_97, al_97, ak_98, al_98, ak_99, al_99, ak_100, al_100, rf_100, ak_101, al_101, ak_102, al_102, ak_103, al_103, ak_104, al_104, ak_105, al_105, ak_106, al_106, tn_add, tn_mul, iI_long, jJ_int, tn_5k, r2, f5, d1, w2, iI_shl1 (show t < 31 by omega), iI_or, leT (show (9999 : Int) ≤ v by omega), ltF (show (9999 : Int) ≤ v by omega), leF (show (t : Int) < kT K by omega), iI_add, iI_sub, iI_mul, iI_neg, iI_lt, iI_le, iI_eq, iI_toInt, tn_n, tn_1, inb_I, Int.reduceEq, Int.reduceLT, Int.reduceLE, Int.reduceAdd, Int.reduceSub, Int.reduceMul, Int.reduceNeg, Int.reduceToNat, Nat.reduceAdd, Nat.reduceMul, Int.reduceNatCast, reduceCtorEq, Int.cast_ofNat_Int, bi_tr, bi_fa, bi_0, bi_1, not_true_eq_false, not_false_eq_true, rnk_v, rnk_n, ↓reduceIte, i00, i11, ibi, or_true, true_or, and_true, true_and, List.cons_append, List.nil_append, Option.toList, nop]
      exact hX') (Nat.zero_le _) (a := (M1, none)) ⟨Sm_mono (by simp) a3, hR1⟩
  have r2 := b3.1.2.1
  refine ⟨M2, ?_, b3, b2⟩
  simp (maxSteps := 4000000) (disch := omega) only [en_X11_keep, s_X11_keep_0, s_X11_keep_1, s_X11_keep_2, s_X11_keep_3, s_X11_keep_6, s_X11_keep_7, s_X11_keep_8, s_X11_keep_9, s_X11_keep_12, s_X11_keep_15, s_X11_keep_18, s_X11_keep_19, s_X11_keep_20, s_X11_keep_21, s_X11_keep_22, s_X11_keep_23, cls_90, a1, w1, leF (show (dG K (gK K c (kP K)) (kX K c) g : Int) < 9999 by omega), ltT (show (dG K (gK K c (kP K)) (kX K c) g : Int) < 9999 by omega), iI_add, iI_sub, iI_mul, iI_neg, iI_lt, iI_le, iI_eq, iI_toInt, tn_n, tn_1, inb_I, Int.reduceEq, Int.reduceLT, Int.reduceLE, Int.reduceAdd, Int.reduceSub, Int.reduceMul, Int.reduceNeg, Int.reduceToNat, Nat.reduceAdd, Nat.reduceMul, Int.reduceNatCast, reduceCtorEq, Int.cast_ofNat_Int, bi_tr, bi_fa, bi_0, bi_1, not_true_eq_false, not_false_eq_true, rnk_v, rnk_n, ↓reduceIte, i00, i11, ibi, or_true, true_or, and_true, true_and, List.cons_append, List.nil_append, Option.toList, nop]
  refine Eq.trans b1 ?_
  dsimp only at r2 ⊢
  simp (maxSteps := 4000000) (disch := omega) only [s_X11_keep_25, s_X11_keep_27, s_X11_keep_28, s_X11_keep_31, s_X11_keep_33, s_X11_keep_34, s_X11_keep_110, s_X11_keep_111, cls_90, fv_90_0, fv_90_1, fv_90_2, fv_90_3, fv_90_4, fv_90_5, fv_90_6, fv_90_7, fv_90_8, fv_90_9, fv_90_10, fv_90_11, fv_90_12, fv_90_13, fv_90_14, fv_90_15, fv_90_16, fv_90_17, fv_90_18, fv_90_19, fv_90_20, fv_90_21, fv_90_22, fv_90_23, fv_90_24, fv_90_25, ak_91, al_91, ak_92, al_92, ak_93, al_93, ak_94, al_94, ak_95, al_95, ak_96, al_96, ak_97, al_97, ak_98, al_98, ak_99, al_99, ak_100, al_100, rf_100, ak_101, al_101, ak_102, al_102, ak_103, al_103, ak_104, al_104, ak_105, al_105, ak_106, al_106, tn_add, tn_mul, iI_long, jJ_int, r2, leT (show (kT K : Int) ≤ kT K by omega), iI_add, iI_sub, iI_mul, iI_neg, iI_lt, iI_le, iI_eq, iI_toInt, tn_n, tn_1, inb_I, Int.reduceEq, Int.reduceLT, Int.reduceLE, Int.reduceAdd, Int.reduceSub, Int.reduceMul, Int.reduceNeg, Int.reduceToNat, Nat.reduceAdd, Nat.reduceMul, Int.reduceNatCast, reduceCtorEq, Int.cast_ofNat_Int, bi_tr, bi_fa, bi_0, bi_1, not_true_eq_false, not_false_eq_true, rnk_v, rnk_n, ↓reduceIte, i00, i11, ibi, or_true, true_or, and_true, true_and, List.cons_append, List.nil_append, Option.toList, nop]
/-- the ways, one by one -/
theorem l_cutw {D : Nat} (hD : 16 ≤ D + 1) {K : tK} (hI : kInv K) {c : Nat} (hc : c < kC K) {p : Int} {b : Nat} (hb : b < kD K) (hne : kX K c ≠ b) {w : Int} : ∀ (m i : Nat), i + m = kT K + 1 → ∀ (M : tM) (f : Nat → Int), RepN M 92 K → RepFr M K f → fF K (gK K c p) f → cons K f (kX K c) b (i : Int) → ∃ (M' : tM) (v : Int), rn (exF D) C_X11_cut 129 [some (.ref 90), some (.int (iI c)), some (.int (iI b)), some (.int (iI w)), some (.int (iI i))] [] M = some (some (.int (iI v)), M') ∧ isV K (gK K c p) (kX K c) b v ∧ Sm [104, 105] M M' := by
  have n0 := kI_n hI
  intro m
  induction m with
  | zero =>
    intro i hi M f h1 h2 h3 h4
    have := cons_le hI h3 h4 hne
    omega
  | succ m ih =>
    intro i hi M f h1 h2 h3 h4
    have g0 := kI_c hI hc
    obtain ⟨M1, s1, hcase⟩ := k_X11_pushes (D := D) (by omega) h1 hI hc h3 h2 hb
    rcases hcase with ⟨e, f', k1, k2, k3, k4⟩ | ⟨e, V, k1, k2, k3, k4, k5, k6⟩
    · obtain ⟨M', v, a1, a2, a3⟩ := ih (i + 1) (by omega) M1 f' (RepN_Sm h1 s1 (by simp)) k1 k2 (cons_up h4 k3)
      refine ⟨M', v, ?_, a2, Sm_tr s1 a3⟩
      rw [s_X11_cut_129]
      simp (maxSteps := 4000000) (disch := omega) only [s_X11_cut_130, s_X11_cut_131, s_X11_cut_132, s_X11_cut_135, s_X11_cut_138, s_X11_cut_141, cls_90, e, iI_add, iI_sub, iI_mul, iI_neg, iI_lt, iI_le, iI_eq, iI_toInt, tn_n, tn_1, inb_I, Int.reduceEq, Int.reduceLT, Int.reduceLE, Int.reduceAdd, Int.reduceSub, Int.reduceMul, Int.reduceNeg, Int.reduceToNat, Nat.reduceAdd, Nat.reduceMul, Int.reduceNatCast, reduceCtorEq, Int.cast_ofNat_Int, bi_tr, bi_fa, bi_0, bi_1, not_true_eq_false, not_false_eq_true, rnk_v, rnk_n, ↓reduceIte, i00, i11, ibi, or_true, true_or, and_true, true_and, List.cons_append, List.nil_append, Option.toList, nop]
      exact a1
    · refine ⟨M1, (i : Int), ?_, ⟨f, V, h3, h4, ?_, k4, k5⟩, s1⟩
      · simp (maxSteps := 4000000) (disch := omega) only [s_X11_cut_129, s_X11_cut_130, s_X11_cut_131, s_X11_cut_132, s_X11_cut_135, s_X11_cut_138, s_X11_cut_141, s_X11_cut_144, s_X11_cut_146, cls_90, e, iI_add, iI_sub, iI_mul, iI_neg, iI_lt, iI_le, iI_eq, iI_toInt, tn_n, tn_1, inb_I, Int.reduceEq, Int.reduceLT, Int.reduceLE, Int.reduceAdd, Int.reduceSub, Int.reduceMul, Int.reduceNeg, Int.reduceToNat, Nat.reduceAdd, Nat.reduceMul, Int.reduceNatCast, reduceCtorEq, Int.cast_ofNat_Int, bi_tr, bi_fa, bi_0, bi_1, not_true_eq_false, not_false_eq_true, rnk_v, rnk_n, ↓reduceIte, i00, i11, ibi, or_true, true_or, and_true, true_and, List.cons_append, List.nil_append, Option.toList, nop]
      · intro t ht
        refine ⟨fun z1 z2 z3 => ?_, fun z1 z2 z3 => ?_⟩
        · rcases k6 _ z1 with y | y
          · cases y
          · rw [(y t ht).1 rfl z3] at z2; cases z2
        · rcases k6 _ z1 with y | y
          · cases y
          · rw [(y t ht).2 rfl z3] at z2; cases z2
theorem zR_flags {K : tK} {G H : tG} (h1 : ∀ t, t < kT K → G.2.1 t = H.2.1 t) (h2 : ∀ t, t < kT K → G.2.2 t = H.2.2 t) (s : Nat) : ∀ i, zR K G s i = zR K H s i
  | 0 => rfl
  | i + 1 => by
    have e : ∀ n, n ≤ kT K → zT K G (zR K G s i) n = zT K H (zR K H s i) n := by
      intro n
      induction n with
      | zero => intro _; exact zR_flags h1 h2 s i
      | succ n ih =>
        intro hn
        simp only [zT]
        rw [ih (by omega)]
        unfold z2 z1
        rw [h1 n (by omega), h2 n (by omega)]
    exact e (kT K) (Nat.le_refl _)
theorem cutV_0 {K : tK} (hI : kInv K) {G : tG} (hG : gI K G) {a b : Nat} (ha : a < kD K) (hb : b < kD K) (h : ¬ dG K G a b < 9999) : cutV K G a b = 0 := by
  apply cutV_of hI ha
  refine isV_of hI ha (fF_0 K G) (cons_0 K a b) ?_
  have e := zR_8 hI hG ha hb
  have e2 := zR_8 hI (rG_I K G (fun _ => 0)) ha hb
  rw [← zR_flags (G := G) (H := rG G (fun _ => 0)) (fun t _ => ?_) (fun t _ => ?_), e, decide_eq_false h] at e2
  · exact of_decide_eq_false e2.symm
  · show G.2.1 t = decide ((0 : Int) < fc (G.2.1 t))
    unfold fc
    cases G.2.1 t <;> rfl
  · show G.2.2 t = decide (-(0 : Int) < fc (G.2.2 t))
    unfold fc
    cases G.2.2 t <;> rfl
