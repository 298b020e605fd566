/-! what changes a ministry -/
def ks (K : tK) (f i v : Nat) : tK := (fun x y => if x = f ∧ y = i then v else K.1 x y, K.2)
def uDesk (K : tK) : tK := ks (ks K 1 (kD K) 0) 0 0 (kD K + 1)
def uTube (K : tK) (f o l w : Nat) : tK := ks (ks (ks (ks (ks (ks K 2 (kT K) f) 3 (kT K) o) 4 (kT K) l) 5 (kT K) w) 6 (kT K) 0) 0 1 (kT K + 1)
def uCap (K : tK) (k a w x : Nat) : tK := ks (ks (ks (ks (ks K 7 (kC K) k) 8 (kC K) a) 9 (kC K) w) 10 (kC K) x) 0 2 (kC K + 1)
def uShut (K : tK) (t v : Nat) : tK := ks K 6 t v
def uPres (K : tK) (v : Nat) : tK := ks K 0 3 v
def uMin (K : tK) (v : Int32) : tK := (K.1, v, K.2.2)
def uSeed (K : tK) (v : Int32) : tK := (K.1, K.2.1, v)
def uGo (K : tK) (c d : Nat) (w : Int) (sg : Bool) : tK := uMin (ks (ks K 10 c d) 1 d (if sg then min 999 (kS K d + 1) else kS K d)) (kM K + iI w)
theorem uDesk_inv {K : tK} (h : kInv K) (h2 : kD K < 8) : kInv (uDesk K) := by
  obtain ⟨a1, a2, a3, a4, a5, a6, a7⟩ := h
  unfold kInv uDesk
  simp only [kD, kT, kC, kP, kS, kF, kO, kL, kB, kH, kK, kA, kW, kX, kM, kZ] at *
  simp only [ks]
  refine ⟨by simp; omega, by simpa using a2, by simpa using a3, by simpa using a4, ?_, ?_, ?_⟩
  · intro d hd
    simp at hd ⊢
    by_cases e : d = K.1 0 0
    · simp [e]
    · simp [e]; exact a5 d (by omega)
  · intro t ht
    simp at ht ⊢
    have := a6 t ht
    omega
  · intro c hc
    simp at hc ⊢
    have := a7 c hc
    omega
theorem k_X4_addDesk {D : Nat} (hD : 2 ≤ D) {M : tM} {b : Nat} {K : tK} (hb : isMin b) (hR : Rep M b K) (hI : kInv K) (h : kD K < 8) : ∃ M', exF D m_X4_addDesk [.ref b] M = some (none, M') ∧ Rep M' b (uDesk K) ∧ Sm [b, b + 1] M M' := by
  obtain ⟨D, rfl⟩ : ∃ D0, D = D0 + 1 := ⟨D - 1, by omega⟩
  have hm : b = 0 ∨ b = 10 ∨ b = 20 := hb
  have g1 := hR.1.1
  refine ⟨sI (sI M (b + 1) (kD K) (iI 0)) b 0 (iI ((kD K : Int) + 1)), ?_, ?_, Sm_tr (Sm_sI (by simp)) (Sm_sI (by simp))⟩
  · simp (maxSteps := 4000000) (disch := omega) only [en_X4_addDesk, s_X4_addDesk_0, s_X4_addDesk_1, s_X4_addDesk_4, s_X4_addDesk_7, s_X4_addDesk_8, s_X4_addDesk_11, s_X4_addDesk_12, s_X4_addDesk_15, s_X4_addDesk_16, s_X4_addDesk_17, s_X4_addDesk_18, s_X4_addDesk_18b, s_X4_addDesk_19, s_X4_addDesk_22, s_X4_addDesk_23, s_X4_addDesk_24, s_X4_addDesk_27, k_X4_hasRoomForDesk (show _ ≤ D by omega) hb hR hI, bi_t h, mn_cls hb, mn_fv0 hb, mn_fv1 hb, mn_fv2 hb, mn_fv3 hb, mn_fv4 hb, mn_fv5 hb, mn_fv6 hb, mn_fv7 hb, mn_fv8 hb, mn_fv9 hb, mn_fv10 hb, mn_fv11 hb, mn_fv12 hb, mn_fv13 hb, mn_fv14 hb, mn_fv15 hb, mn_ak1 hb, mn_al1 hb, mn_ak2 hb, mn_al2 hb, mn_ak3 hb, mn_al3 hb, mn_ak4 hb, mn_al4 hb, mn_ak5 hb, mn_al5 hb, mn_ak6 hb, mn_al6 hb, mn_ak7 hb, mn_al7 hb, mn_ak8 hb, mn_al8 hb, mn_ak9 hb, mn_al9 hb, g1, sI_s, sI_k, sI_a, sI_2, rI_s, rI_a, rI_2, sJ_1, iI_add, iI_sub, iI_mul, iI_neg, iI_lt, iI_le, iI_eq, iI_toInt, tn_n, tn_1, inb_I, Int.reduceEq, Int.reduceLT, Int.reduceLE, Int.reduceAdd, Int.reduceSub, Int.reduceMul, Int.reduceNeg, Int.reduceToNat, Nat.reduceAdd, Nat.reduceMul, Int.reduceNatCast, reduceCtorEq, Int.cast_ofNat_Int, bi_tr, bi_fa, bi_0, bi_1, not_true_eq_false, not_false_eq_true, rnk_v, rnk_n, ↓reduceIte, i00, i11, ibi, or_true, true_or, and_true, true_and, List.cons_append, List.nil_append, Option.toList]
  · obtain ⟨⟨r1, r2, r3, r4, r5, r6, r7⟩, r8, r9, r10⟩ := hR
    unfold Rep
    simp (disch := omega) only [sI_s, sI_k, sI_a, sI_2, rI_s, rI_a, rI_2, sJ_1]
    refine ⟨⟨rfl, r2, r3, r4, r5, r6, r7⟩, ?_, r9, r10⟩
    intro d hd
    by_cases e : d = kD K
    · subst e
      rw [sI_s]; simp [uDesk, ks, kS, kD]
    · rw [sI_k _ _ e, r8 d (by simp [uDesk, ks, kD] at hd; simp [kD] at e ⊢; omega)]
      simp [uDesk, ks, kS, kD] at e ⊢
      simp [e]
/-- a sum -/
def sm (f : Nat → Nat) : Nat → Nat
  | 0 => 0
  | n + 1 => sm f n + f n
theorem sm_cong {f g : Nat → Nat} : ∀ {n : Nat}, (∀ i, i < n → f i = g i) → sm f n = sm g n
  | 0, _ => rfl
  | n + 1, h => by simp only [sm]; rw [sm_cong (fun i hi => h i (by omega)), h n (by omega)]
theorem ctn_sm {f : Nat → Nat} : ∀ {n : Nat}, (∀ i, i < n → f i ≤ 1) → ctn (fun t => f t == 1) n = sm f n
  | 0, _ => rfl
  | n + 1, h => by
    simp only [ctn, sm]
    rw [ctn_sm (fun i hi => h i (by omega))]
    have := h n (by omega)
    by_cases e : f n = 1
    · simp [e]
    · simp [e]; omega
theorem kInv_cong {K K' : tK} (h : kInv K) (e : K'.1 = K.1) : kInv K' := by
  unfold kInv at *
  simp only [kD, kT, kC, kP, kS, kF, kO, kL, kB, kH, kK, kA, kW, kX, kM, kZ] at *
  rw [e]
  exact h
theorem uTube_inv {K : tK} (h : kInv K) (h2 : kT K < 16) {f o l w : Nat} (hf : f < kD K) (ho : o < kD K) (hfo : f ≠ o) (hl : 1 ≤ l ∧ l ≤ 9) (hw : 1 ≤ w ∧ w ≤ 9) : kInv (uTube K f o l w) := by
  obtain ⟨a1, a2, a3, a4, a5, a6, a7⟩ := h
  unfold kInv uTube
  simp only [kD, kT, kC, kP, kS, kF, kO, kL, kB, kH, kK, kA, kW, kX, kM, kZ] at *
  simp only [ks]
  refine ⟨by simpa using a1, by simp; omega, by simpa using a3, by simpa using a4, by simpa using a5, ?_, by simpa using a7⟩
  intro t ht
  simp at ht ⊢
  by_cases e : t = K.1 0 1
  · simp [e]; omega
  · simp [e]
    have := a6 t (by omega)
    omega
theorem uCap_inv {K : tK} (h : kInv K) (h2 : kC K < 5) {k a w x : Nat} (hk : k ≤ 6) (ha : a ≤ 9) (hw : 1 ≤ w ∧ w ≤ 9) (hx : x < kD K) : kInv (uCap K k a w x) := by
  obtain ⟨a1, a2, a3, a4, a5, a6, a7⟩ := h
  unfold kInv uCap
  simp only [kD, kT, kC, kP, kS, kF, kO, kL, kB, kH, kK, kA, kW, kX, kM, kZ] at *
  simp only [ks]
  refine ⟨by simpa using a1, by simpa using a2, by simp; omega, by simpa using a4, by simpa using a5, by simpa using a6, ?_⟩
  intro t ht
  simp at ht ⊢
  by_cases e : t = K.1 0 2
  · simp [e]; omega
  · simp [e]
    have := a7 t (by omega)
    omega
theorem uShut_inv {K : tK} (h : kInv K) {t v : Nat} (hv : v ≤ 1) : kInv (uShut K t v) := by
  obtain ⟨a1, a2, a3, a4, a5, a6, a7⟩ := h
  unfold kInv uShut
  simp only [kD, kT, kC, kP, kS, kF, kO, kL, kB, kH, kK, kA, kW, kX, kM, kZ] at *
  simp only [ks]
  refine ⟨by simpa using a1, by simpa using a2, by simpa using a3, by simpa using a4, by simpa using a5, ?_, by simpa using a7⟩
  intro u hu
  simp at hu ⊢
  have := a6 u (by omega)
  by_cases e : u = t
  · simp [e] at *; omega
  · simp [e]; omega
theorem uPres_inv {K : tK} (h : kInv K) {v : Nat} (hv : 1 ≤ v ∧ v ≤ 9) : kInv (uPres K v) := by
  obtain ⟨a1, a2, a3, a4, a5, a6, a7⟩ := h
  unfold kInv uPres
  simp only [kD, kT, kC, kP, kS, kF, kO, kL, kB, kH, kK, kA, kW, kX, kM, kZ] at *
  simp only [ks]
  exact ⟨by simpa using a1, by simpa using a2, by simpa using a3, by simpa using hv, by simpa using a5, by simpa using a6, by simpa using a7⟩
theorem uGo_inv {K : tK} (h : kInv K) {c d : Nat} {w : Int} {sg : Bool} (hd : d < kD K) : kInv (uGo K c d w sg) := by
  refine kInv_cong (K := ks (ks K 10 c d) 1 d (if sg then min 999 (kS K d + 1) else kS K d)) ?_ rfl
  obtain ⟨a1, a2, a3, a4, a5, a6, a7⟩ := h
  unfold kInv
  simp only [kD, kT, kC, kP, kS, kF, kO, kL, kB, kH, kK, kA, kW, kX, kM, kZ] at *
  simp only [ks]
  refine ⟨by simpa using a1, by simpa using a2, by simpa using a3, by simpa using a4, ?_, by simpa using a6, ?_⟩
  · intro u hu
    simp at hu ⊢
    have := a5 u (by omega)
    have := a5 d (by omega)
    split <;> (try split) <;> omega
  · intro u hu
    simp at hu ⊢
    have := a7 u (by omega)
    by_cases e : u = c
    · simp [e] at *; omega
    · simp [e]; omega
theorem uMin_inv {K : tK} (h : kInv K) (v : Int32) : kInv (uMin K v) := kInv_cong h rfl
theorem uSeed_inv {K : tK} (h : kInv K) (v : Int32) : kInv (uSeed K v) := kInv_cong h rfl
theorem shb_bit {K : tK} {t : Nat} (h : t < kT K) : (shb K).testBit t = (kH K t == 1) := by
  unfold shb; rw [bts_bit]; simp [h]
theorem shb_lt {K : tK} (h : kInv K) : shb K < 65536 := by
  have := bts_lt (fun t => kH K t == 1) (kT K)
  have h2 : 2 ^ kT K ≤ 2 ^ 16 := Nat.pow_le_pow_right (by omega) h.2.1
  unfold shb
  omega
theorem k_X4_isShut {D : Nat} (hD : 2 ≤ D) {M : tM} {b : Nat} {K : tK} (hb : isMin b) (hR : Rep M b K) (hI : kInv K) {t : Nat} (ht : t < kT K) : exF D m_X4_isShut [.ref b, .int (iI t)] M = some (some (.int (bi (kH K t = 1))), M) := by
  obtain ⟨D, rfl⟩ : ∃ D0, D = D0 + 1 := ⟨D - 1, by omega⟩
  have g1 := kI_n hI
  have g2 := hR.1.2.2.2.2.2.2
  have g3 := shb_lt hI
  simp (maxSteps := 4000000) (disch := omega) only [en_X4_isShut, s_X4_isShut_0, s_X4_isShut_1, s_X4_isShut_2, s_X4_isShut_5, s_X4_isShut_8, s_X4_isShut_9, s_X4_isShut_12, s_X4_isShut_13, s_X4_isShut_14, s_X4_isShut_15, s_X4_isShut_16, s_X4_isShut_19, s_X4_isShut_20, s_X4_isShut_23, s_X4_isShut_24, k_X4_hasTube (show _ ≤ D by omega) hb hR hI, bi_t (show (0 ≤ (t : Int) ∧ (t : Int) < (kT K : Int)) by omega), g2, iI_shl1 (show t < 31 by omega), bit_get1 (show shb K < 2147483648 by omega) (show t < 31 by omega), shb_bit ht, mn_cls hb, mn_fv0 hb, mn_fv1 hb, mn_fv2 hb, mn_fv3 hb, mn_fv4 hb, mn_fv5 hb, mn_fv6 hb, mn_fv7 hb, mn_fv8 hb, mn_fv9 hb, mn_fv10 hb, mn_fv11 hb, mn_fv12 hb, mn_fv13 hb, mn_fv14 hb, mn_fv15 hb, mn_ak1 hb, mn_al1 hb, mn_ak2 hb, mn_al2 hb, mn_ak3 hb, mn_al3 hb, mn_ak4 hb, mn_al4 hb, mn_ak5 hb, mn_al5 hb, mn_ak6 hb, mn_al6 hb, mn_ak7 hb, mn_al7 hb, mn_ak8 hb, mn_al8 hb, mn_ak9 hb, mn_al9 hb, iI_add, iI_sub, iI_mul, iI_neg, iI_lt, iI_le, iI_eq, iI_toInt, tn_n, tn_1, inb_I, Int.reduceEq, Int.reduceLT, Int.reduceLE, Int.reduceAdd, Int.reduceSub, Int.reduceMul, Int.reduceNeg, Int.reduceToNat, Nat.reduceAdd, Nat.reduceMul, Int.reduceNatCast, reduceCtorEq, Int.cast_ofNat_Int, bi_tr, bi_fa, bi_0, bi_1, not_true_eq_false, not_false_eq_true, rnk_v, rnk_n, ↓reduceIte, i00, i11, ibi, or_true, true_or, and_true, true_and, List.cons_append, List.nil_append, Option.toList]
  unfold bi
  by_cases e : kH K t = 1 <;> simp [e]
theorem k_X4_putShut {D : Nat} (hD : 2 ≤ D) {M : tM} {b : Nat} {K : tK} (hb : isMin b) (hR : Rep M b K) (hI : kInv K) {t : Nat} (ht : t < kT K) (q : Prop) [Decidable q] : ∃ M', exF D m_X4_putShut [.ref b, .int (iI t), .int (bi q)] M = some (none, M') ∧ Rep M' b (uShut K t (if q then 1 else 0)) ∧ Sm [b] M M' := by
  obtain ⟨D, rfl⟩ : ∃ D0, D = D0 + 1 := ⟨D - 1, by omega⟩
  have g1 := kI_n hI
  have g2 := hR.1.2.2.2.2.2.2
  have g3 := shb_lt hI
  have hn : ∀ v, shb (uShut K t v) = bts (fun i => if i = t then v == 1 else kH K i == 1) (kT K) := by
    intro v
    show bts _ (kT K) = _
    apply bts_cong
    intro i _
    by_cases e : i = t <;> simp [uShut, ks, kH, e]
  have key : ∀ v : Nat, Rep (sI M b 7 (iI (shb (uShut K t v)))) b (uShut K t v) := by
    intro v
    have hm : b = 0 ∨ b = 10 ∨ b = 20 := hb
    obtain ⟨⟨r1, r2, r3, r4, r5, r6, r7⟩, r8, r9, r10⟩ := hR
    unfold Rep
    simp (disch := omega) only [sI_s, sI_k, sI_a, sI_2, rI_s, rI_a, rI_2, sJ_1]
    exact ⟨⟨r1, r2, r3, r4, r5, r6, trivial⟩, r8, r9, r10⟩
  refine ⟨_, ?_, key _, Sm_sI (by simp)⟩
  by_cases hq : q
  · simp (maxSteps := 4000000) (disch := omega) only [en_X4_putShut, s_X4_putShut_0, s_X4_putShut_1, s_X4_putShut_2, s_X4_putShut_5, s_X4_putShut_8, s_X4_putShut_9, s_X4_putShut_10, s_X4_putShut_13, s_X4_putShut_14, s_X4_putShut_17, s_X4_putShut_18, s_X4_putShut_19, s_X4_putShut_20, s_X4_putShut_21, s_X4_putShut_24, s_X4_putShut_25, s_X4_putShut_28, s_X4_putShut_29, s_X4_putShut_30, s_X4_putShut_31, s_X4_putShut_32, s_X4_putShut_33, s_X4_putShut_34, s_X4_putShut_37, k_X4_hasTube (show _ ≤ D by omega) hb hR hI, bi_t (show (0 ≤ (t : Int) ∧ (t : Int) < (kT K : Int)) by omega), bi_t hq, if_pos hq, g2, iI_shl1 (show t < 31 by omega), iI_or, hn, mn_cls hb, mn_fv0 hb, mn_fv1 hb, mn_fv2 hb, mn_fv3 hb, mn_fv4 hb, mn_fv5 hb, mn_fv6 hb, mn_fv7 hb, mn_fv8 hb, mn_fv9 hb, mn_fv10 hb, mn_fv11 hb, mn_fv12 hb, mn_fv13 hb, mn_fv14 hb, mn_fv15 hb, mn_ak1 hb, mn_al1 hb, mn_ak2 hb, mn_al2 hb, mn_ak3 hb, mn_al3 hb, mn_ak4 hb, mn_al4 hb, mn_ak5 hb, mn_al5 hb, mn_ak6 hb, mn_al6 hb, mn_ak7 hb, mn_al7 hb, mn_ak8 hb, mn_al8 hb, mn_ak9 hb, mn_al9 hb, iI_add, iI_sub, iI_mul, iI_neg, iI_lt, iI_le, iI_eq, iI_toInt, tn_n, tn_1, inb_I, Int.reduceEq, Int.reduceLT, Int.reduceLE, Int.reduceAdd, Int.reduceSub, Int.reduceMul, Int.reduceNeg, Int.reduceToNat, Nat.reduceAdd, Nat.reduceMul, Int.reduceNatCast, reduceCtorEq, Int.cast_ofNat_Int, bi_tr, bi_fa, bi_0, bi_1, not_true_eq_false, not_false_eq_true, rnk_v, rnk_n, ↓reduceIte, i00, i11, ibi, or_true, true_or, and_true, true_and, List.cons_append, List.nil_append, Option.toList]
    unfold shb
    rw [bts_set ht]
    rfl
  · simp (maxSteps := 4000000) (disch := omega) only [en_X4_putShut, s_X4_putShut_0, s_X4_putShut_1, s_X4_putShut_2, s_X4_putShut_5, s_X4_putShut_8, s_X4_putShut_9, s_X4_putShut_10, s_X4_putShut_13, s_X4_putShut_14, s_X4_putShut_17, s_X4_putShut_18, s_X4_putShut_19, s_X4_putShut_20, s_X4_putShut_21, s_X4_putShut_24, s_X4_putShut_25, s_X4_putShut_28, s_X4_putShut_29, s_X4_putShut_30, s_X4_putShut_31, s_X4_putShut_32, s_X4_putShut_33, s_X4_putShut_34, s_X4_putShut_37, k_X4_hasTube (show _ ≤ D by omega) hb hR hI, bi_t (show (0 ≤ (t : Int) ∧ (t : Int) < (kT K : Int)) by omega), bi_f hq, if_neg hq, g2, iI_shl1 (show t < 31 by omega), hn, mn_cls hb, mn_fv0 hb, mn_fv1 hb, mn_fv2 hb, mn_fv3 hb, mn_fv4 hb, mn_fv5 hb, mn_fv6 hb, mn_fv7 hb, mn_fv8 hb, mn_fv9 hb, mn_fv10 hb, mn_fv11 hb, mn_fv12 hb, mn_fv13 hb, mn_fv14 hb, mn_fv15 hb, mn_ak1 hb, mn_al1 hb, mn_ak2 hb, mn_al2 hb, mn_ak3 hb, mn_al3 hb, mn_ak4 hb, mn_al4 hb, mn_ak5 hb, mn_al5 hb, mn_ak6 hb, mn_al6 hb, mn_ak7 hb, mn_al7 hb, mn_ak8 hb, mn_al8 hb, mn_ak9 hb, mn_al9 hb, iI_add, iI_sub, iI_mul, iI_neg, iI_lt, iI_le, iI_eq, iI_toInt, tn_n, tn_1, inb_I, Int.reduceEq, Int.reduceLT, Int.reduceLE, Int.reduceAdd, Int.reduceSub, Int.reduceMul, Int.reduceNeg, Int.reduceToNat, Nat.reduceAdd, Nat.reduceMul, Int.reduceNatCast, reduceCtorEq, Int.cast_ofNat_Int, bi_tr, bi_fa, bi_0, bi_1, not_true_eq_false, not_false_eq_true, rnk_v, rnk_n, ↓reduceIte, i00, i11, ibi, or_true, true_or, and_true, true_and, List.cons_append, List.nil_append, Option.toList]
    unfold shb
    rw [bts_clr (by omega) (by omega)]
    rfl
theorem ks_id {K : tK} {f i v : Nat} (h : K.1 f i = v) : ks K f i v = K := by
  refine Prod.ext ?_ rfl
  funext x y
  show (if x = f ∧ y = i then v else K.1 x y) = K.1 x y
  split
  · rename_i e; rw [e.1, e.2, h]
  · rfl
theorem k_X4_addTube {D : Nat} (hD : 3 ≤ D) {M : tM} {b : Nat} {K : tK} (hb : isMin b) (hR : Rep M b K) (hI : kInv K) (h : kT K < 16) {f o l w : Nat} (hf : f < kD K) (ho : o < kD K) (hfo : f ≠ o) (hl : 1 ≤ l ∧ l ≤ 9) (hw : 1 ≤ w ∧ w ≤ 9) : ∃ M', exF D m_X4_addTube [.ref b, .int (iI f), .int (iI o), .int (iI l), .int (iI w)] M = some (none, M') ∧ Rep M' b (uTube K f o l w) ∧ Sm [b, b + 2, b + 3, b + 4, b + 5] M M' := by
  obtain ⟨D, rfl⟩ : ∃ D0, D = D0 + 1 := ⟨D - 1, by omega⟩
  have hm : b = 0 ∨ b = 10 ∨ b = 20 := hb
  have g1 := hR.1.2.1
  have hI' := uTube_inv hI h hf ho hfo hl hw
  have hR' : Rep (sI (sI (sI (sI (sI M (b + 2) (kT K) (iI f)) (b + 3) (kT K) (iI o)) (b + 4) (kT K) (iI l)) (b + 5) (kT K) (iI w)) b 2 (iI ((kT K : Int) + 1))) b (uTube K f o l w) := by
    obtain ⟨⟨r1, r2, r3, r4, r5, r6, r7⟩, r8, r9, r10⟩ := hR
    unfold Rep
    simp (disch := omega) only [sI_s, sI_k, sI_a, sI_2, rI_s, rI_a, rI_2, sJ_1]
    refine ⟨⟨r1, rfl, r3, r4, r5, r6, ?_⟩, r8, ?_, r10⟩
    · rw [r7]
      show _ = iI (bts _ (kT K + 1) : Int)
      rw [← bts_skip (by simp [uTube, ks, kH])]
      show iI (bts _ _ : Int) = _
      congr 2
      apply bts_cong
      intro i hi
      simp [uTube, ks, kH, show i ≠ kT K by omega]
    · intro t ht
      by_cases e : t = kT K
      · subst e
        simp only [sI_s]
        simp [uTube, ks, kF, kO, kL, kB, kT]
      · have ht' : t < kT K := by simp [uTube, ks, kT] at ht; simp [kT] at e ⊢; omega
        obtain ⟨e1, e2, e3, e4⟩ := r9 t ht'
        simp (disch := omega) only [sI_s, sI_k, sI_a, sI_2, rI_s, rI_a, rI_2, sJ_1, e1, e2, e3, e4]
        simp [uTube, ks, kF, kO, kL, kB, kT] at e ⊢
        simp [e]
  obtain ⟨M', h1, h2, h3⟩ := k_X4_putShut (show _ ≤ D by omega) hb hR' hI' (t := kT K) (by simp [uTube, ks, kT]) False
  rw [bi_f (fun q => q)] at h1
  refine ⟨M', ?_, ?_, Sm_tr (Sm_tr (Sm_tr (Sm_tr (Sm_tr (Sm_sI ?_) (Sm_sI ?_)) (Sm_sI ?_)) (Sm_sI ?_)) (Sm_sI ?_)) (Sm_mono ?_ h3)⟩
  · simp (maxSteps := 4000000) (disch := omega) only [en_X4_addTube, s_X4_addTube_0, s_X4_addTube_1, s_X4_addTube_4, s_X4_addTube_7, s_X4_addTube_8, s_X4_addTube_11, s_X4_addTube_12, s_X4_addTube_15, s_X4_addTube_16, s_X4_addTube_17, s_X4_addTube_18, s_X4_addTube_21, s_X4_addTube_22, s_X4_addTube_25, s_X4_addTube_26, s_X4_addTube_27, s_X4_addTube_28, s_X4_addTube_31, s_X4_addTube_32, s_X4_addTube_35, s_X4_addTube_36, s_X4_addTube_37, s_X4_addTube_38, s_X4_addTube_41, s_X4_addTube_42, s_X4_addTube_45, s_X4_addTube_47, s_X4_addTube_48, s_X4_addTube_49, s_X4_addTube_49b, s_X4_addTube_50, s_X4_addTube_53, s_X4_addTube_54, s_X4_addTube_55, s_X4_addTube_58, s_X4_addTube_59, s_X4_addTube_60, s_X4_addTube_63, s_X4_addTube_64, s_X4_addTube_65, s_X4_addTube_66, s_X4_addTube_69, k_X4_hasRoomForTube (show _ ≤ D by omega) hb hR hI, bi_t h, mn_cls hb, mn_fv0 hb, mn_fv1 hb, mn_fv2 hb, mn_fv3 hb, mn_fv4 hb, mn_fv5 hb, mn_fv6 hb, mn_fv7 hb, mn_fv8 hb, mn_fv9 hb, mn_fv10 hb, mn_fv11 hb, mn_fv12 hb, mn_fv13 hb, mn_fv14 hb, mn_fv15 hb, mn_ak1 hb, mn_al1 hb, mn_ak2 hb, mn_al2 hb, mn_ak3 hb, mn_al3 hb, mn_ak4 hb, mn_al4 hb, mn_ak5 hb, mn_al5 hb, mn_ak6 hb, mn_al6 hb, mn_ak7 hb, mn_al7 hb, mn_ak8 hb, mn_al8 hb, mn_ak9 hb, mn_al9 hb, g1, sI_s, sI_k, sI_a, sI_2, rI_s, rI_a, rI_2, sJ_1, iI_add, iI_sub, iI_mul, iI_neg, iI_lt, iI_le, iI_eq, iI_toInt, tn_n, tn_1, inb_I, Int.reduceEq, Int.reduceLT, Int.reduceLE, Int.reduceAdd, Int.reduceSub, Int.reduceMul, Int.reduceNeg, Int.reduceToNat, Nat.reduceAdd, Nat.reduceMul, Int.reduceNatCast, reduceCtorEq, Int.cast_ofNat_Int, bi_tr, bi_fa, bi_0, bi_1, not_true_eq_false, not_false_eq_true, rnk_v, rnk_n, ↓reduceIte, i00, i11, ibi, or_true, true_or, and_true, true_and, List.cons_append, List.nil_append, Option.toList]
    rw [show (kT K : Int) + 1 - 1 = kT K by omega, h1]
    simp (maxSteps := 4000000) (disch := omega) only [s_X4_addTube_0, s_X4_addTube_1, s_X4_addTube_4, s_X4_addTube_7, s_X4_addTube_8, s_X4_addTube_11, s_X4_addTube_12, s_X4_addTube_15, s_X4_addTube_16, s_X4_addTube_17, s_X4_addTube_18, s_X4_addTube_21, s_X4_addTube_22, s_X4_addTube_25, s_X4_addTube_26, s_X4_addTube_27, s_X4_addTube_28, s_X4_addTube_31, s_X4_addTube_32, s_X4_addTube_35, s_X4_addTube_36, s_X4_addTube_37, s_X4_addTube_38, s_X4_addTube_41, s_X4_addTube_42, s_X4_addTube_45, s_X4_addTube_47, s_X4_addTube_48, s_X4_addTube_49, s_X4_addTube_49b, s_X4_addTube_50, s_X4_addTube_53, s_X4_addTube_54, s_X4_addTube_55, s_X4_addTube_58, s_X4_addTube_59, s_X4_addTube_60, s_X4_addTube_63, s_X4_addTube_64, s_X4_addTube_65, s_X4_addTube_66, s_X4_addTube_69, Int.reduceEq, Int.reduceLT, Int.reduceLE, Int.reduceAdd, Int.reduceSub, Int.reduceMul, Int.reduceNeg, Int.reduceToNat, Nat.reduceAdd, Nat.reduceMul, Int.reduceNatCast, reduceCtorEq, Int.cast_ofNat_Int, bi_tr, bi_fa, bi_0, bi_1, not_true_eq_false, not_false_eq_true, rnk_v, rnk_n, ↓reduceIte, i00, i11, ibi, or_true, true_or, and_true, true_and, List.cons_append, List.nil_append, Option.toList]
  · rw [if_neg (fun q => q), show uShut (uTube K f o l w) (kT K) 0 = uTube K f o l w from ks_id (by simp [uTube, ks])] at h2
    exact h2
  all_goals simp
theorem k_X4_addCapsule {D : Nat} (hD : 2 ≤ D) {M : tM} {b : Nat} {K : tK} (hb : isMin b) (hR : Rep M b K) (hI : kInv K) (h : kC K < 5) {k a w x : Nat} : ∃ M', exF D m_X4_addCapsule [.ref b, .int (iI k), .int (iI a), .int (iI w), .int (iI x)] M = some (none, M') ∧ Rep M' b (uCap K k a w x) ∧ Sm [b, b + 6, b + 7, b + 8, b + 9] M M' := by
  obtain ⟨D, rfl⟩ : ∃ D0, D = D0 + 1 := ⟨D - 1, by omega⟩
  have hm : b = 0 ∨ b = 10 ∨ b = 20 := hb
  have g1 := hR.1.2.2.1
  refine ⟨sI (sI (sI (sI (sI M (b + 6) (kC K) (iI k)) (b + 7) (kC K) (iI a)) (b + 8) (kC K) (iI w)) (b + 9) (kC K) (iI x)) b 8 (iI ((kC K : Int) + 1)), ?_, ?_, Sm_tr (Sm_tr (Sm_tr (Sm_tr (Sm_sI ?_) (Sm_sI ?_)) (Sm_sI ?_)) (Sm_sI ?_)) (Sm_sI ?_)⟩
  · simp (maxSteps := 4000000) (disch := omega) only [en_X4_addCapsule, s_X4_addCapsule_0, s_X4_addCapsule_1, s_X4_addCapsule_4, s_X4_addCapsule_7, s_X4_addCapsule_8, s_X4_addCapsule_11, s_X4_addCapsule_12, s_X4_addCapsule_15, s_X4_addCapsule_16, s_X4_addCapsule_17, s_X4_addCapsule_18, s_X4_addCapsule_21, s_X4_addCapsule_22, s_X4_addCapsule_25, s_X4_addCapsule_26, s_X4_addCapsule_27, s_X4_addCapsule_28, s_X4_addCapsule_31, s_X4_addCapsule_32, s_X4_addCapsule_35, s_X4_addCapsule_36, s_X4_addCapsule_37, s_X4_addCapsule_38, s_X4_addCapsule_41, s_X4_addCapsule_42, s_X4_addCapsule_45, s_X4_addCapsule_47, s_X4_addCapsule_48, s_X4_addCapsule_49, s_X4_addCapsule_49b, s_X4_addCapsule_50, s_X4_addCapsule_53, s_X4_addCapsule_54, s_X4_addCapsule_55, s_X4_addCapsule_58, k_X4_hasRoomForCapsule (show _ ≤ D by omega) hb hR hI, bi_t h, mn_cls hb, mn_fv0 hb, mn_fv1 hb, mn_fv2 hb, mn_fv3 hb, mn_fv4 hb, mn_fv5 hb, mn_fv6 hb, mn_fv7 hb, mn_fv8 hb, mn_fv9 hb, mn_fv10 hb, mn_fv11 hb, mn_fv12 hb, mn_fv13 hb, mn_fv14 hb, mn_fv15 hb, mn_ak1 hb, mn_al1 hb, mn_ak2 hb, mn_al2 hb, mn_ak3 hb, mn_al3 hb, mn_ak4 hb, mn_al4 hb, mn_ak5 hb, mn_al5 hb, mn_ak6 hb, mn_al6 hb, mn_ak7 hb, mn_al7 hb, mn_ak8 hb, mn_al8 hb, mn_ak9 hb, mn_al9 hb, g1, sI_s, sI_k, sI_a, sI_2, rI_s, rI_a, rI_2, sJ_1, iI_add, iI_sub, iI_mul, iI_neg, iI_lt, iI_le, iI_eq, iI_toInt, tn_n, tn_1, inb_I, Int.reduceEq, Int.reduceLT, Int.reduceLE, Int.reduceAdd, Int.reduceSub, Int.reduceMul, Int.reduceNeg, Int.reduceToNat, Nat.reduceAdd, Nat.reduceMul, Int.reduceNatCast, reduceCtorEq, Int.cast_ofNat_Int, bi_tr, bi_fa, bi_0, bi_1, not_true_eq_false, not_false_eq_true, rnk_v, rnk_n, ↓reduceIte, i00, i11, ibi, or_true, true_or, and_true, true_and, List.cons_append, List.nil_append, Option.toList]
  · obtain ⟨⟨r1, r2, r3, r4, r5, r6, r7⟩, r8, r9, r10⟩ := hR
    unfold Rep
    simp (disch := omega) only [sI_s, sI_k, sI_a, sI_2, rI_s, rI_a, rI_2, sJ_1]
    refine ⟨⟨r1, r2, rfl, r4, r5, r6, r7⟩, r8, r9, ?_⟩
    intro t ht
    by_cases e : t = kC K
    · subst e
      simp only [sI_s]
      simp [uCap, ks, kK, kA, kW, kX, kC]
    · have ht' : t < kC K := by simp [uCap, ks, kC] at ht; simp [kC] at e ⊢; omega
      obtain ⟨e1, e2, e3, e4⟩ := r10 t ht'
      simp (disch := omega) only [sI_s, sI_k, sI_a, sI_2, rI_s, rI_a, rI_2, sJ_1, e1, e2, e3, e4]
      simp [uCap, ks, kK, kA, kW, kX, kC] at e ⊢
      simp [e]
  all_goals simp
theorem cpy_all {α : Type} (f g : Nat → α) (n : Nat) {k : Nat} (h : k < n) : cpy f g 0 0 n k = f k := by
  unfold cpy; rw [if_pos (by omega)]; congr 1; omega
theorem k_X4_takeOver {D : Nat} (hD : 1 ≤ D) {M : tM} {b c : Nat} {K : tK} (hb : isMin b) (hc : isMin c) (hbc : b ≠ c) (hR : Rep M c K) (hI : kInv K) : ∃ M', exF D m_X4_takeOver [.ref b, .ref c] M = some (none, M') ∧ Rep M' b K ∧ Sm [b, b + 1, b + 2, b + 3, b + 4, b + 5, b + 6, b + 7, b + 8, b + 9] M M' := by
  obtain ⟨D, rfl⟩ : ∃ D0, D = D0 + 1 := ⟨D - 1, by omega⟩
  have hm : b = 0 ∨ b = 10 ∨ b = 20 := hb
  have hm2 : c = 0 ∨ c = 10 ∨ c = 20 := hc
  have hn := kI_n hI
  obtain ⟨⟨r1, r2, r3, r4, r5, r6, r7⟩, r8, r9, r10⟩ := hR
  refine ⟨?_, ?_, ?_, ?_⟩
  rotate_left
  · simp (maxSteps := 4000000) (disch := omega) only [en_X4_takeOver, s_X4_takeOver_0, s_X4_takeOver_1, s_X4_takeOver_2, s_X4_takeOver_5, s_X4_takeOver_8, s_X4_takeOver_9, s_X4_takeOver_10, s_X4_takeOver_13, s_X4_takeOver_16, s_X4_takeOver_17, s_X4_takeOver_18, s_X4_takeOver_21, s_X4_takeOver_24, s_X4_takeOver_25, s_X4_takeOver_26, s_X4_takeOver_29, s_X4_takeOver_32, s_X4_takeOver_33, s_X4_takeOver_34, s_X4_takeOver_37, s_X4_takeOver_40, s_X4_takeOver_41, s_X4_takeOver_42, s_X4_takeOver_45, s_X4_takeOver_48, s_X4_takeOver_49, s_X4_takeOver_50, s_X4_takeOver_53, s_X4_takeOver_56, s_X4_takeOver_57, s_X4_takeOver_60, s_X4_takeOver_61, s_X4_takeOver_62, s_X4_takeOver_65, s_X4_takeOver_66, s_X4_takeOver_68, s_X4_takeOver_71, s_X4_takeOver_72, s_X4_takeOver_75, s_X4_takeOver_76, s_X4_takeOver_77, s_X4_takeOver_80, s_X4_takeOver_81, s_X4_takeOver_83, s_X4_takeOver_86, s_X4_takeOver_87, s_X4_takeOver_90, s_X4_takeOver_91, s_X4_takeOver_92, s_X4_takeOver_95, s_X4_takeOver_96, s_X4_takeOver_98, s_X4_takeOver_101, s_X4_takeOver_102, s_X4_takeOver_105, s_X4_takeOver_106, s_X4_takeOver_107, s_X4_takeOver_110, s_X4_takeOver_111, s_X4_takeOver_113, s_X4_takeOver_116, s_X4_takeOver_117, s_X4_takeOver_120, s_X4_takeOver_121, s_X4_takeOver_122, s_X4_takeOver_125, s_X4_takeOver_126, s_X4_takeOver_128, s_X4_takeOver_131, s_X4_takeOver_132, s_X4_takeOver_135, s_X4_takeOver_136, s_X4_takeOver_137, s_X4_takeOver_140, s_X4_takeOver_141, s_X4_takeOver_142, s_X4_takeOver_145, s_X4_takeOver_146, s_X4_takeOver_149, s_X4_takeOver_150, s_X4_takeOver_151, s_X4_takeOver_154, s_X4_takeOver_155, s_X4_takeOver_156, s_X4_takeOver_159, s_X4_takeOver_160, s_X4_takeOver_163, s_X4_takeOver_164, s_X4_takeOver_165, s_X4_takeOver_168, s_X4_takeOver_169, s_X4_takeOver_170, s_X4_takeOver_173, s_X4_takeOver_174, s_X4_takeOver_177, s_X4_takeOver_178, s_X4_takeOver_179, s_X4_takeOver_182, s_X4_takeOver_183, s_X4_takeOver_184, s_X4_takeOver_187, mn_cls hb, mn_fv0 hb, mn_fv1 hb, mn_fv2 hb, mn_fv3 hb, mn_fv4 hb, mn_fv5 hb, mn_fv6 hb, mn_fv7 hb, mn_fv8 hb, mn_fv9 hb, mn_fv10 hb, mn_fv11 hb, mn_fv12 hb, mn_fv13 hb, mn_fv14 hb, mn_fv15 hb, mn_ak1 hb, mn_al1 hb, mn_ak2 hb, mn_al2 hb, mn_ak3 hb, mn_al3 hb, mn_ak4 hb, mn_al4 hb, mn_ak5 hb, mn_al5 hb, mn_ak6 hb, mn_al6 hb, mn_ak7 hb, mn_al7 hb, mn_ak8 hb, mn_al8 hb, mn_ak9 hb, mn_al9 hb, mn_cls hc, mn_fv0 hc, mn_fv1 hc, mn_fv2 hc, mn_fv3 hc, mn_fv4 hc, mn_fv5 hc, mn_fv6 hc, mn_fv7 hc, mn_fv8 hc, mn_fv9 hc, mn_fv10 hc, mn_fv11 hc, mn_fv12 hc, mn_fv13 hc, mn_fv14 hc, mn_fv15 hc, mn_ak1 hc, mn_al1 hc, mn_ak2 hc, mn_al2 hc, mn_ak3 hc, mn_al3 hc, mn_ak4 hc, mn_al4 hc, mn_ak5 hc, mn_al5 hc, mn_ak6 hc, mn_al6 hc, mn_ak7 hc, mn_al7 hc, mn_ak8 hc, mn_al8 hc, mn_ak9 hc, mn_al9 hc, r1, r2, r3, r4, r5, r6, r7, sI_s, sI_k, sI_a, sI_2, rI_s, rI_a, rI_2, sJ_1, iI_add, iI_sub, iI_mul, iI_neg, iI_lt, iI_le, iI_eq, iI_toInt, tn_n, tn_1, inb_I, Int.reduceEq, Int.reduceLT, Int.reduceLE, Int.reduceAdd, Int.reduceSub, Int.reduceMul, Int.reduceNeg, Int.reduceToNat, Nat.reduceAdd, Nat.reduceMul, Int.reduceNatCast, reduceCtorEq, Int.cast_ofNat_Int, bi_tr, bi_fa, bi_0, bi_1, not_true_eq_false, not_false_eq_true, rnk_v, rnk_n, ↓reduceIte, i00, i11, ibi, or_true, true_or, and_true, true_and, List.cons_append, List.nil_append, Option.toList]
    rfl
  · unfold Rep
    simp (disch := omega) only [sI_s, sI_k, sI_a, sI_2, rI_s, rI_a, rI_2, sJ_1]
    refine ⟨by simp, ?_, ?_, ?_⟩
    · intro d hd
      rw [cpy_all _ _ _ (by omega)]
      exact r8 d hd
    · intro t ht
      rw [cpy_all _ _ _ (by omega), cpy_all _ _ _ (by omega), cpy_all _ _ _ (by omega), cpy_all _ _ _ (by omega)]
      exact r9 t ht
    · intro t ht
      rw [cpy_all _ _ _ (by omega), cpy_all _ _ _ (by omega), cpy_all _ _ _ (by omega), cpy_all _ _ _ (by omega)]
      exact r10 t ht
  · repeat' (first | exact Sm_rf _ _ | refine Sm_tr ?_ (Sm_rI (by simp)) | refine Sm_tr ?_ (Sm_sI (by simp)))
theorem mayK_iff (K : tK) (c t : Nat) (back : Bool) : mayK K c t back = true ↔ (kK K c = 5 ∨ (kH K t = 0 ∧ kW K c ≤ kB K t) ∧ ¬ (back = true ∧ kK K c = 4)) := by
  unfold mayK
  simp
  cases back <;> simp
theorem k_X4_mayGo {D : Nat} (hD : 2 ≤ D) {M : tM} {b : Nat} {K : tK} (hb : isMin b) (hR : Rep M b K) (hI : kInv K) {c t : Nat} (hc : c < kC K) (ht : t < kT K) (z : Int) (back : Bool) (hz : z = if back then 0 else 1) : exF D m_X4_mayGo [.ref b, .int (iI c), .int (iI t), .int (iI z)] M = some (some (.int (bi (mayK K c t back = true))), M) := by
  obtain ⟨D, rfl⟩ : ∃ D0, D = D0 + 1 := ⟨D - 1, by omega⟩
  have g1 := kI_n hI
  have g2 := kI_t hI ht
  have g3 := kI_c hI hc
  obtain ⟨e1, e2, e3, e4⟩ := hR.2.2.2 c hc
  obtain ⟨f1, f2, f3, f4⟩ := hR.2.2.1 t ht
  have g4 := hR.1.2.2.2.2.2.2
  have g5 := shb_lt hI
  have z1 : (0 ≤ (c : Int) ∧ (c : Int) < (kC K : Int)) := by omega
  have z2 : (0 ≤ (t : Int) ∧ (t : Int) < (kT K : Int)) := by omega
  have hz2 : -2147483648 ≤ z ∧ z ≤ 2147483647 := by cases back <;> simp at hz <;> omega
  have hz3 : z = 0 ↔ back = true := by cases back <;> simp at hz <;> simp [hz]
  simp (maxSteps := 4000000) (disch := omega) only [en_X4_mayGo, s_X4_mayGo_0, s_X4_mayGo_1, s_X4_mayGo_2, s_X4_mayGo_5, s_X4_mayGo_8, s_X4_mayGo_9, s_X4_mayGo_10, s_X4_mayGo_13, s_X4_mayGo_16, s_X4_mayGo_17, s_X4_mayGo_18, s_X4_mayGo_19, s_X4_mayGo_22, s_X4_mayGo_23, s_X4_mayGo_24, s_X4_mayGo_25, s_X4_mayGo_28, s_X4_mayGo_29, s_X4_mayGo_30, s_X4_mayGo_31, s_X4_mayGo_34, s_X4_mayGo_35, s_X4_mayGo_36, s_X4_mayGo_37, s_X4_mayGo_38, s_X4_mayGo_41, s_X4_mayGo_42, s_X4_mayGo_45, s_X4_mayGo_46, s_X4_mayGo_47, s_X4_mayGo_48, s_X4_mayGo_51, s_X4_mayGo_52, s_X4_mayGo_53, s_X4_mayGo_56, s_X4_mayGo_57, s_X4_mayGo_58, s_X4_mayGo_59, s_X4_mayGo_62, s_X4_mayGo_63, s_X4_mayGo_66, s_X4_mayGo_67, s_X4_mayGo_68, s_X4_mayGo_69, s_X4_mayGo_72, s_X4_mayGo_73, s_X4_mayGo_76, s_X4_mayGo_77, mn_cls hb, mn_fv0 hb, mn_fv1 hb, mn_fv2 hb, mn_fv3 hb, mn_fv4 hb, mn_fv5 hb, mn_fv6 hb, mn_fv7 hb, mn_fv8 hb, mn_fv9 hb, mn_fv10 hb, mn_fv11 hb, mn_fv12 hb, mn_fv13 hb, mn_fv14 hb, mn_fv15 hb, mn_ak1 hb, mn_al1 hb, mn_ak2 hb, mn_al2 hb, mn_ak3 hb, mn_al3 hb, mn_ak4 hb, mn_al4 hb, mn_ak5 hb, mn_al5 hb, mn_ak6 hb, mn_al6 hb, mn_ak7 hb, mn_al7 hb, mn_ak8 hb, mn_al8 hb, mn_ak9 hb, mn_al9 hb, k_X4_hasCapsule (show _ ≤ D by omega) hb hR hI, k_X4_hasTube (show _ ≤ D by omega) hb hR hI, g4, iI_shl1 (show t < 31 by omega), bit_get1 (show shb K < 2147483648 by omega) (show t < 31 by omega), shb_bit ht, beq_iff_eq, Decidable.not_not, bi_t z1, bi_t z2, e1, e2, e3, e4, f1, f2, f3, f4, iI_add, iI_sub, iI_mul, iI_neg, iI_lt, iI_le, iI_eq, iI_toInt, tn_n, tn_1, inb_I, Int.reduceEq, Int.reduceLT, Int.reduceLE, Int.reduceAdd, Int.reduceSub, Int.reduceMul, Int.reduceNeg, Int.reduceToNat, Nat.reduceAdd, Nat.reduceMul, Int.reduceNatCast, reduceCtorEq, Int.cast_ofNat_Int, bi_tr, bi_fa, bi_0, bi_1, not_true_eq_false, not_false_eq_true, rnk_v, rnk_n, ↓reduceIte, i00, i11, ibi, or_true, true_or, and_true, true_and, List.cons_append, List.nil_append, Option.toList]
  by_cases hm : mayK K c t back = true
  · rw [bi_t hm]
    rw [mayK_iff, ← hz3] at hm
    (repeat' split) <;> first | rfl | (exfalso; omega)
  · rw [bi_f hm]
    rw [mayK_iff, ← hz3] at hm
    (repeat' split) <;> first | rfl | (exfalso; omega)
theorem sI_r (M : tM) (a k : Nat) (v : Int32) : (sI M a k v).1 a = fun y => if y = k then v else M.1 a y := by
  funext y; simp [sI]
theorem uGo_Rep {M M' : tM} {b : Nat} {K : tK} (hR : Rep M b K) {c d : Nat} {w : Int} {sg : Bool} (hc : c < kC K) (hd : d < kD K) (h1 : M'.1 b = (sI M b 14 (kM K + iI w)).1 b) (h2 : M'.1 (b + 9) = (sI M (b + 9) c (iI d)).1 (b + 9)) (h3 : M'.1 (b + 1) = (sI M (b + 1) d (iI ((if sg then min 999 (kS K d + 1) else kS K d : Nat) : Int))).1 (b + 1)) (h4 : ∀ i, i < 10 → i ≠ 0 → i ≠ 1 → i ≠ 9 → M'.1 (b + i) = M.1 (b + i)) : Rep M' b (uGo K c d w sg) := by
  obtain ⟨⟨r1, r2, r3, r4, r5, r6, r7⟩, r8, r9, r10⟩ := hR
  have q2 := h4 2 (by omega) (by omega) (by omega) (by omega)
  have q3 := h4 3 (by omega) (by omega) (by omega) (by omega)
  have q4 := h4 4 (by omega) (by omega) (by omega) (by omega)
  have q5 := h4 5 (by omega) (by omega) (by omega) (by omega)
  have q6 := h4 6 (by omega) (by omega) (by omega) (by omega)
  have q7 := h4 7 (by omega) (by omega) (by omega) (by omega)
  have q8 := h4 8 (by omega) (by omega) (by omega) (by omega)
  unfold Rep
  rw [h1, h2, h3, q2, q3, q4, q5, q6, q7, q8]
  simp (disch := omega) only [sI_s, sI_k, sI_a, sI_2, rI_s, rI_a, rI_2, sJ_1]
  refine ⟨⟨r1, r2, r3, r4, rfl, r6, r7⟩, ?_, r9, ?_⟩
  · intro e he
    by_cases q : e = d
    · subst q
      simp only [sI_s]
      simp [uGo, uMin, ks, kS]
    · simp (disch := omega) only [sI_s, sI_k, sI_a, sI_2, rI_s, rI_a, rI_2, sJ_1]
      rw [r8 e he]
      simp [uGo, uMin, ks, kS, q]
  · intro e he
    by_cases q : e = c
    · subst q
      obtain ⟨e1, e2, e3, e4⟩ := r10 e hc
      simp only [sI_s]
      rw [e1, e2, e3]
      simp [uGo, uMin, ks, kK, kA, kW, kX]
    · obtain ⟨e1, e2, e3, e4⟩ := r10 e he
      simp (disch := omega) only [sI_s, sI_k, sI_a, sI_2, rI_s, rI_a, rI_2, sJ_1]
      rw [e1, e2, e3, e4]
      simp [uGo, uMin, ks, kK, kA, kW, kX, q]
theorem k_X4_goTo {D : Nat} (hD : 2 ≤ D) {M : tM} {b : Nat} {K : tK} (hb : isMin b) (hR : Rep M b K) (hI : kInv K) {c d : Nat} (hc : c < kC K) (hd : d < kD K) (w : Int) (sg : Prop) [Decidable sg] : ∃ M', exF D m_X4_goTo [.ref b, .int (iI c), .int (iI d), .int (iI w), .int (bi sg)] M = some (none, M') ∧ Rep M' b (uGo K c d w (decide sg)) ∧ Sm [b, b + 1, b + 9] M M' := by
  obtain ⟨D, rfl⟩ : ∃ D0, D = D0 + 1 := ⟨D - 1, by omega⟩
  have hm : b = 0 ∨ b = 10 ∨ b = 20 := hb
  have g1 := kI_n hI
  have g2 := hI.2.2.2.2.1 d hd
  have g3 := hR.2.1 d hd
  have g4 := hR.1.2.2.2.2.1
  have z1 : (0 ≤ (c : Int) ∧ (c : Int) < (kC K : Int)) := by omega
  have z2 : (0 ≤ (d : Int) ∧ (d : Int) < (kD K : Int)) := by omega
  by_cases hs : sg ∧ kS K d < 999
  · have hq := hs.2
    refine ⟨sI (sI (sI M (b + 9) c (iI d)) b 14 (kM K + iI w)) (b + 1) d (iI ((kS K d : Int) + 1)), ?_, ?_, ?_⟩
    · simp (maxSteps := 4000000) (disch := omega) only [en_X4_goTo, s_X4_goTo_0, s_X4_goTo_1, s_X4_goTo_2, s_X4_goTo_5, s_X4_goTo_8, s_X4_goTo_9, s_X4_goTo_10, s_X4_goTo_13, s_X4_goTo_16, s_X4_goTo_17, s_X4_goTo_18, s_X4_goTo_21, s_X4_goTo_22, s_X4_goTo_23, s_X4_goTo_24, s_X4_goTo_25, s_X4_goTo_25b, s_X4_goTo_26, s_X4_goTo_29, s_X4_goTo_30, s_X4_goTo_31, s_X4_goTo_34, s_X4_goTo_36, s_X4_goTo_39, s_X4_goTo_40, s_X4_goTo_43, s_X4_goTo_44, s_X4_goTo_45, s_X4_goTo_48, s_X4_goTo_51, s_X4_goTo_52, s_X4_goTo_55, s_X4_goTo_56, s_X4_goTo_57, s_X4_goTo_58, s_X4_goTo_59, s_X4_goTo_60, s_X4_goTo_61, mn_cls hb, mn_fv0 hb, mn_fv1 hb, mn_fv2 hb, mn_fv3 hb, mn_fv4 hb, mn_fv5 hb, mn_fv6 hb, mn_fv7 hb, mn_fv8 hb, mn_fv9 hb, mn_fv10 hb, mn_fv11 hb, mn_fv12 hb, mn_fv13 hb, mn_fv14 hb, mn_fv15 hb, mn_ak1 hb, mn_al1 hb, mn_ak2 hb, mn_al2 hb, mn_ak3 hb, mn_al3 hb, mn_ak4 hb, mn_al4 hb, mn_ak5 hb, mn_al5 hb, mn_ak6 hb, mn_al6 hb, mn_ak7 hb, mn_al7 hb, mn_ak8 hb, mn_al8 hb, mn_ak9 hb, mn_al9 hb, k_X4_hasCapsule (show _ ≤ D by omega) hb hR hI, k_X4_hasDesk (show _ ≤ D by omega) hb hR hI, bi_t z1, bi_t z2, bi_t hs.1, g3, g4, leF (show (kS K d : Int) < 999 by omega), sI_s, sI_k, sI_a, sI_2, rI_s, rI_a, rI_2, sJ_1, iI_add, iI_sub, iI_mul, iI_neg, iI_lt, iI_le, iI_eq, iI_toInt, tn_n, tn_1, inb_I, Int.reduceEq, Int.reduceLT, Int.reduceLE, Int.reduceAdd, Int.reduceSub, Int.reduceMul, Int.reduceNeg, Int.reduceToNat, Nat.reduceAdd, Nat.reduceMul, Int.reduceNatCast, reduceCtorEq, Int.cast_ofNat_Int, bi_tr, bi_fa, bi_0, bi_1, not_true_eq_false, not_false_eq_true, rnk_v, rnk_n, ↓reduceIte, i00, i11, ibi, or_true, true_or, and_true, true_and, List.cons_append, List.nil_append, Option.toList]
    · have e : ((if decide sg = true then min 999 (kS K d + 1) else kS K d : Nat) : Int) = (kS K d : Int) + 1 := by
        simp [hs.1]; omega
      apply uGo_Rep hR hc hd
      · simp (disch := omega) only [sI_r, sI_a]
      · simp (disch := omega) only [sI_r, sI_a]
      · simp (disch := omega) only [sI_r, sI_a]
        rw [e]
      · intro i h1 h2 h3 h4
        simp (disch := omega) only [sI_s, sI_k, sI_a, sI_2, rI_s, rI_a, rI_2, sJ_1]
    · exact Sm_tr (Sm_tr (Sm_sI (by simp)) (Sm_sI (by simp))) (Sm_sI (by simp))
  · refine ⟨sI (sI M (b + 9) c (iI d)) b 14 (kM K + iI w), ?_, ?_, ?_⟩
    · by_cases hq : sg
      · have h9 : (999 : Int) ≤ kS K d := by
          have : ¬ kS K d < 999 := fun h => hs ⟨hq, h⟩
          omega
        simp (maxSteps := 4000000) (disch := omega) only [en_X4_goTo, s_X4_goTo_0, s_X4_goTo_1, s_X4_goTo_2, s_X4_goTo_5, s_X4_goTo_8, s_X4_goTo_9, s_X4_goTo_10, s_X4_goTo_13, s_X4_goTo_16, s_X4_goTo_17, s_X4_goTo_18, s_X4_goTo_21, s_X4_goTo_22, s_X4_goTo_23, s_X4_goTo_24, s_X4_goTo_25, s_X4_goTo_25b, s_X4_goTo_26, s_X4_goTo_29, s_X4_goTo_30, s_X4_goTo_31, s_X4_goTo_34, s_X4_goTo_36, s_X4_goTo_39, s_X4_goTo_40, s_X4_goTo_43, s_X4_goTo_44, s_X4_goTo_45, s_X4_goTo_48, s_X4_goTo_51, s_X4_goTo_52, s_X4_goTo_55, s_X4_goTo_56, s_X4_goTo_57, s_X4_goTo_58, s_X4_goTo_59, s_X4_goTo_60, s_X4_goTo_61, mn_cls hb, mn_fv0 hb, mn_fv1 hb, mn_fv2 hb, mn_fv3 hb, mn_fv4 hb, mn_fv5 hb, mn_fv6 hb, mn_fv7 hb, mn_fv8 hb, mn_fv9 hb, mn_fv10 hb, mn_fv11 hb, mn_fv12 hb, mn_fv13 hb, mn_fv14 hb, mn_fv15 hb, mn_ak1 hb, mn_al1 hb, mn_ak2 hb, mn_al2 hb, mn_ak3 hb, mn_al3 hb, mn_ak4 hb, mn_al4 hb, mn_ak5 hb, mn_al5 hb, mn_ak6 hb, mn_al6 hb, mn_ak7 hb, mn_al7 hb, mn_ak8 hb, mn_al8 hb, mn_ak9 hb, mn_al9 hb, k_X4_hasCapsule (show _ ≤ D by omega) hb hR hI, k_X4_hasDesk (show _ ≤ D by omega) hb hR hI, bi_t z1, bi_t z2, bi_t hq, g3, g4, leT h9, sI_s, sI_k, sI_a, sI_2, rI_s, rI_a, rI_2, sJ_1, iI_add, iI_sub, iI_mul, iI_neg, iI_lt, iI_le, iI_eq, iI_toInt, tn_n, tn_1, inb_I, Int.reduceEq, Int.reduceLT, Int.reduceLE, Int.reduceAdd, Int.reduceSub, Int.reduceMul, Int.reduceNeg, Int.reduceToNat, Nat.reduceAdd, Nat.reduceMul, Int.reduceNatCast, reduceCtorEq, Int.cast_ofNat_Int, bi_tr, bi_fa, bi_0, bi_1, not_true_eq_false, not_false_eq_true, rnk_v, rnk_n, ↓reduceIte, i00, i11, ibi, or_true, true_or, and_true, true_and, List.cons_append, List.nil_append, Option.toList]
      · simp (maxSteps := 4000000) (disch := omega) only [en_X4_goTo, s_X4_goTo_0, s_X4_goTo_1, s_X4_goTo_2, s_X4_goTo_5, s_X4_goTo_8, s_X4_goTo_9, s_X4_goTo_10, s_X4_goTo_13, s_X4_goTo_16, s_X4_goTo_17, s_X4_goTo_18, s_X4_goTo_21, s_X4_goTo_22, s_X4_goTo_23, s_X4_goTo_24, s_X4_goTo_25, s_X4_goTo_25b, s_X4_goTo_26, s_X4_goTo_29, s_X4_goTo_30, s_X4_goTo_31, s_X4_goTo_34, s_X4_goTo_36, s_X4_goTo_39, s_X4_goTo_40, s_X4_goTo_43, s_X4_goTo_44, s_X4_goTo_45, s_X4_goTo_48, s_X4_goTo_51, s_X4_goTo_52, s_X4_goTo_55, s_X4_goTo_56, s_X4_goTo_57, s_X4_goTo_58, s_X4_goTo_59, s_X4_goTo_60, s_X4_goTo_61, mn_cls hb, mn_fv0 hb, mn_fv1 hb, mn_fv2 hb, mn_fv3 hb, mn_fv4 hb, mn_fv5 hb, mn_fv6 hb, mn_fv7 hb, mn_fv8 hb, mn_fv9 hb, mn_fv10 hb, mn_fv11 hb, mn_fv12 hb, mn_fv13 hb, mn_fv14 hb, mn_fv15 hb, mn_ak1 hb, mn_al1 hb, mn_ak2 hb, mn_al2 hb, mn_ak3 hb, mn_al3 hb, mn_ak4 hb, mn_al4 hb, mn_ak5 hb, mn_al5 hb, mn_ak6 hb, mn_al6 hb, mn_ak7 hb, mn_al7 hb, mn_ak8 hb, mn_al8 hb, mn_ak9 hb, mn_al9 hb, k_X4_hasCapsule (show _ ≤ D by omega) hb hR hI, k_X4_hasDesk (show _ ≤ D by omega) hb hR hI, bi_t z1, bi_t z2, bi_f hq, g3, g4, sI_s, sI_k, sI_a, sI_2, rI_s, rI_a, rI_2, sJ_1, iI_add, iI_sub, iI_mul, iI_neg, iI_lt, iI_le, iI_eq, iI_toInt, tn_n, tn_1, inb_I, Int.reduceEq, Int.reduceLT, Int.reduceLE, Int.reduceAdd, Int.reduceSub, Int.reduceMul, Int.reduceNeg, Int.reduceToNat, Nat.reduceAdd, Nat.reduceMul, Int.reduceNatCast, reduceCtorEq, Int.cast_ofNat_Int, bi_tr, bi_fa, bi_0, bi_1, not_true_eq_false, not_false_eq_true, rnk_v, rnk_n, ↓reduceIte, i00, i11, ibi, or_true, true_or, and_true, true_and, List.cons_append, List.nil_append, Option.toList]
    · have e : (if decide sg = true then min 999 (kS K d + 1) else kS K d) = kS K d := by
        by_cases hq : sg
        · have : ¬ kS K d < 999 := fun h => hs ⟨hq, h⟩
          simp [hq]; omega
        · simp [hq]
      apply uGo_Rep hR hc hd
      · simp (disch := omega) only [sI_r, sI_a]
      · simp (disch := omega) only [sI_r, sI_a]
      · rw [e, ← g3]
        simp (disch := omega) only [sI_r, sI_a]
        funext k
        split
        · rename_i q; rw [q]
        · rfl
      · intro i h1 h2 h3 h4
        simp (disch := omega) only [sI_s, sI_k, sI_a, sI_2, rI_s, rI_a, rI_2, sJ_1]
    · exact Sm_tr (Sm_sI (by simp)) (Sm_sI (by simp))
/-- the chance -/
def nz (z : Int32) : Int32 := z * iI 1103515245 + iI 12345
def dw (z : Int32) (n : Nat) : Nat := (ius z (iI 16)).toInt.toNat % n
theorem ius_rng (z : Int32) : ∃ k : Nat, k < 65536 ∧ ius z (iI 16) = iI k := by
  have e : z = Int32.ofNat z.toUInt32.toNat := by
    apply Int32.toBitVec.inj
    show z.toBitVec = BitVec.ofNat 32 z.toBitVec.toNat
    simp
  have h : z.toUInt32.toNat < 4294967296 := z.toUInt32.toNat_lt
  refine ⟨z.toUInt32.toNat / 65536, by omega, ?_⟩
  rw [iI_oN]
  conv => lhs; rw [e]
  exact oN_ius (t := 16) h (by decide)
theorem dw_irm (z : Int32) {n : Nat} (h : 0 < n) (h2 : n ≤ 1000) : irm (ius z (iI 16)) (iI n) = iI (dw z n) ∧ dw z n < n := by
  obtain ⟨k, h3, h4⟩ := ius_rng z
  unfold dw
  rw [h4, iI_toInt (by omega) (by omega), irm_iI (by omega) (by omega) (by omega) (by omega)]
  exact ⟨by simp, Nat.mod_lt _ h⟩
theorem k_X4_draw {D : Nat} (hD : 1 ≤ D) {M : tM} {b : Nat} {K : tK} (hb : isMin b) (hR : Rep M b K) {n : Nat} (h : 0 < n) (h2 : n ≤ 1000) : exF D m_X4_draw [.ref b, .int (iI n)] M = some (some (.int (iI (dw (nz (kZ K)) n))), sI M b 15 (nz (kZ K))) := by
  obtain ⟨D, rfl⟩ : ∃ D0, D = D0 + 1 := ⟨D - 1, by omega⟩
  have g1 := hR.1.2.2.2.2.2.1
  have g2 := (dw_irm (nz (kZ K)) h h2).1
  simp (maxSteps := 4000000) (disch := omega) only [en_X4_draw, s_X4_draw_0, s_X4_draw_1, s_X4_draw_2, s_X4_draw_5, s_X4_draw_7, s_X4_draw_8, s_X4_draw_11, s_X4_draw_12, s_X4_draw_15, s_X4_draw_16, s_X4_draw_19, s_X4_draw_20, s_X4_draw_23, s_X4_draw_25, s_X4_draw_26, s_X4_draw_27, s_X4_draw_28, s_X4_draw_31, s_X4_draw_32, mn_cls hb, mn_fv0 hb, mn_fv1 hb, mn_fv2 hb, mn_fv3 hb, mn_fv4 hb, mn_fv5 hb, mn_fv6 hb, mn_fv7 hb, mn_fv8 hb, mn_fv9 hb, mn_fv10 hb, mn_fv11 hb, mn_fv12 hb, mn_fv13 hb, mn_fv14 hb, mn_fv15 hb, mn_ak1 hb, mn_al1 hb, mn_ak2 hb, mn_al2 hb, mn_ak3 hb, mn_al3 hb, mn_ak4 hb, mn_al4 hb, mn_ak5 hb, mn_al5 hb, mn_ak6 hb, mn_al6 hb, mn_ak7 hb, mn_al7 hb, mn_ak8 hb, mn_al8 hb, mn_ak9 hb, mn_al9 hb, g1, leF, sI_s, sI_k, sI_a, sI_2, rI_s, rI_a, rI_2, sJ_1, iI_add, iI_sub, iI_mul, iI_neg, iI_lt, iI_le, iI_eq, iI_toInt, tn_n, tn_1, inb_I, Int.reduceEq, Int.reduceLT, Int.reduceLE, Int.reduceAdd, Int.reduceSub, Int.reduceMul, Int.reduceNeg, Int.reduceToNat, Nat.reduceAdd, Nat.reduceMul, Int.reduceNatCast, reduceCtorEq, Int.cast_ofNat_Int, bi_tr, bi_fa, bi_0, bi_1, not_true_eq_false, not_false_eq_true, rnk_v, rnk_n, ↓reduceIte, i00, i11, ibi, or_true, true_or, and_true, true_and, List.cons_append, List.nil_append, Option.toList]
  simp only [show kZ K * iI 1103515245 + iI 12345 = nz (kZ K) from rfl, g2]
  rw [if_neg (by simp; omega)]
theorem uSeed_Rep {M : tM} {b : Nat} {K : tK} (hb : isMin b) (hR : Rep M b K) (v : Int32) : Rep (sI M b 15 v) b (uSeed K v) := by
  have hm : b = 0 ∨ b = 10 ∨ b = 20 := hb
  obtain ⟨⟨r1, r2, r3, r4, r5, r6, r7⟩, r8, r9, r10⟩ := hR
  unfold Rep
  simp (disch := omega) only [sI_s, sI_k, sI_a, sI_2, rI_s, rI_a, rI_2, sJ_1]
  exact ⟨⟨r1, r2, r3, r4, r5, rfl, r7⟩, r8, r9, r10⟩
theorem uPres_Rep {M : tM} {b : Nat} {K : tK} (hb : isMin b) (hR : Rep M b K) (v : Nat) : Rep (sI M b 13 (iI v)) b (uPres K v) := by
  have hm : b = 0 ∨ b = 10 ∨ b = 20 := hb
  obtain ⟨⟨r1, r2, r3, r4, r5, r6, r7⟩, r8, r9, r10⟩ := hR
  unfold Rep
  simp (disch := omega) only [sI_s, sI_k, sI_a, sI_2, rI_s, rI_a, rI_2, sJ_1]
  exact ⟨⟨r1, r2, r3, rfl, r5, r6, r7⟩, r8, r9, r10⟩
theorem l_X4_signedTogether {D : Nat} {M : tM} {b : Nat} {K : tK} (hb : isMin b) (hR : Rep M b K) (hI : kInv K) : ∀ (n i : Nat), i + n = kD K → ∀ x1 x2 : Int32, x1 = iI (sm (kS K) i) → x2 = iI i → rn (exF D) C_X4_signedTogether 4 [some (.ref b), some (.int x1), some (.int x2)] [] M = some (some (.int (iI (sm (kS K) (kD K)))), M) := by
  have g1 := kI_n hI
  have g2 := hR.1.1
  intro n
  induction n with
  | zero =>
    rintro i hi x1 x2 rfl rfl
    simp (maxSteps := 4000000) (disch := omega) only [s_X4_signedTogether_0, s_X4_signedTogether_1, s_X4_signedTogether_2, s_X4_signedTogether_3, s_X4_signedTogether_4, s_X4_signedTogether_5, s_X4_signedTogether_6, s_X4_signedTogether_9, s_X4_signedTogether_12, s_X4_signedTogether_13, s_X4_signedTogether_15, s_X4_signedTogether_18, s_X4_signedTogether_19, s_X4_signedTogether_20, s_X4_signedTogether_23, s_X4_signedTogether_24, s_X4_signedTogether_25, s_X4_signedTogether_26, s_X4_signedTogether_27, s_X4_signedTogether_30, s_X4_signedTogether_33, s_X4_signedTogether_34, mn_cls hb, mn_fv0 hb, mn_fv1 hb, mn_fv2 hb, mn_fv3 hb, mn_fv4 hb, mn_fv5 hb, mn_fv6 hb, mn_fv7 hb, mn_fv8 hb, mn_fv9 hb, mn_fv10 hb, mn_fv11 hb, mn_fv12 hb, mn_fv13 hb, mn_fv14 hb, mn_fv15 hb, mn_ak1 hb, mn_al1 hb, mn_ak2 hb, mn_al2 hb, mn_ak3 hb, mn_al3 hb, mn_ak4 hb, mn_al4 hb, mn_ak5 hb, mn_al5 hb, mn_ak6 hb, mn_al6 hb, mn_ak7 hb, mn_al7 hb, mn_ak8 hb, mn_al8 hb, mn_ak9 hb, mn_al9 hb, g2, leT, iI_add, iI_sub, iI_mul, iI_neg, iI_lt, iI_le, iI_eq, iI_toInt, tn_n, tn_1, inb_I, Int.reduceEq, Int.reduceLT, Int.reduceLE, Int.reduceAdd, Int.reduceSub, Int.reduceMul, Int.reduceNeg, Int.reduceToNat, Nat.reduceAdd, Nat.reduceMul, Int.reduceNatCast, reduceCtorEq, Int.cast_ofNat_Int, bi_tr, bi_fa, bi_0, bi_1, not_true_eq_false, not_false_eq_true, rnk_v, rnk_n, ↓reduceIte, i00, i11, ibi, or_true, true_or, and_true, true_and, List.cons_append, List.nil_append, Option.toList]
    simp [show i = kD K by omega]
  | succ n ih =>
    rintro i hi x1 x2 rfl rfl
    have g3 := hR.2.1 i (by omega)
    rw [s_X4_signedTogether_4]
    simp (maxSteps := 4000000) (disch := omega) only [s_X4_signedTogether_0, s_X4_signedTogether_1, s_X4_signedTogether_2, s_X4_signedTogether_3, s_X4_signedTogether_5, s_X4_signedTogether_6, s_X4_signedTogether_9, s_X4_signedTogether_12, s_X4_signedTogether_13, s_X4_signedTogether_15, s_X4_signedTogether_18, s_X4_signedTogether_19, s_X4_signedTogether_20, s_X4_signedTogether_23, s_X4_signedTogether_24, s_X4_signedTogether_25, s_X4_signedTogether_26, s_X4_signedTogether_27, s_X4_signedTogether_30, s_X4_signedTogether_33, s_X4_signedTogether_34, mn_cls hb, mn_fv0 hb, mn_fv1 hb, mn_fv2 hb, mn_fv3 hb, mn_fv4 hb, mn_fv5 hb, mn_fv6 hb, mn_fv7 hb, mn_fv8 hb, mn_fv9 hb, mn_fv10 hb, mn_fv11 hb, mn_fv12 hb, mn_fv13 hb, mn_fv14 hb, mn_fv15 hb, mn_ak1 hb, mn_al1 hb, mn_ak2 hb, mn_al2 hb, mn_ak3 hb, mn_al3 hb, mn_ak4 hb, mn_al4 hb, mn_ak5 hb, mn_al5 hb, mn_ak6 hb, mn_al6 hb, mn_ak7 hb, mn_al7 hb, mn_ak8 hb, mn_al8 hb, mn_ak9 hb, mn_al9 hb, g2, g3, leF, iI_add, iI_sub, iI_mul, iI_neg, iI_lt, iI_le, iI_eq, iI_toInt, tn_n, tn_1, inb_I, Int.reduceEq, Int.reduceLT, Int.reduceLE, Int.reduceAdd, Int.reduceSub, Int.reduceMul, Int.reduceNeg, Int.reduceToNat, Nat.reduceAdd, Nat.reduceMul, Int.reduceNatCast, reduceCtorEq, Int.cast_ofNat_Int, bi_tr, bi_fa, bi_0, bi_1, not_true_eq_false, not_false_eq_true, rnk_v, rnk_n, ↓reduceIte, i00, i11, ibi, or_true, true_or, and_true, true_and, List.cons_append, List.nil_append, Option.toList]
    exact ih (i + 1) (by omega) _ _ rfl rfl
theorem k_X4_signedTogether {D : Nat} (hD : 1 ≤ D) {M : tM} {b : Nat} {K : tK} (hb : isMin b) (hR : Rep M b K) (hI : kInv K) : exF D m_X4_signedTogether [.ref b] M = some (some (.int (iI (sm (kS K) (kD K)))), M) := by
  obtain ⟨D, rfl⟩ : ∃ D0, D = D0 + 1 := ⟨D - 1, by omega⟩
  simp (maxSteps := 4000000) (disch := omega) only [en_X4_signedTogether, s_X4_signedTogether_0, s_X4_signedTogether_1, s_X4_signedTogether_2, s_X4_signedTogether_3, Int.reduceEq, Int.reduceLT, Int.reduceLE, Int.reduceAdd, Int.reduceSub, Int.reduceMul, Int.reduceNeg, Int.reduceToNat, Nat.reduceAdd, Nat.reduceMul, Int.reduceNatCast, reduceCtorEq, Int.cast_ofNat_Int, bi_tr, bi_fa, bi_0, bi_1, not_true_eq_false, not_false_eq_true, rnk_v, rnk_n, ↓reduceIte, i00, i11, ibi, or_true, true_or, and_true, true_and, List.cons_append, List.nil_append, Option.toList]
  exact l_X4_signedTogether hb hR hI (kD K) 0 (by omega) _ _ rfl rfl
theorem k_X4_shutTubes {D : Nat} (hD : 2 ≤ D) {M : tM} {b : Nat} {K : tK} (hb : isMin b) (hR : Rep M b K) (hI : kInv K) : exF D m_X4_shutTubes [.ref b] M = some (some (.int (iI (sm (kH K) (kT K)))), M) := by
  obtain ⟨D, rfl⟩ : ∃ D0, D = D0 + 1 := ⟨D - 1, by omega⟩
  have g1 := kI_n hI
  have g2 := hR.1.2.2.2.2.2.2
  simp (maxSteps := 4000000) (disch := omega) only [en_X4_shutTubes, s_X4_shutTubes_0, s_X4_shutTubes_1, s_X4_shutTubes_4, s_X4_shutTubes_7, mn_cls hb, mn_fv0 hb, mn_fv1 hb, mn_fv2 hb, mn_fv3 hb, mn_fv4 hb, mn_fv5 hb, mn_fv6 hb, mn_fv7 hb, mn_fv8 hb, mn_fv9 hb, mn_fv10 hb, mn_fv11 hb, mn_fv12 hb, mn_fv13 hb, mn_fv14 hb, mn_fv15 hb, mn_ak1 hb, mn_al1 hb, mn_ak2 hb, mn_al2 hb, mn_ak3 hb, mn_al3 hb, mn_ak4 hb, mn_al4 hb, mn_ak5 hb, mn_al5 hb, mn_ak6 hb, mn_al6 hb, mn_ak7 hb, mn_al7 hb, mn_ak8 hb, mn_al8 hb, mn_ak9 hb, mn_al9 hb, g2, k_bitCount (show _ ≤ D by omega) (shb_lt hI), iI_add, iI_sub, iI_mul, iI_neg, iI_lt, iI_le, iI_eq, iI_toInt, tn_n, tn_1, inb_I, Int.reduceEq, Int.reduceLT, Int.reduceLE, Int.reduceAdd, Int.reduceSub, Int.reduceMul, Int.reduceNeg, Int.reduceToNat, Nat.reduceAdd, Nat.reduceMul, Int.reduceNatCast, reduceCtorEq, Int.cast_ofNat_Int, bi_tr, bi_fa, bi_0, bi_1, not_true_eq_false, not_false_eq_true, rnk_v, rnk_n, ↓reduceIte, i00, i11, ibi, or_true, true_or, and_true, true_and, List.cons_append, List.nil_append, Option.toList]
  unfold shb
  rw [popc_bts (by omega), ctn_sm (fun i hi => (kI_t hI hi).2.2.2)]
