/-! PLANS: how one is read -/
def lt (a : Nat → Int) (n p : Nat) : Int := if p < n then a p else -1
def dgt (a : Nat → Int) (n p : Nat) : Bool := decide (48 ≤ lt a n p ∧ lt a n p ≤ 57)
/-- how many letters of text k stand at p -/
def mt (a : Nat → Int) (n p k : Nat) : Nat → Nat
  | 0 => 0
  | j + 1 => if mt a n p k j = j ∧ lt a n (p + j) = txc (130 + k) j then j + 1 else mt a n p k j
theorem mt_le (a : Nat → Int) (n p k : Nat) : ∀ j, mt a n p k j ≤ j
  | 0 => Nat.le_refl _
  | j + 1 => by
    have := mt_le a n p k j
    simp only [mt]; split <;> omega
theorem mt_stop {a : Nat → Int} {n p k j : Nat} (h : lt a n (p + j) ≠ txc (130 + k) j) (hj : mt a n p k j = j) : ∀ m, mt a n p k (j + 1 + m) = j
  | 0 => by simp only [mt, Nat.add_zero]; rw [if_neg (fun q => h q.2)]; exact hj
  | m + 1 => by
    have e := mt_stop h hj m
    show (if mt a n p k (j + 1 + m) = j + 1 + m ∧ _ then _ else _) = j
    rw [if_neg (fun q => by have := q.1; omega)]
    exact e
def wd (x : Int) : Nat := if x = 100 then 0 else if x = 116 then 1 else if x = 99 then 2 else if x = 115 then 3 else if x = 111 then 4 else if x = 112 then 5 else 6
def nNum (k : Nat) : Nat := if k = 0 then 0 else if k = 1 ∨ k = 2 then 4 else 1
def loN (k i : Nat) : Int := if k = 1 then (if i < 2 then 0 else 1) else if k = 2 then (if i = 2 then 1 else 0) else if k = 5 then 1 else 0
def hiN (K : tK) (k i : Nat) : Int := if k = 1 then (if i < 2 then (kD K : Int) - 1 else 9) else if k = 2 then (if i = 0 then 6 else if i < 3 then 9 else (kD K : Int) - 1) else if k = 5 then 9 else (kT K : Int) - 1
def noN (k i : Nat) (x : Int) : Int := if k = 1 ∧ i = 1 then x else -1
def vl (a : Nat → Int) (n p : Nat) : Int := if dgt a n (p + 1) = true then (lt a n p - 48) * 10 + lt a n (p + 1) - 48 else lt a n p - 48
theorem vl_rng {a : Nat → Int} {n p : Nat} (h : dgt a n p = true) : 0 ≤ vl a n p ∧ vl a n p ≤ 99 := by
  unfold vl
  have h1 := of_decide_eq_true h
  split
  · rename_i q
    have h2 := of_decide_eq_true q
    omega
  · omega
/-- a sign and a number: the number, or -1; where the next begins, or where the fault is -/
def rdN (a : Nat → Int) (n p : Nat) (lo hi no : Int) : Int × Nat :=
  if lt a n p ≠ 32 then (-1, p)
  else if ¬ dgt a n (p + 1) = true then (-1, p + 1)
  else if (lo ≤ vl a n (p + 1) ∧ vl a n (p + 1) ≤ hi) ∧ vl a n (p + 1) ≠ no then (vl a n (p + 1), if dgt a n (p + 2) = true then p + 3 else p + 2)
  else (-1, p + 1)
theorem rdN_rng (a : Nat → Int) (n p : Nat) (lo hi no : Int) : (-1 ≤ (rdN a n p lo hi no).1 ∧ (rdN a n p lo hi no).1 ≤ 99) ∧ p ≤ (rdN a n p lo hi no).2 ∧ (rdN a n p lo hi no).2 ≤ p + 3 := by
  unfold rdN
  by_cases q1 : lt a n p ≠ 32
  · rw [if_pos q1]; simp
  rw [if_neg q1]
  by_cases q2 : ¬ dgt a n (p + 1) = true
  · rw [if_pos q2]; simp
  rw [if_neg q2]
  have := vl_rng (a := a) (n := n) (p := p + 1) (by simpa using q2)
  by_cases q3 : (lo ≤ vl a n (p + 1) ∧ vl a n (p + 1) ≤ hi) ∧ vl a n (p + 1) ≠ no
  · rw [if_pos q3]
    dsimp only
    split <;> omega
  · rw [if_neg q3]; simp
theorem lt_n {a : Nat → Int} {n p : Nat} (h : 0 ≤ lt a n p) : p < n := by
  unfold lt at h
  by_cases q : p < n
  · exact q
  · rw [if_neg q] at h; omega
/-- what reads well ends within the plan -/
theorem rdN_in {a : Nat → Int} {n p : Nat} {lo hi no : Int} (h : (rdN a n p lo hi no).1 ≠ -1) : p + 2 ≤ (rdN a n p lo hi no).2 ∧ (rdN a n p lo hi no).2 ≤ n ∧ (lo ≤ (rdN a n p lo hi no).1 ∧ (rdN a n p lo hi no).1 ≤ hi) ∧ (rdN a n p lo hi no).1 ≠ no ∧ 0 ≤ (rdN a n p lo hi no).1 := by
  unfold rdN at *
  by_cases q1 : lt a n p ≠ 32
  · rw [if_pos q1] at h; exact absurd rfl h
  rw [if_neg q1] at *
  by_cases q2 : ¬ dgt a n (p + 1) = true
  · rw [if_pos q2] at h; exact absurd rfl h
  rw [if_neg q2] at *
  have q2' : dgt a n (p + 1) = true := by simpa using q2
  have := vl_rng q2'
  have h1 := of_decide_eq_true q2'
  have h2 := lt_n (a := a) (n := n) (p := p + 1) (by omega)
  by_cases q3 : (lo ≤ vl a n (p + 1) ∧ vl a n (p + 1) ≤ hi) ∧ vl a n (p + 1) ≠ no
  · rw [if_pos q3] at *
    dsimp only
    refine ⟨by split <;> omega, ?_, q3.1, q3.2, by omega⟩
    by_cases q4 : dgt a n (p + 2) = true
    · have h3 := of_decide_eq_true q4
      have h4 := lt_n (a := a) (n := n) (p := p + 2) (by omega)
      rw [if_pos q4]; omega
    · rw [if_neg q4]; omega
  · rw [if_neg q3] at h; exact absurd rfl h
/-- i numbers of an item: what they are, whether they read well, where -/
abbrev tX : Type := (Nat → Int) × Bool × Nat
def rdX (a : Nat → Int) (n : Nat) (K : tK) (k p : Nat) : Nat → tX
  | 0 => (fun _ => 0, true, p)
  | i + 1 => if (rdX a n K k p i).2.1 = true then (if (rdN a n (rdX a n K k p i).2.2 (loN k i) (hiN K k i) (noN k i ((rdX a n K k p i).1 0))).1 = -1 then ((rdX a n K k p i).1, false, (rdN a n (rdX a n K k p i).2.2 (loN k i) (hiN K k i) (noN k i ((rdX a n K k p i).1 0))).2) else (fun j => if j = i then (rdN a n (rdX a n K k p i).2.2 (loN k i) (hiN K k i) (noN k i ((rdX a n K k p i).1 0))).1 else (rdX a n K k p i).1 j, true, (rdN a n (rdX a n K k p i).2.2 (loN k i) (hiN K k i) (noN k i ((rdX a n K k p i).1 0))).2)) else rdX a n K k p i
theorem rdX_t {a : Nat → Int} {n : Nat} {K : tK} {k p i : Nat} (h : (rdX a n K k p i).2.1 = true) (h2 : (rdN a n (rdX a n K k p i).2.2 (loN k i) (hiN K k i) (noN k i ((rdX a n K k p i).1 0))).1 ≠ -1) : rdX a n K k p (i + 1) = (fun j => if j = i then (rdN a n (rdX a n K k p i).2.2 (loN k i) (hiN K k i) (noN k i ((rdX a n K k p i).1 0))).1 else (rdX a n K k p i).1 j, true, (rdN a n (rdX a n K k p i).2.2 (loN k i) (hiN K k i) (noN k i ((rdX a n K k p i).1 0))).2) := by
  show (if _ then _ else _) = _
  rw [if_pos h, if_neg h2]
theorem rdX_f {a : Nat → Int} {n : Nat} {K : tK} {k p i : Nat} (h : (rdX a n K k p i).2.1 = true) (h2 : (rdN a n (rdX a n K k p i).2.2 (loN k i) (hiN K k i) (noN k i ((rdX a n K k p i).1 0))).1 = -1) : rdX a n K k p (i + 1) = ((rdX a n K k p i).1, false, (rdN a n (rdX a n K k p i).2.2 (loN k i) (hiN K k i) (noN k i ((rdX a n K k p i).1 0))).2) := by
  show (if _ then _ else _) = _
  rw [if_pos h, if_pos h2]
theorem rdX_s {a : Nat → Int} {n : Nat} {K : tK} {k p i : Nat} (h : (rdX a n K k p i).2.1 = false) : ∀ m, rdX a n K k p (i + m) = rdX a n K k p i
  | 0 => rfl
  | m + 1 => by
    show (if (rdX a n K k p (i + m)).2.1 = true then _ else rdX a n K k p (i + m)) = _
    rw [rdX_s h m, h]; rfl
theorem rdX_in {a : Nat → Int} {n : Nat} {K : tK} {k p : Nat} (hp : p ≤ n) : ∀ i, p ≤ (rdX a n K k p i).2.2 ∧ (rdX a n K k p i).2.2 ≤ n + 3 ∧ ((rdX a n K k p i).2.1 = true → (rdX a n K k p i).2.2 ≤ n ∧ ∀ j, j < i → (loN k j ≤ (rdX a n K k p i).1 j ∧ (rdX a n K k p i).1 j ≤ hiN K k j) ∧ 0 ≤ (rdX a n K k p i).1 j ∧ (rdX a n K k p i).1 j ≤ 99 ∧ (rdX a n K k p i).1 j ≠ noN k j ((rdX a n K k p i).1 0))
  | 0 => ⟨Nat.le_refl _, by show p ≤ _; omega, fun _ => ⟨hp, fun j hj => absurd hj (by omega)⟩⟩
  | i + 1 => by
    obtain ⟨h1, h2, h3⟩ := rdX_in hp i (a := a) (K := K) (k := k)
    by_cases q : (rdX a n K k p i).2.1 = true
    · obtain ⟨h4, h5⟩ := h3 q
      have h6 := rdN_rng a n (rdX a n K k p i).2.2 (loN k i) (hiN K k i) (noN k i ((rdX a n K k p i).1 0))
      by_cases q2 : (rdN a n (rdX a n K k p i).2.2 (loN k i) (hiN K k i) (noN k i ((rdX a n K k p i).1 0))).1 = -1
      · rw [rdX_f q q2]
        exact ⟨by dsimp only; omega, by dsimp only; omega, fun x => by cases x⟩
      · rw [rdX_t q q2]
        have h7 := rdN_in q2
        refine ⟨by dsimp only; omega, by dsimp only; omega, fun _ => ⟨by dsimp only; omega, fun j hj => ?_⟩⟩
        dsimp only
        by_cases e : j = i
        · subst e
          rw [if_pos rfl]
          refine ⟨h7.2.2.1, h7.2.2.2.2, h6.1.2, ?_⟩
          by_cases e0 : 0 = j
          · subst e0
            have e1 : ∀ x, noN k 0 x = -1 := fun x => by simp [noN]
            exact fun h => q2 (h.trans (e1 _))
          · rw [if_neg e0]; exact h7.2.2.2.1
        · rw [if_neg e]
          have h8 := h5 j (by omega)
          refine ⟨h8.1, h8.2.1, h8.2.2.1, ?_⟩
          by_cases e0 : 0 = i
          · omega
          · rw [if_neg e0]; exact h8.2.2.2
    · have q' : (rdX a n K k p i).2.1 = false := by simpa using q
      rw [rdX_s q' 1]
      exact ⟨h1, h2, fun x => absurd x q⟩
def rmK (K : tK) (k : Nat) : Bool := if k = 0 then decide (kD K < 8) else if k = 1 then decide (kT K < 16) else if k = 2 then decide (kC K < 5) else true
def tlK (K : tK) (k : Nat) (x : Nat → Int) : tK := if k = 0 then uDesk K else if k = 1 then uTube K (x 0).toNat (x 1).toNat (x 2).toNat (x 3).toNat else if k = 2 then uCap K (x 0).toNat (x 1).toNat (x 2).toNat (x 3).toNat else if k = 5 then uPres K (x 0).toNat else uShut K (x 0).toNat (if k = 3 then 1 else 0)
/-- an item: whether it reads well, what stands then, where -/
def rdI (a : Nat → Int) (n : Nat) (K : tK) (p : Nat) : Bool × tK × Nat :=
  if wd (lt a n p) = 6 then (false, K, p)
  else if mt a n p (wd (lt a n p)) (txl (130 + wd (lt a n p))) ≠ txl (130 + wd (lt a n p)) then (false, K, p + mt a n p (wd (lt a n p)) (txl (130 + wd (lt a n p))))
  else if ¬ rmK K (wd (lt a n p)) = true then (false, K, p)
  else if (rdX a n K (wd (lt a n p)) (p + txl (130 + wd (lt a n p))) (nNum (wd (lt a n p)))).2.1 = true then (true, tlK K (wd (lt a n p)) (rdX a n K (wd (lt a n p)) (p + txl (130 + wd (lt a n p))) (nNum (wd (lt a n p)))).1, (rdX a n K (wd (lt a n p)) (p + txl (130 + wd (lt a n p))) (nNum (wd (lt a n p)))).2.2)
  else (false, K, (rdX a n K (wd (lt a n p)) (p + txl (130 + wd (lt a n p))) (nNum (wd (lt a n p)))).2.2)
theorem mt_in {a : Nat → Int} {n p k : Nat} : ∀ {j : Nat}, mt a n p k j = j → ∀ i, i < j → lt a n (p + i) = txc (130 + k) i
  | 0, _, i, hi => by omega
  | j + 1, h, i, hi => by
    simp only [mt] at h
    by_cases q : mt a n p k j = j ∧ lt a n (p + j) = txc (130 + k) j
    · by_cases e : i = j
      · subst e; exact q.2
      · exact mt_in q.1 i (by omega)
    · rw [if_neg q] at h
      have := mt_le a n p k j
      omega
theorem tx_rng : ∀ k, k < 6 → (4 ≤ txl (130 + k) ∧ txl (130 + k) ≤ 8) ∧ ∀ j, j < 8 → j < txl (130 + k) → 97 ≤ txc (130 + k) j ∧ txc (130 + k) j ≤ 122 := by decide
theorem wd_le (x : Int) : wd x ≤ 6 := by unfold wd; (repeat' split) <;> omega
theorem mt_n {a : Nat → Int} {n p k : Nat} (hk : k < 6) (h : mt a n p k (txl (130 + k)) = txl (130 + k)) : p + txl (130 + k) ≤ n := by
  obtain ⟨h1, h2⟩ := tx_rng k hk
  have h3 := mt_in h (txl (130 + k) - 1) (by omega)
  have h4 := h2 (txl (130 + k) - 1) (by omega) (by omega)
  have h5 := lt_n (a := a) (n := n) (p := p + (txl (130 + k) - 1)) (by omega)
  omega
theorem rdI_in {a : Nat → Int} {n : Nat} {K : tK} {p : Nat} (h : (rdI a n K p).1 = true) : p + 4 ≤ (rdI a n K p).2.2 ∧ (rdI a n K p).2.2 ≤ n := by
  have h0 := wd_le (lt a n p)
  unfold rdI at *
  by_cases q1 : wd (lt a n p) = 6
  · rw [if_pos q1] at h; cases h
  rw [if_neg q1] at *
  by_cases q2 : mt a n p (wd (lt a n p)) (txl (130 + wd (lt a n p))) ≠ txl (130 + wd (lt a n p))
  · rw [if_pos q2] at h; cases h
  rw [if_neg q2] at *
  by_cases q3 : ¬ rmK K (wd (lt a n p)) = true
  · rw [if_pos q3] at h; cases h
  rw [if_neg q3] at *
  have h1 := mt_n (k := wd (lt a n p)) (by omega) (Classical.not_not.mp q2)
  have h2 := tx_rng (wd (lt a n p)) (by omega)
  obtain ⟨h3, h4, h5⟩ := rdX_in (a := a) (K := K) (k := wd (lt a n p)) h1 (nNum (wd (lt a n p)))
  by_cases q4 : (rdX a n K (wd (lt a n p)) (p + txl (130 + wd (lt a n p))) (nNum (wd (lt a n p)))).2.1 = true
  · rw [if_pos q4] at *
    have h6 := (h5 q4).1
    dsimp only
    omega
  · rw [if_neg q4] at h; cases h
theorem rdI_inv {a : Nat → Int} {n : Nat} {K : tK} {p : Nat} (hI : kInv K) : kInv (rdI a n K p).2.1 ∧ kC K ≤ kC (rdI a n K p).2.1 := by
  have h0 := wd_le (lt a n p)
  unfold rdI
  by_cases q1 : wd (lt a n p) = 6
  · rw [if_pos q1]; exact ⟨hI, Nat.le_refl _⟩
  rw [if_neg q1]
  by_cases q2 : mt a n p (wd (lt a n p)) (txl (130 + wd (lt a n p))) ≠ txl (130 + wd (lt a n p))
  · rw [if_pos q2]; exact ⟨hI, Nat.le_refl _⟩
  rw [if_neg q2]
  by_cases q3 : ¬ rmK K (wd (lt a n p)) = true
  · rw [if_pos q3]; exact ⟨hI, Nat.le_refl _⟩
  rw [if_neg q3]
  have h1 := mt_n (k := wd (lt a n p)) (by omega) (Classical.not_not.mp q2)
  obtain ⟨h3, h4, h5⟩ := rdX_in (a := a) (K := K) (k := wd (lt a n p)) h1 (nNum (wd (lt a n p)))
  by_cases q4 : (rdX a n K (wd (lt a n p)) (p + txl (130 + wd (lt a n p))) (nNum (wd (lt a n p)))).2.1 = true
  rotate_left
  · rw [if_neg q4]; exact ⟨hI, Nat.le_refl _⟩
  rw [if_pos q4]
  dsimp only
  have h6 := (h5 q4).2
  generalize (rdX a n K (wd (lt a n p)) (p + txl (130 + wd (lt a n p))) (nNum (wd (lt a n p)))).1 = x at h6
  have q3' : rmK K (wd (lt a n p)) = true := Classical.not_not.mp q3
  generalize wd (lt a n p) = k at *
  have hk : k = 0 ∨ k = 1 ∨ k = 2 ∨ k = 3 ∨ k = 4 ∨ k = 5 := by omega
  rcases hk with rfl | rfl | rfl | rfl | rfl | rfl
  · exact ⟨uDesk_inv hI (of_decide_eq_true q3'), by simp [tlK, uDesk, ks, kC]⟩
  · have a0 := h6 0 (by decide)
    have a1 := h6 1 (by decide)
    have a2 := h6 2 (by decide)
    have a3 := h6 3 (by decide)
    simp [loN, hiN, noN] at a0 a1 a2 a3
    exact ⟨uTube_inv hI (of_decide_eq_true q3') (by omega) (by omega) (by omega) (by omega) (by omega), by simp [tlK, uTube, ks, kC]⟩
  · have a0 := h6 0 (by decide)
    have a1 := h6 1 (by decide)
    have a2 := h6 2 (by decide)
    have a3 := h6 3 (by decide)
    simp [loN, hiN, noN] at a0 a1 a2 a3
    exact ⟨uCap_inv hI (of_decide_eq_true q3') (by omega) (by omega) (by omega) (by omega), by simp [tlK, uCap, ks, kC]⟩
  · have a0 := h6 0 (by decide)
    simp [loN, hiN, noN] at a0
    exact ⟨uShut_inv hI (by decide), by simp [tlK, uShut, ks, kC]⟩
  · have a0 := h6 0 (by decide)
    simp [loN, hiN, noN] at a0
    exact ⟨uShut_inv hI (by decide), by simp [tlK, uShut, ks, kC]⟩
  · have a0 := h6 0 (by decide)
    simp [loN, hiN, noN] at a0
    exact ⟨uPres_inv hI (by omega), by simp [tlK, uPres, ks, kC]⟩
/-- a plan -/
def rdP (a : Nat → Int) (n : Nat) : Nat → tK → Nat → Nat → Bool × tK × Nat
  | 0, K, p, _ => (false, K, p)
  | m + 1, K, p, c => if (rdI a n K p).1 = true then (if n ≤ (rdI a n K p).2.2 then (true, (rdI a n K p).2.1, c + 1) else if lt a n (rdI a n K p).2.2 = 59 then rdP a n m (rdI a n K p).2.1 ((rdI a n K p).2.2 + 1) (c + 1) else (false, K, (rdI a n K p).2.2)) else (false, K, (rdI a n K p).2.2)
def p_plan (S : tS) (s : Int) : Int × tS :=
  if rrQ (stQ S) s < 0 then rz S (rrQ (stQ S) s)
  else if (rdP (qI (stQ S) s.toNat) (qN (stQ S) s.toNat) 161 (stK S) 0 0).1 = true then (((rdP (qI (stQ S) s.toNat) (qN (stQ S) s.toNat) 161 (stK S) 0 0).2.2 : Int), upF (upK S (rdP (qI (stQ S) s.toNat) (qN (stQ S) s.toNat) 161 (stK S) 0 0).2.1) (-1))
  else rz (upF S ((rdP (qI (stQ S) s.toNat) (qN (stQ S) s.toNat) 161 (stK S) 0 0).2.2 : Int)) (-6)
