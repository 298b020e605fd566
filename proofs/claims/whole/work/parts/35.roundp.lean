/-! ROUNDS, as pure numbers -/
theorem nat_bts {n : Nat} (h : n < 65536) : bts n.testBit 16 = n := by
  apply Nat.eq_of_testBit_eq
  intro i
  rw [bts_bit]
  by_cases hi : i < 16
  · simp [hi]
  · have : n.testBit i = false := Nat.testBit_lt_two_pow (by
      have : 2 ^ 16 ≤ 2 ^ i := Nat.pow_le_pow_right (by omega) (by omega)
      omega)
    simp [hi, this]
theorem p2_le {n d : Nat} (h : n.testBit d = true) : 2 ^ d ≤ n := by
  by_cases q : 2 ^ d ≤ n
  · exact q
  · rw [Nat.testBit_lt_two_pow (by omega)] at h
    cases h
theorem bts_sub {p : Nat → Bool} {d : Nat} (h : p d = true) : ∀ {n : Nat}, d < n → bts p n = bts (fun i => if i = d then false else p i) n + 2 ^ d
  | 0, hn => by omega
  | n + 1, hn => by
    simp only [bts]
    by_cases e : d = n
    · subst e
      rw [bts_cong (q := p) (p := fun i => if i = d then false else p i) (fun i hi => by simp [show i ≠ d by omega])]
      simp [h]
    · rw [bts_sub h (show d < n by omega)]
      have e' : ¬ n = d := fun x => e x.symm
      simp only [e', if_false]
      omega
theorem ctn_sub {p : Nat → Bool} {d : Nat} (h : p d = true) : ∀ {n : Nat}, d < n → ctn p n = ctn (fun i => if i = d then false else p i) n + 1
  | 0, hn => by omega
  | n + 1, hn => by
    simp only [ctn]
    by_cases e : d = n
    · subst e
      rw [ctn_cong (q := p) (p := fun i => if i = d then false else p i) (fun i hi => by simp [show i ≠ d by omega])]
      simp [h]
    · rw [ctn_sub h (show d < n by omega)]
      have e' : ¬ n = d := fun x => e x.symm
      simp only [e', if_false]
      omega
theorem sub_eq {n d : Nat} (hn : n < 65536) (hd : d < 16) (h : n.testBit d = true) : n - 2 ^ d = bts (fun i => if i = d then false else n.testBit i) 16 := by
  have h1 := bts_sub (p := n.testBit) h hd
  rw [nat_bts hn] at h1
  omega
theorem sub_bit {n d i : Nat} (hn : n < 65536) (hd : d < 16) (h : n.testBit d = true) : (n - 2 ^ d).testBit i = if i = d then false else n.testBit i := by
  rw [sub_eq hn hd h, bts_bit]
  by_cases hi : i < 16
  · simp [hi]
  · have : n.testBit i = false := Nat.testBit_lt_two_pow (by
      have : 2 ^ 16 ≤ 2 ^ i := Nat.pow_le_pow_right (by omega) (by omega)
      omega)
    simp [hi, this]
theorem sub_popc {n d : Nat} (hn : n < 65536) (hd : d < 16) (h : n.testBit d = true) : popc n = popc (n - 2 ^ d) + 1 := by
  rw [sub_eq hn hd h, popc_bts (by omega)]
  exact ctn_sub h hd
theorem popc_0 {n : Nat} (hn : n < 65536) (h : popc n = 0) : n = 0 := by
  apply Nat.eq_of_testBit_eq
  intro i
  rw [Nat.zero_testBit]
  by_cases q : n.testBit i = true
  · by_cases hi : i < 16
    · have := sub_popc hn hi q
      omega
    · have := p2_le q
      have : 2 ^ 16 ≤ 2 ^ i := Nat.pow_le_pow_right (by omega) (by omega)
      omega
  · simpa using q
/-- a without the bits of b -/
def andn (a b : Nat) : Nat := a &&& (b ^^^ 4294967295)
theorem andn_bit (a b i : Nat) (hi : i < 32) : (andn a b).testBit i = (a.testBit i && !b.testBit i) := by
  unfold andn
  rw [Nat.testBit_and, Nat.testBit_xor, show (4294967295 : Nat) = 2 ^ 32 - 1 by decide, Nat.testBit_two_pow_sub_one]
  simp [hi]
theorem andn_le (a b : Nat) : andn a b ≤ a := Nat.and_le_left
theorem iI_andn (a b : Nat) : iI (a : Int) &&& (iI (b : Int) ^^^ iI (-1)) = iI (andn a b : Int) := by
  rw [iI_oN, iI_oN, iI_oN, m1_oN, oN_xor, oN_and]
  rfl
theorem hi_bit {n i : Nat} (hn : n < 65536) (hi : 16 ≤ i) : n.testBit i = false := Nat.testBit_lt_two_pow (by
  have : 2 ^ 16 ≤ 2 ^ i := Nat.pow_le_pow_right (by omega) hi
  omega)
theorem andn_p2 {n d : Nat} (hn : n < 65536) (hd : d < 16) (h : n.testBit d = true) : andn n (2 ^ d) = n - 2 ^ d := by
  apply Nat.eq_of_testBit_eq
  intro i
  rw [sub_bit hn hd h]
  by_cases hi : i < 32
  · rw [andn_bit _ _ _ hi, Nat.testBit_two_pow]
    by_cases e : i = d
    · subst e; simp
    · have e' : ¬ d = i := fun x => e x.symm
      simp [e, e']
  · rw [hi_bit hn (by omega), hi_bit (Nat.lt_of_le_of_lt (andn_le _ _) hn) (by omega)]
    simp
/-- l lies in s -/
def subB (l s : Nat) : Prop := ∀ i, l.testBit i = true → s.testBit i = true
theorem andn_0 {l s : Nat} (hl : l < 65536) : andn l s = 0 ↔ subB l s := by
  constructor
  · intro h i hi
    by_cases q : s.testBit i = true
    · exact q
    · have h1 : i < 32 := by
        by_cases h2 : i < 32
        · exact h2
        · rw [hi_bit hl (by omega)] at hi; cases hi
      have h3 := andn_bit l s i h1
      rw [h, Nat.zero_testBit, hi] at h3
      simp at h3
      exact h3
  · intro h
    apply Nat.eq_of_testBit_eq
    intro i
    rw [Nat.zero_testBit]
    by_cases hi : i < 32
    · rw [andn_bit _ _ _ hi]
      by_cases q : l.testBit i = true
      · rw [q, h i q]; rfl
      · have q' : l.testBit i = false := by simpa using q
        rw [q']; rfl
    · exact hi_bit (Nat.lt_of_le_of_lt (andn_le _ _) hl) (by omega)
theorem subB_sub {l s d : Nat} (hl : l < 65536) (hd : d < 16) (h : l.testBit d = true) (hs : subB l s) : subB (l - 2 ^ d) s := by
  intro i hi
  rw [sub_bit hl hd h] at hi
  by_cases e : i = d
  · simp [e] at hi
  · simp [e] at hi; exact hs i hi
theorem lt_bit {s N i : Nat} (hs : s < 2 ^ N) (hi : s.testBit i = true) : i < N := by
  by_cases q : i < N
  · exact q
  · rw [Nat.testBit_lt_two_pow (by
      have : 2 ^ N ≤ 2 ^ i := Nat.pow_le_pow_right (by omega) (by omega)
      omega)] at hi
    cases hi
/-- least minutes over what is left, without the stays -/
def rmn (f : tF) (D : tF) (s a : Nat) : Nat → Nat
  | 0 => if s = 0 then 0 else 9999
  | d + 1 => if s.testBit d = true then min (rmn f D s a d) (D a d + f (s - 2 ^ d) d) else rmn f D s a d
def rt (D : tF) (N : Nat) : Nat → tF
  | 0 => fun _ _ => 0
  | m + 1 => fun s a => if s = m then rmn (rt D N m) D s a N else rt D N m s a
def rR (D : tF) (N : Nat) : tF := rt D N 256
theorem rt_st {D : tF} {N m s a : Nat} (h : s < m) : ∀ j, rt D N (m + j) s a = rt D N m s a
  | 0 => rfl
  | j + 1 => by
    show (if s = m + j then _ else _) = _
    rw [if_neg (by omega)]
    exact rt_st h j
theorem rmn_cong {f g D : tF} {s a : Nat} : ∀ {n : Nat}, (∀ d, d < n → s.testBit d = true → f (s - 2 ^ d) d = g (s - 2 ^ d) d) → rmn f D s a n = rmn g D s a n
  | 0, _ => rfl
  | n + 1, h => by
    simp only [rmn]
    rw [rmn_cong (fun d hd => h d (by omega))]
    by_cases q : s.testBit n = true
    · rw [if_pos q, if_pos q, h n (by omega) q]
    · rw [if_neg q, if_neg q]
theorem rR_st {D : tF} {N m s a : Nat} (h : s < m) (hm : m ≤ 256) : rt D N m s a = rR D N s a := by
  have := rt_st (D := D) (N := N) (a := a) h (256 - m)
  rw [show m + (256 - m) = 256 by omega] at this
  exact this.symm
theorem rR_eq {D : tF} {N s a : Nat} (h : s < 256) : rR D N s a = rmn (rR D N) D s a N := by
  rw [← rR_st (m := s + 1) (by omega) (by omega)]
  show (if s = s then _ else _) = _
  rw [if_pos rfl]
  apply rmn_cong
  intro d _ hd
  have := p2_le hd
  have : 0 < 2 ^ d := Nat.pow_pos (by omega)
  exact rR_st (by omega) (by omega)
theorem rmn_le (f D : tF) (s a : Nat) : ∀ n, rmn f D s a n ≤ 9999
  | 0 => by simp only [rmn]; split <;> omega
  | n + 1 => by
    have := rmn_le f D s a n
    simp only [rmn]; split <;> omega
theorem rR_le {D : tF} {N s a : Nat} (h : s < 256) : rR D N s a ≤ 9999 := by
  rw [rR_eq h]; exact rmn_le _ _ _ _ _
def dOK (D : tF) (N : Nat) : Prop := ∀ u, u < N → ∀ v, v < N → D u v = 9999 ∨ D u v ≤ 720
theorem rR_rng {D : tF} {N : Nat} (hN : N ≤ 8) (hD : dOK D N) : ∀ m s, s < m → s < 256 → ∀ a, a < N → rR D N s a = 9999 ∨ rR D N s a ≤ 720 * popc s := by
  intro m
  induction m with
  | zero => intro s h; omega
  | succ m ih =>
    intro s hs hs2 a ha
    rw [rR_eq hs2]
    have key : ∀ n, n ≤ N → rmn (rR D N) D s a n = 9999 ∨ rmn (rR D N) D s a n ≤ 720 * popc s := by
      intro n
      induction n with
      | zero => intro _; simp only [rmn]; split <;> omega
      | succ n ihn =>
        intro hn
        have h1 := ihn (by omega)
        simp only [rmn]
        by_cases q : s.testBit n = true
        · rw [if_pos q]
          have h2 := p2_le q
          have h3 : 0 < 2 ^ n := Nat.pow_pos (by omega)
          have h4 := ih (s - 2 ^ n) (by omega) (by omega) n (by omega)
          have h5 := sub_popc (show s < 65536 by omega) (show n < 16 by omega) q
          have h6 := hD a ha n (by omega)
          have h7 := rmn_le (rR D N) D s a n
          omega
        · rw [if_neg q]; exact h1
    exact key N (Nat.le_refl _)
/-- with the stays -/
def rB (D : tF) (N st s a : Nat) : Nat := if rR D N s a = 9999 then 9999 else rR D N s a + st * popc s
def rBn (D : tF) (N st s a n : Nat) : Nat := if rmn (rR D N) D s a n = 9999 then 9999 else rmn (rR D N) D s a n + st * popc s
def rCd (D : tF) (N st s a d : Nat) : Nat := if D a d = 9999 ∨ rB D N st (s - 2 ^ d) d = 9999 then 9999 else D a d + st + rB D N st (s - 2 ^ d) d
theorem popc_le (n : Nat) : popc n ≤ 16 := ctn_le _ _
theorem pc_mul {st p : Nat} (h1 : st ≤ 60) (h2 : p ≤ 8) : st * p ≤ 480 := by
  have := Nat.mul_le_mul h1 h2
  omega
theorem popc_8 {n : Nat} (h : n < 256) : popc n ≤ 8 := by
  have e : popc n = ctn n.testBit 8 := by
    have h1 : bts n.testBit 8 = n := by
      apply Nat.eq_of_testBit_eq
      intro i
      rw [bts_bit]
      by_cases hi : i < 8
      · simp [hi]
      · have : n.testBit i = false := Nat.testBit_lt_two_pow (by
          have : 2 ^ 8 ≤ 2 ^ i := Nat.pow_le_pow_right (by omega) (by omega)
          omega)
        simp [hi, this]
    have h2 := popc_bts (p := n.testBit) (n := 8) (by omega)
    rw [h1] at h2
    exact h2
  rw [e]
  exact ctn_le _ _
theorem rB_rng {D : tF} {N st s a : Nat} (hN : N ≤ 8) (hD : dOK D N) (hst : st ≤ 60) (hs : s < 256) (ha : a < N) : rB D N st s a = 9999 ∨ rB D N st s a ≤ 6240 := by
  have h1 := rR_rng hN hD _ s (Nat.lt_succ_self s) hs a ha
  have h2 := popc_8 hs
  have h3 := pc_mul hst h2
  unfold rB
  split
  · omega
  · omega
theorem rmn_rng {D : tF} {N s a : Nat} (hN : N ≤ 8) (hD : dOK D N) (hs : s < 256) (ha : a < N) : ∀ n, n ≤ N → rmn (rR D N) D s a n = 9999 ∨ rmn (rR D N) D s a n ≤ 720 * popc s := by
  intro n
  induction n with
  | zero => intro _; simp only [rmn]; split <;> omega
  | succ n ihn =>
    intro hn
    have h1 := ihn (by omega)
    simp only [rmn]
    by_cases q : s.testBit n = true
    · rw [if_pos q]
      have h2 := p2_le q
      have h3 : 0 < 2 ^ n := Nat.pow_pos (by omega)
      have h4 := rR_rng hN hD _ (s - 2 ^ n) (Nat.lt_succ_self _) (by omega) n (by omega)
      have h5 := sub_popc (show s < 65536 by omega) (show n < 16 by omega) q
      have h6 := hD a ha n (by omega)
      have h7 := rmn_le (rR D N) D s a n
      omega
    · rw [if_neg q]; exact h1
/-- one candidate, with the stays and without -/
theorem rCd_eq {D : tF} {N st s a d : Nat} (hN : N ≤ 8) (hD : dOK D N) (hst : st ≤ 60) (hs : s < 256) (ha : a < N) (hd : d < N) (q : s.testBit d = true) : (rCd D N st s a d = 9999 ∧ 9999 ≤ D a d + rR D N (s - 2 ^ d) d) ∨ (rCd D N st s a d = D a d + rR D N (s - 2 ^ d) d + st * popc s ∧ D a d + rR D N (s - 2 ^ d) d ≤ 6480 ∧ st * popc s ≤ 480) := by
  have h2 := p2_le q
  have h3 : 0 < 2 ^ d := Nat.pow_pos (by omega)
  have h4 := rR_rng hN hD _ (s - 2 ^ d) (Nat.lt_succ_self _) (by omega) d hd
  have h5 := sub_popc (show s < 65536 by omega) (show d < 16 by omega) q
  have h6 := hD a ha d hd
  have h7 := popc_8 hs
  have h8 := pc_mul hst h7
  have h9 : st * popc s = st * popc (s - 2 ^ d) + st := by rw [h5, Nat.mul_add, Nat.mul_one]
  unfold rCd rB
  by_cases e1 : D a d = 9999
  · rw [if_pos (Or.inl e1)]
    exact Or.inl ⟨rfl, by omega⟩
  · by_cases e2 : rR D N (s - 2 ^ d) d = 9999
    · rw [if_pos (Or.inr (by rw [if_pos e2]))]
      exact Or.inl ⟨rfl, by omega⟩
    · rw [if_neg e2, if_neg (by omega)]
      exact Or.inr ⟨by omega, by omega, h8⟩
theorem rBn_le {D : tF} {N st s a : Nat} (hN : N ≤ 8) (hD : dOK D N) (hst : st ≤ 60) (hs : s < 256) (ha : a < N) {n : Nat} (hn : n ≤ N) : rBn D N st s a n ≤ 9999 := by
  have h1 := rmn_rng hN hD hs ha n hn
  have h3 := pc_mul hst (popc_8 hs)
  have h4 := popc_8 hs
  unfold rBn
  split <;> omega
theorem rBn_up {D : tF} {N st s a n : Nat} (hN : N ≤ 8) (hD : dOK D N) (hst : st ≤ 60) (hs : s < 256) (ha : a < N) (hn : n < N) : rBn D N st s a (n + 1) = if s.testBit n = true then min (rBn D N st s a n) (rCd D N st s a n) else rBn D N st s a n := by
  by_cases q : s.testBit n = true
  · rw [if_pos q]
    have h1 := rCd_eq hN hD hst hs ha hn q
    have h2 := rmn_rng hN hD hs ha n (by omega)
    have h3 := pc_mul hst (popc_8 hs)
    have h4 := popc_8 hs
    have e : rmn (rR D N) D s a (n + 1) = min (rmn (rR D N) D s a n) (D a n + rR D N (s - 2 ^ n) n) := by
      simp only [rmn]; rw [if_pos q]
    unfold rBn
    rw [e]
    generalize rmn (rR D N) D s a n = x at h2 ⊢
    generalize D a n + rR D N (s - 2 ^ n) n = y at h1 ⊢
    generalize rCd D N st s a n = z at h1 ⊢
    generalize st * popc s = w at h1 h3 ⊢
    by_cases e1 : x = 9999
    · rw [if_pos e1]
      by_cases e2 : min x y = 9999
      · rw [if_pos e2]; omega
      · rw [if_neg e2]; omega
    · rw [if_neg e1]
      rw [if_neg (by omega)]
      omega
  · rw [if_neg q]
    have e : rmn (rR D N) D s a (n + 1) = rmn (rR D N) D s a n := by
      simp only [rmn]; rw [if_neg q]
    unfold rBn
    rw [e]
theorem rBn_hi {D : tF} {N st s a : Nat} (hs : s < 2 ^ N) : ∀ j, rBn D N st s a (N + j) = rBn D N st s a N
  | 0 => rfl
  | j + 1 => by
    have q : ¬ s.testBit (N + j) = true := fun h => by have := lt_bit hs h; omega
    have e : rmn (rR D N) D s a (N + (j + 1)) = rmn (rR D N) D s a (N + j) := by
      show (if s.testBit (N + j) = true then _ else _) = _
      rw [if_neg q]
      rfl
    unfold rBn
    rw [e]
    exact rBn_hi hs j
theorem rBn_N {D : tF} {N st s a : Nat} (hs : s < 256) : rBn D N st s a N = rB D N st s a := by
  unfold rBn rB
  rw [← rR_eq hs]
/-- the next desk of the order -/
def rnP (D : tF) (N s a d : Nat) : Bool := s.testBit d && (D a d + rR D N (s - 2 ^ d) d == rR D N s a)
def rnx' (D : tF) (N s a : Nat) : Int := fnd (rnP D N s a) N
theorem rmn_at {f D : tF} {s a : Nat} (h0 : s ≠ 0) : ∀ n, rmn f D s a n = 9999 ∨ ∃ d, d < n ∧ s.testBit d = true ∧ D a d + f (s - 2 ^ d) d = rmn f D s a n
  | 0 => by simp only [rmn]; rw [if_neg h0]; exact Or.inl rfl
  | n + 1 => by
    simp only [rmn]
    by_cases q : s.testBit n = true
    · rw [if_pos q]
      by_cases e : rmn f D s a n ≤ D a n + f (s - 2 ^ n) n
      · rw [Nat.min_eq_left e]
        rcases rmn_at (f := f) (D := D) (a := a) h0 n with h | ⟨d, h1, h2⟩
        · exact Or.inl h
        · exact Or.inr ⟨d, by omega, h2⟩
      · rw [Nat.min_eq_right (by omega)]
        exact Or.inr ⟨n, by omega, q, rfl⟩
    · rw [if_neg q]
      rcases rmn_at (f := f) (D := D) (a := a) h0 n with h | ⟨d, h1, h2⟩
      · exact Or.inl h
      · exact Or.inr ⟨d, by omega, h2⟩
theorem fnd_ex {p : Nat → Bool} {n d : Nat} (hd : d < n) (h : p d = true) : ∃ i, i < n ∧ p i = true ∧ fnd p n = (i : Int) ∧ ∀ j, j < i → p j = false := by
  rcases fbk_ch p n n (Nat.le_refl _) with ⟨h1, h2⟩ | ⟨i, h1, h2, h3, h4⟩
  · rw [h2 d (by omega) hd] at h; cases h
  · exact ⟨i, h1.2, h2, by rw [← fbk_fnd]; exact h3, fun j hj => h4 j (by omega) hj⟩
theorem rnx_ex {D : tF} {N s a : Nat} (hs : s < 256) (h0 : s ≠ 0) (hR : rR D N s a ≠ 9999) : ∃ i, i < N ∧ rnP D N s a i = true ∧ rnx' D N s a = (i : Int) ∧ ∀ j, j < i → rnP D N s a j = false := by
  rcases rmn_at (f := rR D N) (D := D) (a := a) h0 N with h | ⟨d, h1, h2, h3⟩
  · rw [← rR_eq hs] at h; exact absurd h hR
  · rw [← rR_eq hs] at h3
    exact fnd_ex h1 (by simp [rnP, h2, h3])
/-- what is left, and where he is, after k desks -/
def rod (D : tF) (N s a : Nat) : Nat → Nat × Nat
  | 0 => (s, a)
  | k + 1 => ((rod D N s a k).1 - 2 ^ (rnx' D N (rod D N s a k).1 (rod D N s a k).2).toNat, (rnx' D N (rod D N s a k).1 (rod D N s a k).2).toNat)
theorem rod_ok {D : tF} {N s a : Nat} (hN : N ≤ 8) (hD : dOK D N) (hs : s < 2 ^ N) (ha : a < N) (hR : rR D N s a ≠ 9999) : ∀ k, k ≤ popc s → subB (rod D N s a k).1 s ∧ (rod D N s a k).1 < 256 ∧ (rod D N s a k).2 < N ∧ rR D N (rod D N s a k).1 (rod D N s a k).2 ≠ 9999 ∧ popc (rod D N s a k).1 + k = popc s ∧ ((rod D N s a k).2 = a ∧ k = 0 ∨ s.testBit (rod D N s a k).2 = true ∧ (rod D N s a k).1.testBit (rod D N s a k).2 = false)
  | 0, _ => ⟨fun _ h => h, by
      have : 2 ^ N ≤ 2 ^ 8 := Nat.pow_le_pow_right (by omega) hN
      show s < 256
      omega, ha, hR, rfl, Or.inl ⟨rfl, rfl⟩⟩
  | k + 1, hk => by
    obtain ⟨h1, h2, h3, h4, h5, h6⟩ := rod_ok hN hD hs ha hR k (by omega)
    have h0 : (rod D N s a k).1 ≠ 0 := by
      intro e
      rw [e] at h5
      have : popc 0 = 0 := by decide
      omega
    obtain ⟨i, e1, e2, e3, e4⟩ := rnx_ex h2 h0 h4
    simp only [rnP, Bool.and_eq_true, beq_iff_eq] at e2
    have e5 := p2_le e2.1
    simp only [rod, e3, Int.toNat_natCast]
    have e6 := rR_le (D := D) (N := N) (a := (rod D N s a k).2) h2
    have e7 : 0 < 2 ^ i := Nat.pow_pos (by omega)
    have e8 := rR_le (D := D) (N := N) (s := (rod D N s a k).1 - 2 ^ i) (a := i) (by omega)
    refine ⟨subB_sub (by omega) (by omega) e2.1 h1, by omega, e1, by omega, ?_, Or.inr ⟨h1 i e2.1, ?_⟩⟩
    · have := sub_popc (show (rod D N s a k).1 < 65536 by omega) (show i < 16 by omega) e2.1
      omega
    · rw [sub_bit (by omega) (by omega) e2.1]; simp
/-- what round() tells -/
def rdZ (D : tF) (N s a st : Nat) (i : Int) : Int := if rR D N s a = 9999 then -1 else if i = -1 then (rR D N s a + st * popc s : Nat) else ((rod D N s a (i.toNat + 1)).2 : Int)
