/-! BITS of small ints -/
theorem iI_oN (n : Nat) : iI (n : Int) = Int32.ofNat n := (iI_nat n).symm
theorem oN_and (a b : Nat) : Int32.ofNat a &&& Int32.ofNat b = Int32.ofNat (a &&& b) := by
  apply Int32.toBitVec.inj
  show BitVec.ofNat 32 a &&& BitVec.ofNat 32 b = BitVec.ofNat 32 (a &&& b)
  exact BitVec.ofNat_and.symm
theorem oN_or (a b : Nat) : Int32.ofNat a ||| Int32.ofNat b = Int32.ofNat (a ||| b) := by
  apply Int32.toBitVec.inj
  show BitVec.ofNat 32 a ||| BitVec.ofNat 32 b = BitVec.ofNat 32 (a ||| b)
  exact BitVec.ofNat_or.symm
theorem oN_xor (a b : Nat) : Int32.ofNat a ^^^ Int32.ofNat b = Int32.ofNat (a ^^^ b) := by
  apply Int32.toBitVec.inj
  show BitVec.ofNat 32 a ^^^ BitVec.ofNat 32 b = BitVec.ofNat 32 (a ^^^ b)
  exact BitVec.ofNat_xor.symm
theorem iI_and (a b : Nat) : iI (a : Int) &&& iI (b : Int) = iI ((a &&& b : Nat) : Int) := by rw [iI_oN, iI_oN, iI_oN, oN_and]
theorem iI_or (a b : Nat) : iI (a : Int) ||| iI (b : Int) = iI ((a ||| b : Nat) : Int) := by rw [iI_oN, iI_oN, iI_oN, oN_or]
theorem sh5 : ∀ t : Nat, t < 32 → ((iI (t : Int) &&& 31).toBitVec.smod 32).toNat = t := by decide +kernel
theorem iI_shl {a t : Nat} (ht : t < 32) (h : a * 2 ^ t < 4294967296) : iI (a : Int) <<< (iI (t : Int) &&& 31) = iI ((a * 2 ^ t : Nat) : Int) := by
  rw [iI_oN a, iI_oN (a * 2 ^ t)]
  exact pk_shlN _ t (sh5 t ht) h
theorem iI_shr {a t : Nat} (ha : a < 2147483648) (ht : t < 32) : iI (a : Int) >>> (iI (t : Int) &&& 31) = iI ((a / 2 ^ t : Nat) : Int) := by
  rw [iI_oN a, iI_oN (a / 2 ^ t)]
  exact pk_shrN ha _ t (sh5 t ht)
/-- 1 << t -/
theorem iI_shl1 {t : Nat} (ht : t < 31) : iI 1 <<< (iI (t : Int) &&& 31) = iI ((2 ^ t : Nat) : Int) := by
  have h : 1 * 2 ^ t < 4294967296 := by
    have : 2 ^ t ≤ 2 ^ 30 := Nat.pow_le_pow_right (by omega) (by omega)
    omega
  have := iI_shl (a := 1) (t := t) (by omega) h
  rw [Nat.one_mul] at this
  exact this
theorem p2_lt {t : Nat} (ht : t < 31) : 2 ^ t < 2147483648 := Nat.pow_lt_pow_right (by omega) ht
theorem and_p2 (n t : Nat) : n &&& 2 ^ t = if n.testBit t then 2 ^ t else 0 := by
  apply Nat.eq_of_testBit_eq
  intro i
  rw [Nat.testBit_and, Nat.testBit_two_pow]
  by_cases h : t = i
  · subst h
    by_cases hb : n.testBit t = true
    · rw [if_pos hb, Nat.testBit_two_pow]; simp [hb]
    · rw [if_neg hb]; simp at hb; simp [hb]
  · by_cases hb : n.testBit t = true
    · rw [if_pos hb, Nat.testBit_two_pow]; simp [h]
    · rw [if_neg hb]; simp [h]
/-- n & 1 << t -/
theorem bit_get {n t : Nat} (hn : n < 2147483648) (ht : t < 31) : (iI (n : Int) &&& iI ((2 ^ t : Nat) : Int) = iI 0) = (n.testBit t = false) := by
  have h2 := p2_lt ht
  have hp : 0 < 2 ^ t := Nat.pow_pos (by omega)
  rw [iI_and, and_p2]
  generalize 2 ^ t = q at h2 hp ⊢
  by_cases hb : n.testBit t = true
  · rw [if_pos hb, iI_eq (by omega) (by omega) (by omega) (by omega), hb]
    apply propext
    constructor
    · intro h; exact absurd h (by omega)
    · intro h; cases h
  · rw [if_neg hb]
    simp at hb
    rw [hb]
    simp
theorem bit_get1 {n t : Nat} (hn : n < 2147483648) (ht : t < 31) : (iI (n : Int) &&& iI ((2 ^ t : Nat) : Int) = iI 0) = ¬ (n.testBit t = true) := by
  rw [bit_get hn ht]; simp
/-- (n >> t) & 1 -/
theorem bit_sh {n t : Nat} (hn : n < 2147483648) (ht : t < 31) : (iI (n : Int) >>> (iI (t : Int) &&& 31)) &&& iI 1 = if n.testBit t then iI 1 else iI 0 := by
  rw [iI_shr hn (by omega)]
  have e : iI 1 = iI ((1 : Nat) : Int) := rfl
  rw [e, iI_and]
  have e2 : n / 2 ^ t &&& 1 = if n.testBit t then 1 else 0 := by
    rw [Nat.and_one_is_mod, Nat.testBit_eq_decide_div_mod_eq]
    have := Nat.mod_two_eq_zero_or_one (n / 2 ^ t)
    by_cases h : n / 2 ^ t % 2 = 1
    · simp [h]
    · simp [h]; omega
  rw [e2]
  split <;> rfl
theorem bts_set {p : Nat → Bool} {n t : Nat} (ht : t < n) : bts p n ||| 2 ^ t = bts (fun i => if i = t then true else p i) n := by
  apply Nat.eq_of_testBit_eq
  intro i
  rw [Nat.testBit_or, bts_bit, bts_bit, Nat.testBit_two_pow]
  by_cases h : i = t
  · subst h; simp [ht]
  · have h' : ¬ t = i := fun e => h e.symm
    simp [h, h']
/-- a bit at the end -/
theorem bts_or {p : Nat → Bool} {n : Nat} : bts p n ||| 2 ^ n = bts p n + 2 ^ n := by
  have hl := bts_lt p n
  rw [Nat.or_comm, Nat.add_comm]
  have := Nat.two_pow_add_eq_or_of_lt hl 1
  simpa using this.symm
theorem bts_next {p : Nat → Bool} {n : Nat} (h : p n = true) : bts p n ||| 2 ^ n = bts p (n + 1) := by
  rw [bts_or]; simp [bts, h]
theorem bts_skip {p : Nat → Bool} {n : Nat} (h : p n = false) : bts p n = bts p (n + 1) := by
  simp [bts, h]
theorem m1_oN : iI (-1) = Int32.ofNat 4294967295 := by decide
theorem bts_clr {p : Nat → Bool} {n t : Nat} (hn : n ≤ 31) (ht : t < 31) : iI (bts p n : Int) &&& (iI ((2 ^ t : Nat) : Int) ^^^ iI (-1)) = iI (bts (fun i => if i = t then false else p i) n : Int) := by
  rw [iI_oN, iI_oN, iI_oN, m1_oN, oN_xor, oN_and]
  congr 1
  apply Nat.eq_of_testBit_eq
  intro i
  rw [Nat.testBit_and, bts_bit, bts_bit, Nat.testBit_xor, Nat.testBit_two_pow, show (4294967295 : Nat) = 2 ^ 32 - 1 by decide, Nat.testBit_two_pow_sub_one]
  by_cases hi : i < n
  · by_cases h : i = t
    · subst h; simp [hi, show i < 32 by omega]
    · have h' : ¬ t = i := fun e => h e.symm
      simp [hi, h, h', show i < 32 by omega]
  · simp [hi]
/-- how many bits -/
def ctn (p : Nat → Bool) : Nat → Nat
  | 0 => 0
  | n + 1 => ctn p n + if p n then 1 else 0
theorem ctn_le (p : Nat → Bool) : ∀ n, ctn p n ≤ n
  | 0 => Nat.le_refl _
  | n + 1 => by have := ctn_le p n; simp only [ctn]; split <;> omega
theorem ctn_cong {p q : Nat → Bool} : ∀ {n : Nat}, (∀ i, i < n → p i = q i) → ctn p n = ctn q n
  | 0, _ => rfl
  | n + 1, h => by simp only [ctn]; rw [ctn_cong (fun i hi => h i (by omega)), h n (by omega)]
def popc (n : Nat) : Nat := ctn n.testBit 16
def bc1 (x : Int32) : Int32 := x - (ius x (iI 1) &&& iI 1431655765)
def bc2 (x : Int32) : Int32 := (x &&& iI 858993459) + (ius x (iI 2) &&& iI 858993459)
def bc3 (x : Int32) : Int32 := (x + ius x (iI 4)) &&& iI 252645135
def bc4 (x : Int32) : Int32 := x + ius x (iI 8)
def bc5 (x : Int32) : Int32 := x + ius x (iI 16)
def bcA (x : Int32) : Int32 := bc5 (bc4 (bc3 (bc2 (bc1 x)))) &&& iI 63
/-- the same of numbers -/
def nb1 (x : Nat) : Nat := x - (x / 2 &&& 1431655765)
def nb2 (x : Nat) : Nat := (x &&& 858993459) + (x / 4 &&& 858993459)
def nb3 (x : Nat) : Nat := (x + x / 16) &&& 252645135
def nb4 (x : Nat) : Nat := x + x / 256
def nb5 (x : Nat) : Nat := x + x / 65536
def nbA (x : Nat) : Nat := nb5 (nb4 (nb3 (nb2 (nb1 x)))) &&& 63
theorem oN_add (a b : Nat) : Int32.ofNat a + Int32.ofNat b = Int32.ofNat (a + b) := (Int32.ofNat_add a b).symm
theorem oN_sub {a b : Nat} (h : b ≤ a) : Int32.ofNat a - Int32.ofNat b = Int32.ofNat (a - b) := by
  rw [← iI_oN, ← iI_oN, ← iI_oN, iI_sub]
  congr 1
  omega
theorem oN_ius {a t : Nat} (ha : a < 4294967296) (ht : t < 32) : ius (Int32.ofNat a) (Int32.ofNat t) = Int32.ofNat (a / 2 ^ t) := by
  apply Int32.toBitVec.inj
  unfold ius
  have e : ((Int32.ofNat t).toUInt32 &&& Int32.toUInt32 31) = UInt32.ofNat t := by
    have key : ∀ t : Nat, t < 32 → ((Int32.ofNat t).toUInt32 &&& Int32.toUInt32 31) = UInt32.ofNat t := by decide +kernel
    exact key t ht
  rw [e]
  show (UInt32.ofNat a >>> UInt32.ofNat t).toBitVec = BitVec.ofNat 32 (a / 2 ^ t)
  apply BitVec.eq_of_toNat_eq
  show (UInt32.ofNat a >>> UInt32.ofNat t).toNat = _
  rw [UInt32.toNat_shiftRight, UInt32.toNat_ofNat_of_lt' (show a < 4294967296 from ha), UInt32.toNat_ofNat_of_lt' (show t < 4294967296 by omega), BitVec.toNat_ofNat, Nat.shiftRight_eq_div_pow, Nat.mod_eq_of_lt ht]
  have : a / 2 ^ t ≤ a := Nat.div_le_self _ _
  rw [Nat.mod_eq_of_lt (by omega)]
theorem bcA_nb {n : Nat} (h : n < 65536) : bcA (iI (n : Int)) = iI (nbA n : Int) := by
  have a1 : n / 2 &&& 1431655765 ≤ n / 2 := Nat.and_le_left
  have a2 : nb1 n ≤ n := Nat.sub_le _ _
  have a3 : nb1 n &&& 858993459 ≤ nb1 n := Nat.and_le_left
  have a4 : nb1 n / 4 &&& 858993459 ≤ nb1 n / 4 := Nat.and_le_left
  have a5 : nb2 (nb1 n) < 2 * 65536 := by unfold nb2; omega
  have a6 : nb3 (nb2 (nb1 n)) ≤ nb2 (nb1 n) + nb2 (nb1 n) / 16 := Nat.and_le_left
  have a7 : nb4 (nb3 (nb2 (nb1 n))) < 4 * 65536 := by unfold nb4; omega
  have c (k : Nat) : iI (OfNat.ofNat k : Int) = Int32.ofNat k := iI_oN k
  rw [iI_oN, iI_oN]
  have e1 : bc1 (Int32.ofNat n) = Int32.ofNat (nb1 n) := by
    unfold bc1
    rw [show iI 1 = Int32.ofNat 1 from c 1, show iI 1431655765 = Int32.ofNat 1431655765 from c _, oN_ius (by omega) (by omega), oN_and, oN_sub (show n / 2 ^ 1 &&& 1431655765 ≤ n from Nat.le_trans a1 (Nat.div_le_self _ _))]
    rfl
  have e2 : bc2 (Int32.ofNat (nb1 n)) = Int32.ofNat (nb2 (nb1 n)) := by
    unfold bc2
    rw [show iI 2 = Int32.ofNat 2 from c _, show iI 858993459 = Int32.ofNat 858993459 from c _, oN_ius (by omega) (by omega), oN_and, oN_and, oN_add]
    rfl
  have e3 : bc3 (Int32.ofNat (nb2 (nb1 n))) = Int32.ofNat (nb3 (nb2 (nb1 n))) := by
    unfold bc3
    rw [show iI 4 = Int32.ofNat 4 from c _, show iI 252645135 = Int32.ofNat 252645135 from c _, oN_ius (by omega) (by omega), oN_add, oN_and]
    rfl
  have e4 : bc4 (Int32.ofNat (nb3 (nb2 (nb1 n)))) = Int32.ofNat (nb4 (nb3 (nb2 (nb1 n)))) := by
    unfold bc4
    rw [show iI 8 = Int32.ofNat 8 from c _, oN_ius (by omega) (by omega), oN_add]
    rfl
  have e5 : bc5 (Int32.ofNat (nb4 (nb3 (nb2 (nb1 n))))) = Int32.ofNat (nb5 (nb4 (nb3 (nb2 (nb1 n))))) := by
    unfold bc5
    rw [show iI 16 = Int32.ofNat 16 from c _, oN_ius (by omega) (by omega), oN_add]
    rfl
  unfold bcA
  rw [e1, e2, e3, e4, e5, show iI 63 = Int32.ofNat 63 from c _, oN_and]
  rfl
theorem popc_2 (n : Nat) (h : n < 65536) : popc n = n % 2 + popc (n / 2) := by
  have key : ∀ m, ctn n.testBit (m + 1) = n % 2 + ctn (n / 2).testBit m := by
    intro m
    induction m with
    | zero =>
      simp only [ctn, Nat.testBit_zero]
      have := Nat.mod_two_eq_zero_or_one n
      by_cases e : n % 2 = 1
      · simp [e]
      · simp [e]; omega
    | succ m ih =>
      rw [ctn, ih, ctn, Nat.testBit_succ]
      omega
  have h16 : n.testBit 16 = false := Nat.testBit_lt_two_pow (by omega)
  have h17 := key 15
  have h18 : ctn (n / 2).testBit 16 = ctn (n / 2).testBit 15 := by
    rw [ctn, if_neg (by rw [Nat.testBit_lt_two_pow (by omega)]; simp), Nat.add_zero]
  show ctn n.testBit 16 = n % 2 + ctn (n / 2).testBit 16
  rw [h18]
  exact h17
def nbT (a : Nat) : Nat → Bool
  | 0 => true
  | n + 1 => (nbA (256 * a + n) == (256 * a + n) % 2 + nbA ((256 * a + n) / 2)) && nbT a n
def nbU (a : Nat) : Nat → Bool
  | 0 => true
  | n + 1 => nbT (a + n) 256 && nbU a n
theorem nbU_0 : nbU 0 16 = true := by decide +kernel
theorem nbU_1 : nbU 16 16 = true := by decide +kernel
theorem nbU_2 : nbU 32 16 = true := by decide +kernel
theorem nbU_3 : nbU 48 16 = true := by decide +kernel
theorem nbU_4 : nbU 64 16 = true := by decide +kernel
theorem nbU_5 : nbU 80 16 = true := by decide +kernel
theorem nbU_6 : nbU 96 16 = true := by decide +kernel
theorem nbU_7 : nbU 112 16 = true := by decide +kernel
theorem nbU_8 : nbU 128 16 = true := by decide +kernel
theorem nbU_9 : nbU 144 16 = true := by decide +kernel
theorem nbU_10 : nbU 160 16 = true := by decide +kernel
theorem nbU_11 : nbU 176 16 = true := by decide +kernel
theorem nbU_12 : nbU 192 16 = true := by decide +kernel
theorem nbU_13 : nbU 208 16 = true := by decide +kernel
theorem nbU_14 : nbU 224 16 = true := by decide +kernel
theorem nbU_15 : nbU 240 16 = true := by decide +kernel
theorem nbT_get {a : Nat} : ∀ {n : Nat}, nbT a n = true → ∀ k, k < n → nbA (256 * a + k) = (256 * a + k) % 2 + nbA ((256 * a + k) / 2)
  | 0, _, k, hk => absurd hk (by omega)
  | n + 1, h, k, hk => by
    simp only [nbT, Bool.and_eq_true, beq_iff_eq] at h
    by_cases e : k = n
    · subst e; exact h.1
    · exact nbT_get h.2 k (by omega)
theorem nbU_get {a : Nat} : ∀ {n : Nat}, nbU a n = true → ∀ k, k < n → nbT (a + k) 256 = true
  | 0, _, k, hk => absurd hk (by omega)
  | n + 1, h, k, hk => by
    simp only [nbU, Bool.and_eq_true] at h
    by_cases e : k = n
    · subst e; exact h.1
    · exact nbU_get h.2 k (by omega)
theorem nbU_all {j : Nat} (h : j < 16) : nbU (16 * j) 16 = true := by
  rcases j with _ | _ | _ | _ | _ | _ | _ | _ | _ | _ | _ | _ | _ | _ | _ | _ | j
  · exact nbU_0
  · exact nbU_1
  · exact nbU_2
  · exact nbU_3
  · exact nbU_4
  · exact nbU_5
  · exact nbU_6
  · exact nbU_7
  · exact nbU_8
  · exact nbU_9
  · exact nbU_10
  · exact nbU_11
  · exact nbU_12
  · exact nbU_13
  · exact nbU_14
  · exact nbU_15
  · omega
theorem nbA_2 {n : Nat} (h : n < 65536) : nbA n = n % 2 + nbA (n / 2) := by
  have := nbT_get (nbU_get (nbU_all (j := n / 4096) (by omega)) (n / 256 % 16) (by omega)) (n % 256) (by omega)
  rwa [show 256 * (16 * (n / 4096) + n / 256 % 16) + n % 256 = n by omega] at this
theorem nbA_popc : ∀ (m n : Nat), n < m → n < 65536 → nbA n = popc n
  | 0, n, h, _ => absurd h (by omega)
  | m + 1, n, h, h2 => by
    by_cases e : n = 0
    · subst e; decide
    · rw [nbA_2 h2, popc_2 n h2, nbA_popc m (n / 2) (by omega) (by omega)]
theorem bcA_ok {n : Nat} (h : n < 65536) : bcA (iI (n : Int)) = iI (popc n : Int) := by
  rw [bcA_nb h, nbA_popc (n + 1) n (by omega) h]
theorem k_bitCount {D : Nat} (hD : 1 ≤ D) {M : tM} {n : Nat} (h : n < 65536) : exF D m_J6_bitCount_0f7a4 [.int (iI (n : Int))] M = some (some (.int (iI (popc n : Int))), M) := by
  obtain ⟨D, rfl⟩ : ∃ D0, D = D0 + 1 := ⟨D - 1, by omega⟩
  rw [← bcA_ok h]
  simp only [en_J6_bitCount_0f7a4, s_J6_bitCount_0f7a4_0, s_J6_bitCount_0f7a4_1, s_J6_bitCount_0f7a4_2, s_J6_bitCount_0f7a4_3, s_J6_bitCount_0f7a4_4, s_J6_bitCount_0f7a4_7, s_J6_bitCount_0f7a4_8, s_J6_bitCount_0f7a4_9, s_J6_bitCount_0f7a4_10, s_J6_bitCount_0f7a4_11, s_J6_bitCount_0f7a4_14, s_J6_bitCount_0f7a4_15, s_J6_bitCount_0f7a4_16, s_J6_bitCount_0f7a4_17, s_J6_bitCount_0f7a4_18, s_J6_bitCount_0f7a4_21, s_J6_bitCount_0f7a4_22, s_J6_bitCount_0f7a4_23, s_J6_bitCount_0f7a4_24, s_J6_bitCount_0f7a4_25, s_J6_bitCount_0f7a4_26, s_J6_bitCount_0f7a4_27, s_J6_bitCount_0f7a4_28, s_J6_bitCount_0f7a4_29, s_J6_bitCount_0f7a4_32, s_J6_bitCount_0f7a4_33, s_J6_bitCount_0f7a4_34, s_J6_bitCount_0f7a4_35, s_J6_bitCount_0f7a4_36, s_J6_bitCount_0f7a4_38, s_J6_bitCount_0f7a4_39, s_J6_bitCount_0f7a4_40, s_J6_bitCount_0f7a4_41, s_J6_bitCount_0f7a4_42, s_J6_bitCount_0f7a4_43, s_J6_bitCount_0f7a4_45, s_J6_bitCount_0f7a4_46, s_J6_bitCount_0f7a4_47, s_J6_bitCount_0f7a4_48, s_J6_bitCount_0f7a4_49, s_J6_bitCount_0f7a4_51, s_J6_bitCount_0f7a4_52]
  rfl
theorem popc_bts {p : Nat → Bool} {n : Nat} (hn : n ≤ 16) : popc (bts p n) = ctn p n := by
  have key : ∀ m, n ≤ m → ctn (bts p n).testBit m = ctn p n := by
    intro m
    induction m with
    | zero =>
      intro hm
      obtain rfl : n = 0 := by omega
      rfl
    | succ m ih =>
      intro hm
      by_cases e : n = m + 1
      · subst e
        exact ctn_cong (fun i hi => by rw [bts_bit]; simp [hi])
      · simp only [ctn]
        rw [ih (by omega), bts_bit]
        simp [show ¬ m < n by omega]
  exact key 16 hn
