/-! NUMBERS of the small machine, and what the two sides are told in -/
theorem iI_add (a b : Int) : iI a + iI b = iI (a + b) := (Int32.ofInt_add a b).symm
theorem iI_sub (a b : Int) : iI a - iI b = iI (a - b) := (Int32.ofInt_sub a b).symm
theorem iI_mul (a b : Int) : iI a * iI b = iI (a * b) := (Int32.ofInt_mul a b).symm
theorem iI_neg (a : Int) : -iI a = iI (-a) := (Int32.ofInt_neg a).symm
theorem iI_lt {a b : Int} (h1 : -2147483648 ≤ a) (h2 : a ≤ 2147483647) (h3 : -2147483648 ≤ b) (h4 : b ≤ 2147483647) : (iI a < iI b) = (a < b) := by
  rw [Int32.lt_iff_toInt_lt, iI_toInt h1 h2, iI_toInt h3 h4]
theorem iI_le {a b : Int} (h1 : -2147483648 ≤ a) (h2 : a ≤ 2147483647) (h3 : -2147483648 ≤ b) (h4 : b ≤ 2147483647) : (iI a ≤ iI b) = (a ≤ b) := by
  rw [Int32.le_iff_toInt_le, iI_toInt h1 h2, iI_toInt h3 h4]
theorem iI_eq {a b : Int} (h1 : -2147483648 ≤ a) (h2 : a ≤ 2147483647) (h3 : -2147483648 ≤ b) (h4 : b ≤ 2147483647) : (iI a = iI b) = (a = b) := by
  apply propext
  rw [← Int32.toInt_inj, iI_toInt h1 h2, iI_toInt h3 h4]
theorem iI_ex (x : Int32) : ∃ z : Int, (-2147483648 ≤ z ∧ z ≤ 2147483647) ∧ x = iI z := by
  refine ⟨x.toInt, ⟨?_, ?_⟩, (iI_of x).symm⟩
  · have := Int32.le_toInt x
    omega
  · have := Int32.toInt_lt x
    omega
theorem iI_div {a b : Int} (h1 : 0 ≤ a) (h2 : a ≤ 2147483647) (h3 : 0 < b) (h4 : b ≤ 2147483647) : iI a / iI b = iI (a / b) := by
  apply Int32.toInt_inj.mp
  have hne : iI b ≠ -1 := by
    intro q
    have h5 := congrArg Int32.toInt q
    rw [iI_toInt (by omega) h4] at h5
    have : (-1 : Int32).toInt = -1 := by decide
    omega
  have hq : a / b ≤ a := Int.ediv_le_self b h1
  have hq0 : 0 ≤ a / b := Int.ediv_nonneg h1 (by omega)
  rw [Int32.toInt_div_of_ne_right _ _ hne, iI_toInt (by omega) h2, iI_toInt (by omega) h4, iI_toInt (by omega) (by omega), Int.tdiv_eq_ediv_of_nonneg h1]
theorem irm_iI {a b : Int} (h1 : 0 ≤ a) (h2 : a ≤ 2147483647) (h3 : 0 < b) (h4 : b ≤ 2147483647) : irm (iI a) (iI b) = iI (a % b) := by
  unfold irm
  rw [iI_div h1 h2 h3 h4, iI_mul, iI_sub, Int.emod_def, Int.mul_comm]
theorem mxI_iI {a b : Int} (h1 : -2147483648 ≤ a) (h2 : a ≤ 2147483647) (h3 : -2147483648 ≤ b) (h4 : b ≤ 2147483647) : mxI (iI a) (iI b) = iI (max a b) := by
  unfold mxI
  simp only [iI_lt h1 h2 h3 h4]
  by_cases h : a < b
  · rw [if_pos h, Int.max_eq_right (by omega)]
  · rw [if_neg h, Int.max_eq_left (by omega)]
theorem mnI_iI {a b : Int} (h1 : -2147483648 ≤ a) (h2 : a ≤ 2147483647) (h3 : -2147483648 ≤ b) (h4 : b ≤ 2147483647) : mnI (iI a) (iI b) = iI (min a b) := by
  unfold mnI
  simp only [iI_lt h3 h4 h1 h2]
  by_cases h : b < a
  · rw [if_pos h, Int.min_eq_right (by omega)]
  · rw [if_neg h, Int.min_eq_left (by omega)]
/-- longs -/
theorem jJ_toInt {z : Int} (h1 : -9223372036854775808 ≤ z) (h2 : z ≤ 9223372036854775807) : (jJ z).toInt = z := Int64.toInt_ofInt_of_le (by omega) (by omega)
theorem iI_long {z : Int} (h1 : -2147483648 ≤ z) (h2 : z ≤ 2147483647) : (iI z).toInt64 = jJ z := by
  apply Int64.toInt_inj.mp
  rw [Int32.toInt_toInt64, iI_toInt h1 h2, jJ_toInt (by omega) (by omega)]
theorem jJ_int (z : Int) : (jJ z).toInt32 = iI z := by
  unfold jJ iI
  rw [Int64.toInt32_ofInt]
theorem jJ_cmp {a b : Int} (h1 : -9223372036854775808 ≤ a) (h2 : a ≤ 9223372036854775807) (h3 : -9223372036854775808 ≤ b) (h4 : b ≤ 9223372036854775807) : lg_cmp (jJ a) (jJ b) = iI (if b < a then 1 else if a = b then 0 else -1) := by
  unfold lg_cmp
  simp only [gt_iff_lt, Int64.lt_iff_toInt_lt, ← Int64.toInt_inj, jJ_toInt h1 h2, jJ_toInt h3 h4]
  repeat' split
  all_goals rfl
def bi (p : Prop) [Decidable p] : Int32 := if p then iI 1 else iI 0
theorem bi_t {p : Prop} [Decidable p] (h : p) : bi p = iI 1 := if_pos h
theorem bi_f {p : Prop} [Decidable p] (h : ¬ p) : bi p = iI 0 := if_neg h
theorem bi_tr {i : Decidable True} : @bi True i = iI 1 := if_pos trivial
theorem bi_fa {i : Decidable False} : @bi False i = iI 0 := if_neg (fun h => h)
theorem bi_0 {p : Prop} [Decidable p] : (bi p = iI 0) = ¬ p := by
  by_cases h : p
  · rw [bi_t h]; simp [h]; decide
  · rw [bi_f h]; simp [h]
theorem bi_1 {p : Prop} [Decidable p] : (bi p = iI 1) = p := by
  by_cases h : p
  · rw [bi_t h]; simp [h]
  · rw [bi_f h]; simp [h]; decide
theorem i00 : (iI 0 = iI 0 ∨ iI 0 = iI 1) = True := by simp
theorem i11 : (iI 1 = iI 0 ∨ iI 1 = iI 1) = True := by simp
theorem ibi {p : Prop} [Decidable p] : (bi p = iI 0 ∨ bi p = iI 1) = True := by rw [bi_0, bi_1]; by_cases h : p <;> simp [h]
theorem inb_t {z w : Int} (h1 : 0 ≤ z) (h2 : z < w) : (0 ≤ z ∧ z < w) = True := by simp [h1, h2]
theorem inb_I {z : Int} {n : Nat} (h1 : 0 ≤ z) (h2 : z < (n : Int)) (h3 : n ≤ 100000) : inb (iI z) n = True := by
  unfold inb
  rw [iI_toInt (by omega) (by omega)]
  simp [h1, h2]
theorem ltT {a b : Int} (h : a < b) : (a < b) = True := eq_true h
theorem ltF {a b : Int} (h : b ≤ a) : (a < b) = False := eq_false (by omega)
theorem leT {a b : Int} (h : a ≤ b) : (a ≤ b) = True := eq_true h
theorem leF {a b : Int} (h : b < a) : (a ≤ b) = False := eq_false (by omega)
theorem eqT {a b : Int} (h : a = b) : (a = b) = True := eq_true h
theorem eqF {a b : Int} (h : ¬ a = b) : (a = b) = False := eq_false h
theorem tn_n (n : Nat) : ((n : Int)).toNat = n := Int.toNat_natCast n
theorem tn_1 (n : Nat) : ((n : Int) + 1).toNat = n + 1 := by omega
theorem tn_8 (a b : Nat) : (8 * (a : Int) + (b : Int)).toNat = 8 * a + b := by omega
theorem tn_5 (a : Nat) : (5 * (a : Int)).toNat = 5 * a := by omega
theorem tn_5k (a k : Nat) : (5 * (a : Int) + (OfNat.ofNat k : Int)).toNat = 5 * a + k := by
  have : (OfNat.ofNat k : Int) = (k : Int) := rfl
  omega
/-- memory: the rows outside a list stay -/
def Sm (l : List Nat) (M M' : tM) : Prop := ∀ a, a ∉ l → M'.1 a = M.1 a ∧ M'.2 a = M.2 a
theorem Sm_rf (l : List Nat) (M : tM) : Sm l M M := fun _ _ => ⟨rfl, rfl⟩
theorem Sm_tr {l : List Nat} {M M' M'' : tM} (h : Sm l M M') (h' : Sm l M' M'') : Sm l M M'' := fun a ha => ⟨(h' a ha).1.trans (h a ha).1, (h' a ha).2.trans (h a ha).2⟩
theorem Sm_mono {l l' : List Nat} {M M' : tM} (hl : ∀ a ∈ l, a ∈ l') (h : Sm l M M') : Sm l' M M' := fun a ha => h a (fun q => ha (hl a q))
theorem Sm_sI {l : List Nat} {M : tM} {a k : Nat} {v : Int32} (h : a ∈ l) : Sm l M (sI M a k v) := fun b hb => ⟨by funext y; simp only [sI]; rw [if_neg]; rintro ⟨rfl, -⟩; exact hb h, rfl⟩
theorem Sm_sJ {l : List Nat} {M : tM} {a k : Nat} {v : Int64} (h : a ∈ l) : Sm l M (sJ M a k v) := fun b hb => ⟨rfl, by funext y; simp only [sJ]; rw [if_neg]; rintro ⟨rfl, -⟩; exact hb h⟩
theorem Sm_rI {l : List Nat} {M : tM} {a : Nat} {f : Nat → Int32} (h : a ∈ l) : Sm l M (rI M a f) := fun b hb => ⟨by simp only [rI]; rw [if_neg]; rintro rfl; exact hb h, rfl⟩
theorem Sm_rJ {l : List Nat} {M : tM} {a : Nat} {f : Nat → Int64} (h : a ∈ l) : Sm l M (rJ M a f) := fun b hb => ⟨rfl, by simp only [rJ]; rw [if_neg]; rintro rfl; exact hb h⟩
theorem sI_s (M : tM) (a k : Nat) (v : Int32) : (sI M a k v).1 a k = v := if_pos ⟨rfl, rfl⟩
theorem sI_k (M : tM) {a k k' : Nat} (v : Int32) (h : k' ≠ k) : (sI M a k v).1 a k' = M.1 a k' := if_neg fun q => h q.2
theorem sI_a (M : tM) {a a' k : Nat} (v : Int32) (h : a' ≠ a) : (sI M a k v).1 a' = M.1 a' := by funext y; exact if_neg fun q => h q.1
theorem sI_2 (M : tM) (a k : Nat) (v : Int32) : (sI M a k v).2 = M.2 := rfl
theorem sJ_1 (M : tM) (a k : Nat) (v : Int64) : (sJ M a k v).1 = M.1 := rfl
theorem rI_s (M : tM) (a : Nat) (f : Nat → Int32) : (rI M a f).1 a = f := if_pos rfl
theorem rI_a (M : tM) {a a' : Nat} (f : Nat → Int32) (h : a' ≠ a) : (rI M a f).1 a' = M.1 a' := if_neg h
theorem rI_2 (M : tM) (a : Nat) (f : Nat → Int32) : (rI M a f).2 = M.2 := rfl
/-- the ministry, as numbers: counts and pressure, desks, tubes, capsules; minutes and seed as ints -/
abbrev tK : Type := (Nat → Nat → Nat) × Int32 × Int32
def kD (K : tK) : Nat := K.1 0 0
def kT (K : tK) : Nat := K.1 0 1
def kC (K : tK) : Nat := K.1 0 2
def kP (K : tK) : Nat := K.1 0 3
def kS (K : tK) (d : Nat) : Nat := K.1 1 d
def kF (K : tK) (t : Nat) : Nat := K.1 2 t
def kO (K : tK) (t : Nat) : Nat := K.1 3 t
def kL (K : tK) (t : Nat) : Nat := K.1 4 t
def kB (K : tK) (t : Nat) : Nat := K.1 5 t
def kH (K : tK) (t : Nat) : Nat := K.1 6 t
def kK (K : tK) (c : Nat) : Nat := K.1 7 c
def kA (K : tK) (c : Nat) : Nat := K.1 8 c
def kW (K : tK) (c : Nat) : Nat := K.1 9 c
def kX (K : tK) (c : Nat) : Nat := K.1 10 c
def kM (K : tK) : Int32 := K.2.1
def kZ (K : tK) : Int32 := K.2.2
/-- bits -/
def bts (p : Nat → Bool) : Nat → Nat
  | 0 => 0
  | n + 1 => bts p n + if p n then 2 ^ n else 0
theorem bts_lt (p : Nat → Bool) : ∀ n, bts p n < 2 ^ n
  | 0 => by simp [bts]
  | n + 1 => by
    have := bts_lt p n
    simp only [bts, Nat.pow_succ]
    split <;> omega
theorem bts_cong {p q : Nat → Bool} : ∀ {n : Nat}, (∀ i, i < n → p i = q i) → bts p n = bts q n
  | 0, _ => rfl
  | n + 1, h => by simp only [bts]; rw [bts_cong (fun i hi => h i (by omega)), h n (by omega)]
theorem bts_bit (p : Nat → Bool) : ∀ (n i : Nat), (bts p n).testBit i = (decide (i < n) && p i)
  | 0, i => by simp [bts]
  | n + 1, i => by
    have hl := bts_lt p n
    simp only [bts]
    by_cases hp : p n = true
    · rw [if_pos hp]
      by_cases hi : i = n
      · subst hi
        rw [Nat.add_comm, Nat.testBit_two_pow_add_eq, bts_bit p i i]
        simp [hp]
      · by_cases hlt : i < n
        · rw [Nat.add_comm, Nat.testBit_two_pow_add_gt hlt, bts_bit p n i]
          simp [hlt, Nat.lt_succ_of_lt hlt]
        · have h1 : (bts p n + 2 ^ n).testBit i = false := Nat.testBit_lt_two_pow (by
            have : 2 ^ (n + 1) ≤ 2 ^ i := Nat.pow_le_pow_right (by omega) (by omega)
            rw [Nat.pow_succ] at this
            omega)
          rw [h1]
          simp [show ¬ i < n + 1 by omega]
    · rw [if_neg hp, Nat.add_zero, bts_bit p n i]
      by_cases hi : i = n
      · subst hi
        simp at hp
        simp [hp]
      · by_cases hlt : i < n
        · simp [hlt, Nat.lt_succ_of_lt hlt]
        · simp [hlt, show ¬ i < n + 1 by omega]
/-- what always holds of a ministry -/
def kInv (K : tK) : Prop := kD K ≤ 8 ∧ kT K ≤ 16 ∧ kC K ≤ 5 ∧ (1 ≤ kP K ∧ kP K ≤ 9) ∧ (∀ d, d < kD K → kS K d ≤ 999) ∧
  (∀ t, t < kT K → (kF K t < kD K ∧ kO K t < kD K ∧ kF K t ≠ kO K t) ∧ (1 ≤ kL K t ∧ kL K t ≤ 9) ∧ (1 ≤ kB K t ∧ kB K t ≤ 9) ∧ kH K t ≤ 1) ∧
  ∀ c, c < kC K → kK K c ≤ 6 ∧ kA K c ≤ 9 ∧ (1 ≤ kW K c ∧ kW K c ≤ 9) ∧ kX K c < kD K
def shb (K : tK) : Nat := bts (fun t => kH K t == 1) (kT K)
theorem kI_t {K : tK} (h : kInv K) {t : Nat} (ht : t < kT K) : (kF K t < kD K ∧ kO K t < kD K ∧ kF K t ≠ kO K t) ∧ (1 ≤ kL K t ∧ kL K t ≤ 9) ∧ (1 ≤ kB K t ∧ kB K t ≤ 9) ∧ kH K t ≤ 1 := h.2.2.2.2.2.1 t ht
theorem kI_c {K : tK} (h : kInv K) {c : Nat} (hc : c < kC K) : kK K c ≤ 6 ∧ kA K c ≤ 9 ∧ (1 ≤ kW K c ∧ kW K c ≤ 9) ∧ kX K c < kD K := h.2.2.2.2.2.2 c hc
theorem kI_n {K : tK} (h : kInv K) : kD K ≤ 8 ∧ kT K ≤ 16 ∧ kC K ≤ 5 ∧ (1 ≤ kP K ∧ kP K ≤ 9) := ⟨h.1, h.2.1, h.2.2.1, h.2.2.2.1⟩
/-- upward quotient -/
def cup (x p : Int) : Int := (x + p - 1) / p
/-- TIME -/
def tmK (K : tK) (c t : Nat) (p : Int) : Int :=
  if kK K c = 5 then (kL K t : Int)
  else if kK K c = 1 then max 1 (cup ((kL K t : Int) * (kW K c : Int)) p - 1)
  else if kK K c = 2 then max 1 (cup ((kL K t : Int) * (kW K c : Int)) (10 - p) - 1)
  else if kK K c = 6 then max 1 (cup ((kL K t : Int) * (kW K c : Int)) (10 - p) - 1) + (if kB K t = kW K c then 2 else 0)
  else if kK K c = 3 ∨ kK K c = 4 then cup ((kL K t : Int) * (kW K c : Int)) p + (kA K c : Int)
  else cup ((kL K t : Int) * (kW K c : Int)) p
/-- whether a capsule may go through a tube (back: from TO to FROM) -/
def mayK (K : tK) (c t : Nat) (back : Bool) : Bool := kK K c == 5 || (kH K t == 0 && decide (kW K c ≤ kB K t) && !(back && kK K c == 4))
/-- the cells of a ministry from b on tell K -/
def Rep (M : tM) (b : Nat) (K : tK) : Prop := (M.1 b 0 = iI (kD K) ∧ M.1 b 2 = iI (kT K) ∧ M.1 b 8 = iI (kC K) ∧ M.1 b 13 = iI (kP K) ∧ M.1 b 14 = kM K ∧ M.1 b 15 = kZ K ∧ M.1 b 7 = iI (shb K)) ∧
  (∀ d, d < kD K → M.1 (b + 1) d = iI (kS K d)) ∧
  (∀ t, t < kT K → M.1 (b + 2) t = iI (kF K t) ∧ M.1 (b + 3) t = iI (kO K t) ∧ M.1 (b + 4) t = iI (kL K t) ∧ M.1 (b + 5) t = iI (kB K t)) ∧
  ∀ c, c < kC K → M.1 (b + 6) c = iI (kK K c) ∧ M.1 (b + 7) c = iI (kA K c) ∧ M.1 (b + 8) c = iI (kW K c) ∧ M.1 (b + 9) c = iI (kX K c)
/-- the reference's row r tells K -/
def RepN (M : tM) (r : Nat) (K : tK) : Prop := (M.1 r 108 = iI (kD K) ∧ M.1 r 109 = iI (kT K) ∧ M.1 r 110 = iI (kC K) ∧ M.1 r 111 = iI (kP K) ∧ M.1 r 112 = kM K ∧ M.1 r 113 = kZ K) ∧
  (∀ d, d < kD K → M.1 r (80 + d) = iI (kS K d)) ∧
  (∀ t, t < kT K → M.1 r (5 * t) = iI (kF K t) ∧ M.1 r (5 * t + 1) = iI (kO K t) ∧ M.1 r (5 * t + 2) = iI (kL K t) ∧ M.1 r (5 * t + 3) = iI (kB K t) ∧ M.1 r (5 * t + 4) = iI (kH K t)) ∧
  ∀ c, c < kC K → M.1 r (88 + 4 * c) = iI (kK K c) ∧ M.1 r (88 + 4 * c + 1) = iI (kA K c) ∧ M.1 r (88 + 4 * c + 2) = iI (kW K c) ∧ M.1 r (88 + 4 * c + 3) = iI (kX K c)
theorem Rep_eq {M M' : tM} {b : Nat} {K : tK} (h : Rep M b K) (he : ∀ i, i < 10 → M'.1 (b + i) = M.1 (b + i)) : Rep M' b K := by
  have h0 := he 0 (by omega)
  rw [Nat.add_zero] at h0
  unfold Rep at h ⊢
  rw [h0, he 1 (by omega), he 2 (by omega), he 3 (by omega), he 4 (by omega), he 5 (by omega), he 6 (by omega), he 7 (by omega), he 8 (by omega), he 9 (by omega)]
  exact h
theorem RepN_eq {M M' : tM} {r : Nat} {K : tK} (h : RepN M r K) (he : M'.1 r = M.1 r) : RepN M' r K := by
  unfold RepN at h ⊢
  rw [he]
  exact h
theorem Rep_Sm {l : List Nat} {M M' : tM} {b : Nat} {K : tK} (h : Rep M b K) (hs : Sm l M M') (hl : ∀ a ∈ l, a < b ∨ b + 10 ≤ a) : Rep M' b K :=
  Rep_eq h fun i hi => (hs (b + i) (fun q => by have := hl _ q; omega)).1
theorem RepN_Sm {l : List Nat} {M M' : tM} {r : Nat} {K : tK} (h : RepN M r K) (hs : Sm l M M') (hl : r ∉ l) : RepN M' r K := RepN_eq h (hs r hl).1
