/-! THE FIRST STATE -/
def K0 : tK := (fun a b => if a = 0 ∧ b = 3 then 5 else 0, 0, 1)
def Q0 : tQ := (fun _ => -1, fun _ => 0, fun _ _ => 0)
def S0 : tS := (K0, K0, false, Q0, fun _ => 0, -1, 0, fun _ => 0)
theorem z00 : (0 : Int32) = iI 0 := by decide
theorem z05 : (5 : Int32) = iI 5 := by decide
theorem zm1 : (-1 : Int32) = iI (-1) := by decide
section FST
variable {xs : Nat → Int32} {L : Nat}
theorem rep0 : Rep (m0 xs L) 0 K0 := ⟨⟨z00, z00, z00, z05, rfl, rfl, z00⟩, fun d hd => absurd hd (Nat.not_lt_zero d), fun t ht => absurd ht (Nat.not_lt_zero t), fun c hc => absurd hc (Nat.not_lt_zero c)⟩
theorem rep10 : Rep (m0 xs L) 10 K0 := ⟨⟨z00, z00, z00, z05, rfl, rfl, z00⟩, fun d hd => absurd hd (Nat.not_lt_zero d), fun t ht => absurd ht (Nat.not_lt_zero t), fun c hc => absurd hc (Nat.not_lt_zero c)⟩
theorem abk0 : ∀ i, i < 7 → f120 i = iI (abK i) := by decide +kernel
theorem abk1 : ∀ i, i < 7 → f99 i = iI (abK i) := by decide +kernel
theorem hld0 : ∀ i, i < 8 → f31 i = iI (-1) := by decide +kernel
theorem hld1 : ∀ i, i < 8 → f95 i = iI (-1) := by decide +kernel
theorem relC0 : RelC S0 (m0 xs L) := ⟨rep0, rep10, fun s h8 => ⟨hld0 s h8, z00, fun i _ => rfl⟩, fun n _ _ => rfl, z00.trans (bi_f (by decide)).symm, zm1, z00, fun i _ h => absurd h (Nat.not_lt_zero i), abk0⟩
theorem repN0 : RepN (m0 xs L) 92 K0 := ⟨⟨(by decide +kernel : f92 108 = iI 0), (by decide +kernel : f92 109 = iI 0), (by decide +kernel : f92 110 = iI 0), (by decide +kernel : f92 111 = iI 5), (by decide +kernel : f92 112 = 0), (by decide +kernel : f92 113 = 1)⟩, fun d hd => absurd hd (Nat.not_lt_zero d), fun t ht => absurd ht (Nat.not_lt_zero t), fun c hc => absurd hc (Nat.not_lt_zero c)⟩
theorem relR0 : RelR S0 (m0 xs L) := ⟨repN0, fun h => absurd h (by decide), fun s h8 => ⟨hld1 s h8, z00, fun i _ => rfl⟩, fun n _ _ => rfl, z00.trans (bi_f (by decide)).symm, zm1, z00, fun i _ h => absurd h (Nat.not_lt_zero i), abk1⟩
theorem kinv0 : kInv K0 := ⟨by decide, by decide, by decide, by decide, fun d hd => absurd hd (Nat.not_lt_zero d), fun t ht => absurd ht (Nat.not_lt_zero t), fun c hc => absurd hc (Nat.not_lt_zero c)⟩
theorem sinv0 : sInv S0 := ⟨kinv0, kinv0, fun s _ => (by decide : ((-1 : Int) ≤ -1 ∧ (-1 : Int) ≤ 103) ∧ (0 : Nat) ≤ 160), fun s _ h => absurd h (by decide : ¬ (0 : Int) ≤ -1), by decide, by decide, fun i => (by decide : (-1 : Int) ≤ 0 ∧ (0 : Int) ≤ 100)⟩
theorem lw_run (hL : L ≤ 3072) : ∃ (n : Nat) (M' : tM), runN (exF 64) C_L_law n 16 [some (.ref 121), some (.ref 88), some (.ref 90), none] [] (m0 xs L) = some (some (.int (iI 1)), M') := by
  obtain ⟨M', h⟩ := lw_loop (D := 64) (Nat.le_refl 64) (n := L) (by omega) (L + 1) 0 (m0 xs L) S0 (by omega) (by omega) relC0 relR0 sinv0 (fun N hN => by
    show (N.1 122 0).toInt.toNat = L
    rw [hN.2]
    show (Int32.ofNat L).toInt.toNat = L
    rw [Int32.toInt_ofNat_of_lt (by omega)]
    rfl)
  have h2 : rn (exF 64) C_L_law 16 [some (.ref 121), some (.ref 88), some (.ref 90), none] [] (m0 xs L) = some (some (.int (iI 1)), M') := by
    rw [s_L_law_16, s_L_law_17]
    exact h
  obtain ⟨n, hn⟩ := rn_ex h2
  exact ⟨n, M', hn⟩
end FST
