/-! WHAT STANDS AT THE START: the table of kinds, the texts, the nest words -/
def f120 : Nat → Int32 := fun j => [-1, 0, 1, 0, 3, 0, 2].getD j 0
section STA
variable {s : State} {b : Nat}
theorem st_el (hs : ∀ c ∈ flatC (Jvm.Cond.and given_1 narrow_1), c.before #[Value.ref b] s = true) : ∀ i : Nat, i < 7 → (Term.elem (.static "TubesOfCourt" "KIND_ABOVE" "[I") (.int (Int32.ofNat i))).eval #[Value.ref b] s none [] s = some (.int (f120 i)) := fun i hi => by
    match i, hi with
    | 0, _ => exact va_eqt (hs _ (by decide +kernel))
    | 1, _ => exact va_eqt (hs _ (by decide +kernel))
    | 2, _ => exact va_eqt (hs _ (by decide +kernel))
    | 3, _ => exact va_eqt (hs _ (by decide +kernel))
    | 4, _ => exact va_eqt (hs _ (by decide +kernel))
    | 5, _ => exact va_eqt (hs _ (by decide +kernel))
    | 6, _ => exact va_eqt (hs _ (by decide +kernel))
    | i + 7, hi => exact absurd hi (by omega)
theorem st_ex (hs : ∀ c ∈ flatC (Jvm.Cond.and given_1 narrow_1), c.before #[Value.ref b] s = true) : ∀ i : Nat, i < 6 → (Cond.exactly (.string "TubesOfCourt$PlanReader" (93 + 2 * i)) "java/lang/String").before #[Value.ref b] s = true := fun i hi => by
    match i, hi with
    | 0, _ => exact hs _ (by decide +kernel)
    | 1, _ => exact hs _ (by decide +kernel)
    | 2, _ => exact hs _ (by decide +kernel)
    | 3, _ => exact hs _ (by decide +kernel)
    | 4, _ => exact hs _ (by decide +kernel)
    | 5, _ => exact hs _ (by decide +kernel)
    | i + 6, hi => exact absurd hi (by omega)
theorem st_co (hs : ∀ c ∈ flatC (Jvm.Cond.and given_1 narrow_1), c.before #[Value.ref b] s = true) : ∀ i : Nat, i < 6 → (Cond.eq (.field (.string "TubesOfCourt$PlanReader" (93 + 2 * i)) "java/lang/String" "coder" "B") (.int 0)).before #[Value.ref b] s = true := fun i hi => by
    match i, hi with
    | 0, _ => exact hs _ (by decide +kernel)
    | 1, _ => exact hs _ (by decide +kernel)
    | 2, _ => exact hs _ (by decide +kernel)
    | 3, _ => exact hs _ (by decide +kernel)
    | 4, _ => exact hs _ (by decide +kernel)
    | 5, _ => exact hs _ (by decide +kernel)
    | i + 6, hi => exact absurd hi (by omega)
theorem st_ar (hs : ∀ c ∈ flatC (Jvm.Cond.and given_1 narrow_1), c.before #[Value.ref b] s = true) : ∀ i : Nat, i < 6 → (Cond.arrayOf (.field (.string "TubesOfCourt$PlanReader" (93 + 2 * i)) "java/lang/String" "value" "[B") .byte).before #[Value.ref b] s = true := fun i hi => by
    match i, hi with
    | 0, _ => exact hs _ (by decide +kernel)
    | 1, _ => exact hs _ (by decide +kernel)
    | 2, _ => exact hs _ (by decide +kernel)
    | 3, _ => exact hs _ (by decide +kernel)
    | 4, _ => exact hs _ (by decide +kernel)
    | 5, _ => exact hs _ (by decide +kernel)
    | i + 6, hi => exact absurd hi (by omega)
theorem st_le (hs : ∀ c ∈ flatC (Jvm.Cond.and given_1 narrow_1), c.before #[Value.ref b] s = true) : ∀ i : Nat, i < 6 → (Cond.eq (.length (.field (.string "TubesOfCourt$PlanReader" (93 + 2 * i)) "java/lang/String" "value" "[B")) (.int (Int32.ofNat (txN.getD i 0)))).before #[Value.ref b] s = true := fun i hi => by
    match i, hi with
    | 0, _ => exact hs _ (by decide +kernel)
    | 1, _ => exact hs _ (by decide +kernel)
    | 2, _ => exact hs _ (by decide +kernel)
    | 3, _ => exact hs _ (by decide +kernel)
    | 4, _ => exact hs _ (by decide +kernel)
    | 5, _ => exact hs _ (by decide +kernel)
    | i + 6, hi => exact absurd hi (by omega)
theorem st_by0 (hs : ∀ c ∈ flatC (Jvm.Cond.and given_1 narrow_1), c.before #[Value.ref b] s = true) : ∀ i : Nat, i < 4 → (Cond.eq (.elem (.field (.string "TubesOfCourt$PlanReader" 93) "java/lang/String" "value" "[B") (.int (Int32.ofNat i))) (.int ((txB.getD 0 []).getD i 0))).before #[Value.ref b] s = true := fun i hi => by
    match i, hi with
    | 0, _ => exact hs _ (by decide +kernel)
    | 1, _ => exact hs _ (by decide +kernel)
    | 2, _ => exact hs _ (by decide +kernel)
    | 3, _ => exact hs _ (by decide +kernel)
    | i + 4, hi => exact absurd hi (by omega)
theorem st_by1 (hs : ∀ c ∈ flatC (Jvm.Cond.and given_1 narrow_1), c.before #[Value.ref b] s = true) : ∀ i : Nat, i < 4 → (Cond.eq (.elem (.field (.string "TubesOfCourt$PlanReader" 95) "java/lang/String" "value" "[B") (.int (Int32.ofNat i))) (.int ((txB.getD 1 []).getD i 0))).before #[Value.ref b] s = true := fun i hi => by
    match i, hi with
    | 0, _ => exact hs _ (by decide +kernel)
    | 1, _ => exact hs _ (by decide +kernel)
    | 2, _ => exact hs _ (by decide +kernel)
    | 3, _ => exact hs _ (by decide +kernel)
    | i + 4, hi => exact absurd hi (by omega)
theorem st_by2 (hs : ∀ c ∈ flatC (Jvm.Cond.and given_1 narrow_1), c.before #[Value.ref b] s = true) : ∀ i : Nat, i < 7 → (Cond.eq (.elem (.field (.string "TubesOfCourt$PlanReader" 97) "java/lang/String" "value" "[B") (.int (Int32.ofNat i))) (.int ((txB.getD 2 []).getD i 0))).before #[Value.ref b] s = true := fun i hi => by
    match i, hi with
    | 0, _ => exact hs _ (by decide +kernel)
    | 1, _ => exact hs _ (by decide +kernel)
    | 2, _ => exact hs _ (by decide +kernel)
    | 3, _ => exact hs _ (by decide +kernel)
    | 4, _ => exact hs _ (by decide +kernel)
    | 5, _ => exact hs _ (by decide +kernel)
    | 6, _ => exact hs _ (by decide +kernel)
    | i + 7, hi => exact absurd hi (by omega)
theorem st_by3 (hs : ∀ c ∈ flatC (Jvm.Cond.and given_1 narrow_1), c.before #[Value.ref b] s = true) : ∀ i : Nat, i < 4 → (Cond.eq (.elem (.field (.string "TubesOfCourt$PlanReader" 99) "java/lang/String" "value" "[B") (.int (Int32.ofNat i))) (.int ((txB.getD 3 []).getD i 0))).before #[Value.ref b] s = true := fun i hi => by
    match i, hi with
    | 0, _ => exact hs _ (by decide +kernel)
    | 1, _ => exact hs _ (by decide +kernel)
    | 2, _ => exact hs _ (by decide +kernel)
    | 3, _ => exact hs _ (by decide +kernel)
    | i + 4, hi => exact absurd hi (by omega)
theorem st_by4 (hs : ∀ c ∈ flatC (Jvm.Cond.and given_1 narrow_1), c.before #[Value.ref b] s = true) : ∀ i : Nat, i < 4 → (Cond.eq (.elem (.field (.string "TubesOfCourt$PlanReader" 101) "java/lang/String" "value" "[B") (.int (Int32.ofNat i))) (.int ((txB.getD 4 []).getD i 0))).before #[Value.ref b] s = true := fun i hi => by
    match i, hi with
    | 0, _ => exact hs _ (by decide +kernel)
    | 1, _ => exact hs _ (by decide +kernel)
    | 2, _ => exact hs _ (by decide +kernel)
    | 3, _ => exact hs _ (by decide +kernel)
    | i + 4, hi => exact absurd hi (by omega)
theorem st_by5 (hs : ∀ c ∈ flatC (Jvm.Cond.and given_1 narrow_1), c.before #[Value.ref b] s = true) : ∀ i : Nat, i < 8 → (Cond.eq (.elem (.field (.string "TubesOfCourt$PlanReader" 103) "java/lang/String" "value" "[B") (.int (Int32.ofNat i))) (.int ((txB.getD 5 []).getD i 0))).before #[Value.ref b] s = true := fun i hi => by
    match i, hi with
    | 0, _ => exact hs _ (by decide +kernel)
    | 1, _ => exact hs _ (by decide +kernel)
    | 2, _ => exact hs _ (by decide +kernel)
    | 3, _ => exact hs _ (by decide +kernel)
    | 4, _ => exact hs _ (by decide +kernel)
    | 5, _ => exact hs _ (by decide +kernel)
    | 6, _ => exact hs _ (by decide +kernel)
    | 7, _ => exact hs _ (by decide +kernel)
    | i + 8, hi => exact absurd hi (by omega)
theorem st_ne (hs : ∀ c ∈ flatC (Jvm.Cond.and given_1 narrow_1), c.before #[Value.ref b] s = true) : ∀ i j : Nat, i < 6 → j < 6 → i ≠ j → (Cond.not (Cond.eq (.string "TubesOfCourt$PlanReader" (93 + 2 * i)) (.string "TubesOfCourt$PlanReader" (93 + 2 * j)))).before #[Value.ref b] s = true ∨ (Cond.not (Cond.eq (.string "TubesOfCourt$PlanReader" (93 + 2 * j)) (.string "TubesOfCourt$PlanReader" (93 + 2 * i)))).before #[Value.ref b] s = true := by
  intro i j hi hj hij
  match i, j, hi, hj, hij with
  | 0, 0, _, _, h => exact absurd rfl h
  | 0, 1, _, _, _ => exact Or.inl (hs _ (by decide +kernel))
  | 0, 2, _, _, _ => exact Or.inl (hs _ (by decide +kernel))
  | 0, 3, _, _, _ => exact Or.inl (hs _ (by decide +kernel))
  | 0, 4, _, _, _ => exact Or.inl (hs _ (by decide +kernel))
  | 0, 5, _, _, _ => exact Or.inl (hs _ (by decide +kernel))
  | 1, 0, _, _, _ => exact Or.inr (hs _ (by decide +kernel))
  | 1, 1, _, _, h => exact absurd rfl h
  | 1, 2, _, _, _ => exact Or.inl (hs _ (by decide +kernel))
  | 1, 3, _, _, _ => exact Or.inl (hs _ (by decide +kernel))
  | 1, 4, _, _, _ => exact Or.inl (hs _ (by decide +kernel))
  | 1, 5, _, _, _ => exact Or.inl (hs _ (by decide +kernel))
  | 2, 0, _, _, _ => exact Or.inr (hs _ (by decide +kernel))
  | 2, 1, _, _, _ => exact Or.inr (hs _ (by decide +kernel))
  | 2, 2, _, _, h => exact absurd rfl h
  | 2, 3, _, _, _ => exact Or.inl (hs _ (by decide +kernel))
  | 2, 4, _, _, _ => exact Or.inl (hs _ (by decide +kernel))
  | 2, 5, _, _, _ => exact Or.inl (hs _ (by decide +kernel))
  | 3, 0, _, _, _ => exact Or.inr (hs _ (by decide +kernel))
  | 3, 1, _, _, _ => exact Or.inr (hs _ (by decide +kernel))
  | 3, 2, _, _, _ => exact Or.inr (hs _ (by decide +kernel))
  | 3, 3, _, _, h => exact absurd rfl h
  | 3, 4, _, _, _ => exact Or.inl (hs _ (by decide +kernel))
  | 3, 5, _, _, _ => exact Or.inl (hs _ (by decide +kernel))
  | 4, 0, _, _, _ => exact Or.inr (hs _ (by decide +kernel))
  | 4, 1, _, _, _ => exact Or.inr (hs _ (by decide +kernel))
  | 4, 2, _, _, _ => exact Or.inr (hs _ (by decide +kernel))
  | 4, 3, _, _, _ => exact Or.inr (hs _ (by decide +kernel))
  | 4, 4, _, _, h => exact absurd rfl h
  | 4, 5, _, _, _ => exact Or.inl (hs _ (by decide +kernel))
  | 5, 0, _, _, _ => exact Or.inr (hs _ (by decide +kernel))
  | 5, 1, _, _, _ => exact Or.inr (hs _ (by decide +kernel))
  | 5, 2, _, _, _ => exact Or.inr (hs _ (by decide +kernel))
  | 5, 3, _, _, _ => exact Or.inr (hs _ (by decide +kernel))
  | 5, 4, _, _, _ => exact Or.inr (hs _ (by decide +kernel))
  | 5, 5, _, _, h => exact absurd rfl h
  | i + 6, _, hi, _, _ => exact absurd hi (by omega)
  | _, j + 6, _, hj, _ => exact absurd hj (by omega)
theorem st_all (hts : ∀ w ∈ lw_tbl, w.before #[Value.ref b] s = true) (hgv : (Jvm.Cond.and given_1 narrow_1).before #[Value.ref b] s = true) : ∃ (k : Nat) (ta tb : Nat → Nat), va_T .int k 7 (fun j => .int (f120 j)) (fun q => s.heap.size ≤ q) s s.heap ∧ va_Z "TubesOfCourt" "KIND_ABOVE" "[I" (.ref k) (fun q => s.heap.size ≤ q) s s.heap ∧ vk_S 6 txN txB ta tb (fun q => s.heap.size ≤ q) s s.heap ∧ (∀ q ∈ SR, ∃ tx, vk_R q.1 q.2.1 tx (ta q.2.2) s) ∧ va_Z "java/lang/String" "COMPACT_STRINGS" "Z" (.int 1) (fun q => s.heap.size ≤ q) s s.heap ∧ va_Zq "jdk/internal/util/Preconditions" "SIOOBE_FORMATTER" "Ljava/util/function/BiFunction;" (fun q => s.heap.size ≤ q) s s.heap ∧ (∀ q ∈ NF, va_Nw (nfc q) s) ∧ (∀ q ∈ NM, va_Nw (nmc q) s) ∧ mkT s ∧ va_AO "java/lang/String" s := by
  have hs := flat_of_before _ hgv
  have hA : ∀ a : Nat, a < s.heap.size → ¬ (fun q : Nat => s.heap.size ≤ q) a := fun a h => Nat.not_le.mpr h
  obtain ⟨k, hk, hT⟩ := va_Tof (tm := .static "TubesOfCourt" "KIND_ABOVE" "[I") (ty := .int) (N := 7) (f := fun j => .int (f120 j)) (A := fun q => s.heap.size ≤ q) (by decide) (hs _ (by decide +kernel)) (va_eqt (z := Int32.ofNat 7) (hs _ (by decide +kernel))) (st_el hs) hA
  obtain ⟨ta, tb, hS, hE⟩ := vk_Sof (args := #[Value.ref b]) (tm := fun i => .string "TubesOfCourt$PlanReader" (93 + 2 * i)) (N := 6) (len := txN) (byt := txB) (A := fun q => s.heap.size ≤ q) (by decide) (st_ex hs) (st_co hs) (st_ar hs) (st_le hs) (fun i hi => by
    match i, hi with
    | 0, _ => exact fun j hj => st_by0 hs j hj
    | 1, _ => exact fun j hj => st_by1 hs j hj
    | 2, _ => exact fun j hj => st_by2 hs j hj
    | 3, _ => exact fun j hj => st_by3 hs j hj
    | 4, _ => exact fun j hj => st_by4 hs j hj
    | 5, _ => exact fun j hj => st_by5 hs j hj
    | i + 6, hi => exact absurd hi (by omega)) (st_ne hs) hA
  have hNF : ∀ q ∈ NF, va_Nw (nfc q) s := fun q hq => va_Nw.of rfl (hts _ (nf_in _ (List.mem_map_of_mem hq)))
  have hNM : ∀ q ∈ NM, va_Nw (nmc q) s := fun q hq => va_Nw.of rfl (hts _ (nm_in _ (List.mem_map_of_mem hq)))
  have hSR : ∀ q ∈ SR, ∃ tx, vk_R q.1 q.2.1 tx (ta q.2.2) s := by
    intro q hq
    simp only [SR, List.mem_cons, List.not_mem_nil, or_false] at hq
    rcases hq with rfl | rfl | rfl | rfl | rfl | rfl | rfl | rfl | rfl | rfl | rfl | rfl
    · exact ⟨"desk", vk_R.of (hts (.stringRef RX6 93 "desk") (by decide +kernel)) (hE 0 (by decide))⟩
    · exact ⟨"tube", vk_R.of (hts (.stringRef RX6 95 "tube") (by decide +kernel)) (hE 1 (by decide))⟩
    · exact ⟨"capsule", vk_R.of (hts (.stringRef RX6 97 "capsule") (by decide +kernel)) (hE 2 (by decide))⟩
    · exact ⟨"shut", vk_R.of (hts (.stringRef RX6 99 "shut") (by decide +kernel)) (hE 3 (by decide))⟩
    · exact ⟨"open", vk_R.of (hts (.stringRef RX6 101 "open") (by decide +kernel)) (hE 4 (by decide))⟩
    · exact ⟨"pressure", vk_R.of (hts (.stringRef RX6 103 "pressure") (by decide +kernel)) (hE 5 (by decide))⟩
    · exact ⟨"desk", vk_R.of (hts (.stringRef RX11 44 "desk") (by decide +kernel)) (va_eqR (hs (.eq (.string "TubesOfCourt$PlanReader" 93) (.string RX11 44)) (by decide +kernel)) (hE 0 (by decide)))⟩
    · exact ⟨"tube", vk_R.of (hts (.stringRef RX11 46 "tube") (by decide +kernel)) (va_eqR (hs (.eq (.string "TubesOfCourt$PlanReader" 95) (.string RX11 46)) (by decide +kernel)) (hE 1 (by decide)))⟩
    · exact ⟨"capsule", vk_R.of (hts (.stringRef RX11 48 "capsule") (by decide +kernel)) (va_eqR (hs (.eq (.string "TubesOfCourt$PlanReader" 97) (.string RX11 48)) (by decide +kernel)) (hE 2 (by decide)))⟩
    · exact ⟨"shut", vk_R.of (hts (.stringRef RX11 50 "shut") (by decide +kernel)) (va_eqR (hs (.eq (.string "TubesOfCourt$PlanReader" 99) (.string RX11 50)) (by decide +kernel)) (hE 3 (by decide)))⟩
    · exact ⟨"open", vk_R.of (hts (.stringRef RX11 52 "open") (by decide +kernel)) (va_eqR (hs (.eq (.string "TubesOfCourt$PlanReader" 101) (.string RX11 52)) (by decide +kernel)) (hE 4 (by decide)))⟩
    · exact ⟨"pressure", vk_R.of (hts (.stringRef RX11 54 "pressure") (by decide +kernel)) (va_eqR (hs (.eq (.string "TubesOfCourt$PlanReader" 103) (.string RX11 54)) (by decide +kernel)) (hE 5 (by decide)))⟩
  refine ⟨k, ta, tb, hT, va_Zof (hts _ (by decide +kernel)) (hts _ (by decide +kernel)) hk hA, hS, hSR, va_Zof (hts _ (by decide +kernel)) (hts _ (by decide +kernel)) (va_eqt (hs _ (by decide +kernel))) hA, va_Zqof (hts _ (by decide +kernel)) (hts _ (by decide +kernel)) (hs _ (by decide +kernel)) hA, hNF, hNM, ⟨mkA_of (hts _ (by decide +kernel)), mkA_of (hts _ (by decide +kernel)), hNM⟩, va_AO.of (hts _ (by decide +kernel))⟩
end STA
