/-! THE STATE that both sides tell -/
abbrev tS : Type := tK × tK × Bool × tQ × (Nat → Int32) × Int × Nat × (Nat → Int)
def stK (S : tS) : tK := S.1
def stI (S : tS) : tK := S.2.1
def stB (S : tS) : Bool := S.2.2.1
def stQ (S : tS) : tQ := S.2.2.2.1
def stR (S : tS) : Nat → Int32 := S.2.2.2.2.1
def stF (S : tS) : Int := S.2.2.2.2.2.1
def stN (S : tS) : Nat := S.2.2.2.2.2.2.1
def stT (S : tS) : Nat → Int := S.2.2.2.2.2.2.2
def upK (S : tS) (K : tK) : tS := (K, S.2)
def upI (S : tS) : tS := (S.1, S.1, true, S.2.2.2)
def upQ (S : tS) (Q : tQ) : tS := (S.1, S.2.1, S.2.2.1, Q, S.2.2.2.2)
def upF (S : tS) (z : Int) : tS := (S.1, S.2.1, S.2.2.1, S.2.2.2.1, S.2.2.2.2.1, z, S.2.2.2.2.2.2)
def upT (S : tS) (n : Nat) (t : Nat → Int) : tS := (S.1, S.2.1, S.2.2.1, S.2.2.2.1, S.2.2.2.2.1, S.2.2.2.2.2.1, n, t)
def rfS (S : tS) (k : Nat) : tS := (S.1, S.2.1, S.2.2.1, S.2.2.2.1, fun n => if n = k then stR S k + iI 1 else stR S n, S.2.2.2.2.2)
def abK (i : Nat) : Int := [-1, 0, 1, 0, 3, 0, 2].getD i 0
def RelC (S : tS) (M : tM) : Prop := Rep M 0 (stK S) ∧ Rep M 10 (stI S) ∧ RepS M (stQ S) ∧ (∀ n, n < 8 → 1 ≤ n → M.1 89 n = stR S n) ∧ M.1 88 13 = bi (stB S = true) ∧ M.1 88 14 = iI (stF S) ∧ M.1 86 1 = iI (stN S) ∧ (∀ i, i < 20 → i < stN S → M.1 87 i = iI (stT S i)) ∧ ∀ i, i < 7 → M.1 120 i = iI (abK i)
def RelR (S : tS) (M : tM) : Prop := RepN M 92 (stK S) ∧ (stB S = true → RepN M 93 (stI S)) ∧ RepT M (stQ S) ∧ (∀ n, n < 8 → 1 ≤ n → M.1 91 n = stR S n) ∧ M.1 90 4 = bi (stB S = true) ∧ M.1 90 13 = iI (stF S) ∧ M.1 90 22 = iI (stN S) ∧ (∀ i, i < 20 → i < stN S → M.1 106 i = iI (stT S i)) ∧ ∀ i, i < 7 → M.1 99 i = iI (abK i)
def sInv (S : tS) : Prop := kInv (stK S) ∧ kInv (stI S) ∧ qInv (stQ S) ∧ (∀ s, s < 8 → 0 ≤ qH (stQ S) s → qH (stQ S) s < 100 → qH (stQ S) s < (kC (stK S) : Int)) ∧ (-1 ≤ stF S ∧ stF S ≤ 160) ∧ stN S ≤ 1000 ∧ ∀ i, -1 ≤ stT S i ∧ stT S i ≤ 100
def SmC (M M' : tM) : Prop := ∀ a, (90 ≤ a ∧ a < 107) ∨ 109 ≤ a → M'.1 a = M.1 a ∧ M'.2 a = M.2 a
def SmR (M M' : tM) : Prop := ∀ a, a < 90 ∨ 107 ≤ a → M'.1 a = M.1 a ∧ M'.2 a = M.2 a
theorem SmC_rf (M : tM) : SmC M M := fun _ _ => ⟨rfl, rfl⟩
theorem SmR_rf (M : tM) : SmR M M := fun _ _ => ⟨rfl, rfl⟩
theorem SmC_tr {M M' M'' : tM} (h : SmC M M') (h' : SmC M' M'') : SmC M M'' := fun a ha => ⟨(h' a ha).1.trans (h a ha).1, (h' a ha).2.trans (h a ha).2⟩
theorem SmR_tr {M M' M'' : tM} (h : SmR M M') (h' : SmR M' M'') : SmR M M'' := fun a ha => ⟨(h' a ha).1.trans (h a ha).1, (h' a ha).2.trans (h a ha).2⟩
theorem SmC_of {l : List Nat} {M M' : tM} (h : Sm l M M') (hl : ∀ a ∈ l, a < 90 ∨ a = 107 ∨ a = 108) : SmC M M' := fun a ha => h a (fun q => by have := hl a q; omega)
theorem SmR_of {l : List Nat} {M M' : tM} (h : Sm l M M') (hl : ∀ a ∈ l, 90 ≤ a ∧ a < 107) : SmR M M' := fun a ha => h a (fun q => by have := hl a q; omega)
theorem RelC_SmR {S : tS} {M M' : tM} (h : RelC S M) (hs : SmR M M') : RelC S M' := by
  obtain ⟨h1, h2, h3, h4, h5, h6, h7, h8, h9⟩ := h
  refine ⟨Rep_eq h1 fun i hi => (hs _ (by omega)).1, Rep_eq h2 fun i hi => (hs _ (by omega)).1, ?_, ?_, ?_, ?_, ?_, ?_, ?_⟩
  · intro s h8
    rw [(hs 31 (by omega)).1, (hs 32 (by omega)).1, (hs (34 + s) (by omega)).2]
    exact h3 s h8
  · rw [(hs 89 (by omega)).1]; exact h4
  · rw [(hs 88 (by omega)).1]; exact h5
  · rw [(hs 88 (by omega)).1]; exact h6
  · rw [(hs 86 (by omega)).1]; exact h7
  · rw [(hs 87 (by omega)).1]; exact h8
  · rw [(hs 120 (by omega)).1]; exact h9
theorem RelR_SmC {S : tS} {M M' : tM} (h : RelR S M) (hs : SmC M M') : RelR S M' := by
  obtain ⟨h1, h2, h3, h4, h5, h6, h7, h8, h9⟩ := h
  refine ⟨RepN_eq h1 (hs _ (by omega)).1, fun q => RepN_eq (h2 q) (hs _ (by omega)).1, ?_, ?_, ?_, ?_, ?_, ?_, ?_⟩
  · intro s h8
    rw [(hs 95 (by omega)).1, (hs 96 (by omega)).1, (hs 97 (by omega)).2]
    exact h3 s h8
  · rw [(hs 91 (by omega)).1]; exact h4
  · rw [(hs 90 (by omega)).1]; exact h5
  · rw [(hs 90 (by omega)).1]; exact h6
  · rw [(hs 90 (by omega)).1]; exact h7
  · rw [(hs 106 (by omega)).1]; exact h8
  · rw [(hs 99 (by omega)).1]; exact h9
/-- what is written besides -/
theorem RelC_scr {S : tS} {M M' : tM} {l : List Nat} (h : RelC S M) (hs : Sm l M M') (hl : ∀ a ∈ l, (20 ≤ a ∧ a < 30) ∨ (42 ≤ a ∧ a < 86) ∨ a = 107 ∨ a = 108) : RelC S M' := by
  have hn : ∀ a, (a < 20 ∨ (30 ≤ a ∧ a < 42) ∨ (86 ≤ a ∧ a < 107) ∨ 109 ≤ a) → a ∉ l := fun a ha q => by have := hl a q; omega
  obtain ⟨h1, h2, h3, h4, h5, h6, h7, h8, h9⟩ := h
  refine ⟨Rep_eq h1 fun i hi => (hs _ (hn _ (by omega))).1, Rep_eq h2 fun i hi => (hs _ (hn _ (by omega))).1, ?_, ?_, ?_, ?_, ?_, ?_, ?_⟩
  · intro s h8
    rw [(hs 31 (hn _ (by omega))).1, (hs 32 (hn _ (by omega))).1, (hs (34 + s) (hn _ (by omega))).2]
    exact h3 s h8
  · rw [(hs 89 (hn _ (by omega))).1]; exact h4
  · rw [(hs 88 (hn _ (by omega))).1]; exact h5
  · rw [(hs 88 (hn _ (by omega))).1]; exact h6
  · rw [(hs 86 (hn _ (by omega))).1]; exact h7
  · rw [(hs 87 (hn _ (by omega))).1]; exact h8
  · rw [(hs 120 (hn _ (by omega))).1]; exact h9
theorem RelR_scr {S : tS} {M M' : tM} {l : List Nat} (h : RelR S M) (hs : Sm l M M') (hl : ∀ a ∈ l, a < 90 ∨ a = 94 ∨ a = 98 ∨ (101 ≤ a ∧ a < 106)) : RelR S M' := by
  have hn : ∀ a, (90 ≤ a ∧ a < 94) ∨ (95 ≤ a ∧ a < 98) ∨ a = 99 ∨ a = 106 → a ∉ l := fun a ha q => by have := hl a q; omega
  obtain ⟨h1, h2, h3, h4, h5, h6, h7, h8, h9⟩ := h
  refine ⟨RepN_eq h1 (hs _ (hn _ (by omega))).1, fun q => RepN_eq (h2 q) (hs _ (hn _ (by omega))).1, ?_, ?_, ?_, ?_, ?_, ?_, ?_⟩
  · intro s h8
    rw [(hs 95 (hn _ (by omega))).1, (hs 96 (hn _ (by omega))).1, (hs 97 (hn _ (by omega))).2]
    exact h3 s h8
  · rw [(hs 91 (hn _ (by omega))).1]; exact h4
  · rw [(hs 90 (hn _ (by omega))).1]; exact h5
  · rw [(hs 90 (hn _ (by omega))).1]; exact h6
  · rw [(hs 90 (hn _ (by omega))).1]; exact h7
  · rw [(hs 106 (hn _ (by omega))).1]; exact h8
  · rw [(hs 99 (hn _ (by omega))).1]; exact h9
/-- a field of the reference that tells nothing -/
theorem RelR_fld {S : tS} {M : tM} (h : RelR S M) {k : Nat} {v : Int32} (h1 : k ≠ 4) (h2 : k ≠ 13) (h3 : k ≠ 22) : RelR S (sI M 90 k v) := by
  obtain ⟨e1, e2, e3, e4, e5, e6, e7, e8, e9⟩ := h
  unfold RelR
  simp (disch := omega) only [sI_a, sI_k, sI_2]
  refine ⟨RepN_eq e1 (by rw [sI_a _ _ (by omega)]), fun q => RepN_eq (e2 q) (by rw [sI_a _ _ (by omega)]), ?_, e4, e5, e6, e7, e8, e9⟩
  intro s h8
  simp (disch := omega) only [sI_a, sI_k, sI_2]
  exact e3 s h8
theorem RelC_K {S : tS} {M M' : tM} {K : tK} {l : List Nat} (h : RelC S M) (hK : Rep M' 0 K) (hs : Sm l M M') (hl : ∀ a ∈ l, a < 10) : RelC (upK S K) M' := by
  have hn : ∀ a, 10 ≤ a → a ∉ l := fun a ha q => by have := hl a q; omega
  obtain ⟨h1, h2, h3, h4, h5, h6, h7, h8, h9⟩ := h
  refine ⟨hK, Rep_eq h2 fun i hi => (hs _ (hn _ (by omega))).1, ?_, ?_, ?_, ?_, ?_, ?_, ?_⟩
  · intro s h8
    rw [(hs 31 (hn _ (by omega))).1, (hs 32 (hn _ (by omega))).1, (hs (34 + s) (hn _ (by omega))).2]
    exact h3 s h8
  · rw [(hs 89 (hn _ (by omega))).1]; exact h4
  · rw [(hs 88 (hn _ (by omega))).1]; exact h5
  · rw [(hs 88 (hn _ (by omega))).1]; exact h6
  · rw [(hs 86 (hn _ (by omega))).1]; exact h7
  · rw [(hs 87 (hn _ (by omega))).1]; exact h8
  · rw [(hs 120 (hn _ (by omega))).1]; exact h9
theorem RelR_K {S : tS} {M M' : tM} {K : tK} (h : RelR S M) (hK : RepN M' 92 K) (hs : Sm [92] M M') : RelR (upK S K) M' := by
  have hn : ∀ a, a ≠ 92 → a ∉ [92] := fun a ha q => by simp at q; omega
  obtain ⟨h1, h2, h3, h4, h5, h6, h7, h8, h9⟩ := h
  refine ⟨hK, fun q => RepN_eq (h2 q) (hs _ (hn _ (by omega))).1, ?_, ?_, ?_, ?_, ?_, ?_, ?_⟩
  · intro s h8
    rw [(hs 95 (hn _ (by omega))).1, (hs 96 (hn _ (by omega))).1, (hs 97 (hn _ (by omega))).2]
    exact h3 s h8
  · rw [(hs 91 (hn _ (by omega))).1]; exact h4
  · rw [(hs 90 (hn _ (by omega))).1]; exact h5
  · rw [(hs 90 (hn _ (by omega))).1]; exact h6
  · rw [(hs 90 (hn _ (by omega))).1]; exact h7
  · rw [(hs 106 (hn _ (by omega))).1]; exact h8
  · rw [(hs 99 (hn _ (by omega))).1]; exact h9
theorem RelC_Q {S : tS} {M M' : tM} {Q : tQ} {l : List Nat} (h : RelC S M) (hQ : RepS M' Q) (hs : Sm l M M') (hl : ∀ a ∈ l, 30 ≤ a ∧ a < 86) : RelC (upQ S Q) M' := by
  have hn : ∀ a, a < 30 ∨ 86 ≤ a → a ∉ l := fun a ha q => by have := hl a q; omega
  obtain ⟨h1, h2, h3, h4, h5, h6, h7, h8, h9⟩ := h
  refine ⟨Rep_eq h1 fun i hi => (hs _ (hn _ (by omega))).1, Rep_eq h2 fun i hi => (hs _ (hn _ (by omega))).1, hQ, ?_, ?_, ?_, ?_, ?_, ?_⟩
  · rw [(hs 89 (hn _ (by omega))).1]; exact h4
  · rw [(hs 88 (hn _ (by omega))).1]; exact h5
  · rw [(hs 88 (hn _ (by omega))).1]; exact h6
  · rw [(hs 86 (hn _ (by omega))).1]; exact h7
  · rw [(hs 87 (hn _ (by omega))).1]; exact h8
  · rw [(hs 120 (hn _ (by omega))).1]; exact h9
theorem RelR_Q {S : tS} {M M' : tM} {Q : tQ} {l : List Nat} (h : RelR S M) (hQ : RepT M' Q) (hs : Sm l M M') (hl : ∀ a ∈ l, 95 ≤ a ∧ a < 99) : RelR (upQ S Q) M' := by
  have hn : ∀ a, a < 95 ∨ 99 ≤ a → a ∉ l := fun a ha q => by have := hl a q; omega
  obtain ⟨h1, h2, h3, h4, h5, h6, h7, h8, h9⟩ := h
  refine ⟨RepN_eq h1 (hs _ (hn _ (by omega))).1, fun q => RepN_eq (h2 q) (hs _ (hn _ (by omega))).1, hQ, ?_, ?_, ?_, ?_, ?_, ?_⟩
  · rw [(hs 91 (hn _ (by omega))).1]; exact h4
  · rw [(hs 90 (hn _ (by omega))).1]; exact h5
  · rw [(hs 90 (hn _ (by omega))).1]; exact h6
  · rw [(hs 90 (hn _ (by omega))).1]; exact h7
  · rw [(hs 106 (hn _ (by omega))).1]; exact h8
  · rw [(hs 99 (hn _ (by omega))).1]; exact h9
theorem sInv_K {S : tS} (h : sInv S) {K : tK} (hK : kInv K) (hc : kC (stK S) ≤ kC K) : sInv (upK S K) := by
  obtain ⟨h1, h2, h3, h4, h5⟩ := h
  refine ⟨hK, h2, h3, ?_, h5⟩
  intro s hs a b
  have := h4 s hs a b
  show qH (stQ S) s < (kC K : Int)
  omega
theorem sInv_Q {S : tS} (h : sInv S) {Q : tQ} (hQ : qInv Q) (hc : ∀ s, s < 8 → 0 ≤ qH Q s → qH Q s < 100 → qH Q s < (kC (stK S) : Int)) : sInv (upQ S Q) := by
  obtain ⟨h1, h2, h3, h4, h5⟩ := h
  exact ⟨h1, h2, hQ, hc, h5⟩
theorem sInv_rf {S : tS} (h : sInv S) (k : Nat) : sInv (rfS S k) := h
/-! refusals -/
def rfM (M : tM) (k : Nat) : tM := sI M 89 k (M.1 89 k + iI 1)
def rgM (M : tM) (k : Nat) : tM := sI M 91 k (M.1 91 k + iI 1)
theorem RelC_rf {S : tS} {M : tM} (h : RelC S M) {k : Nat} (h1 : 1 ≤ k) (h2 : k ≤ 7) : RelC (rfS S k) (rfM M k) := by
  obtain ⟨e1, e2, e3, e4, e5, e6, e7, e8, e9⟩ := h
  unfold RelC rfM
  simp (disch := omega) only [sI_a, sI_2]
  refine ⟨Rep_Sm e1 (Sm_sI (l := [89]) (by simp)) (by simp), Rep_Sm e2 (Sm_sI (l := [89]) (by simp)) (by simp), ?_, ?_, e5, e6, e7, e8, e9⟩
  · intro s h8
    simp (disch := omega) only [sI_a, sI_2]
    exact e3 s h8
  · intro n hn h3
    by_cases q : n = k
    · subst q
      rw [sI_s, e4 n hn h3]
      simp [rfS, stR]
    · rw [sI_k _ _ q, e4 n hn h3]
      simp [rfS, stR, q]
theorem RelR_rf {S : tS} {M : tM} (h : RelR S M) {k : Nat} (h1 : 1 ≤ k) (h2 : k ≤ 7) : RelR (rfS S k) (rgM M k) := by
  obtain ⟨e1, e2, e3, e4, e5, e6, e7, e8, e9⟩ := h
  unfold RelR rgM
  simp (disch := omega) only [sI_a, sI_2]
  refine ⟨RepN_eq e1 (by rw [sI_a _ _ (by omega)]), fun q => RepN_eq (e2 q) (by rw [sI_a _ _ (by omega)]), ?_, ?_, e5, e6, e7, e8, e9⟩
  · intro s h8
    simp (disch := omega) only [sI_a, sI_2]
    exact e3 s h8
  · intro n hn h3
    by_cases q : n = k
    · subst q
      rw [sI_s, e4 n hn h3]
      simp [rfS, stR]
    · rw [sI_k _ _ q, e4 n hn h3]
      simp [rfS, stR, q]
theorem SmC_rfM (M : tM) (k : Nat) : SmC M (rfM M k) := SmC_of (Sm_sI (l := [89]) (by simp)) (by simp)
theorem SmR_rgM (M : tM) (k : Nat) : SmR M (rgM M k) := SmR_of (Sm_sI (l := [91]) (by simp)) (by simp)
theorem k_X10_refuse {D : Nat} (hD : 1 ≤ D) {M : tM} {z : Int} (h1 : -7 ≤ z) (h2 : z ≤ -1) : exF D m_X10_refuse [.ref 88, .int (iI z)] M = some (some (.int (iI z)), rfM M (-z).toNat) := by
  obtain ⟨D, rfl⟩ : ∃ D0, D = D0 + 1 := ⟨D - 1, by omega⟩
  unfold rfM
  simp (maxSteps := 4000000) (disch := omega) only [en_X10_refuse, s_X10_refuse_0, s_X10_refuse_1, s_X10_refuse_3, s_X10_refuse_6, s_X10_refuse_8, s_X10_refuse_9, s_X10_refuse_10, s_X10_refuse_13, s_X10_refuse_14, s_X10_refuse_15, s_X10_refuse_16, s_X10_refuse_17, s_X10_refuse_18, s_X10_refuse_21, s_X10_refuse_22, s_X10_refuse_24, s_X10_refuse_27, s_X10_refuse_28, s_X10_refuse_31, s_X10_refuse_32, s_X10_refuse_33, s_X10_refuse_34, s_X10_refuse_35, s_X10_refuse_36, s_X10_refuse_37, s_X10_refuse_38, cls_88, fv_88_0, fv_88_1, fv_88_2, fv_88_3, fv_88_4, fv_88_5, fv_88_6, fv_88_7, fv_88_8, fv_88_9, fv_88_10, fv_88_11, fv_88_12, fv_88_13, fv_88_14, ak_89, al_89, leT, ltF, iI_add, iI_sub, iI_mul, iI_neg, iI_lt, iI_le, iI_eq, iI_toInt, tn_n, tn_1, inb_I, Int.reduceEq, Int.reduceLT, Int.reduceLE, Int.reduceAdd, Int.reduceSub, Int.reduceMul, Int.reduceNeg, Int.reduceToNat, Nat.reduceAdd, Nat.reduceMul, Int.reduceNatCast, reduceCtorEq, Int.cast_ofNat_Int, bi_tr, bi_fa, bi_0, bi_1, not_true_eq_false, not_false_eq_true, rnk_v, rnk_n, ↓reduceIte, i00, i11, ibi, or_true, true_or, and_true, true_and, List.cons_append, List.nil_append, Option.toList, nop]
theorem k_X10_refuse10 {D : Nat} (hD : 1 ≤ D) {M : tM} {z : Int} (h1 : -17 ≤ z) (h2 : z ≤ -11) : exF D m_X10_refuse [.ref 88, .int (iI z)] M = some (some (.int (iI z)), rfM M (-10 - z).toNat) := by
  obtain ⟨D, rfl⟩ : ∃ D0, D = D0 + 1 := ⟨D - 1, by omega⟩
  unfold rfM
  simp (maxSteps := 4000000) (disch := omega) only [en_X10_refuse, s_X10_refuse_0, s_X10_refuse_1, s_X10_refuse_3, s_X10_refuse_6, s_X10_refuse_8, s_X10_refuse_9, s_X10_refuse_10, s_X10_refuse_13, s_X10_refuse_14, s_X10_refuse_15, s_X10_refuse_16, s_X10_refuse_17, s_X10_refuse_18, s_X10_refuse_21, s_X10_refuse_22, s_X10_refuse_24, s_X10_refuse_27, s_X10_refuse_28, s_X10_refuse_31, s_X10_refuse_32, s_X10_refuse_33, s_X10_refuse_34, s_X10_refuse_35, s_X10_refuse_36, s_X10_refuse_37, s_X10_refuse_38, cls_88, fv_88_0, fv_88_1, fv_88_2, fv_88_3, fv_88_4, fv_88_5, fv_88_6, fv_88_7, fv_88_8, fv_88_9, fv_88_10, fv_88_11, fv_88_12, fv_88_13, fv_88_14, ak_89, al_89, leF, ltF, iI_add, iI_sub, iI_mul, iI_neg, iI_lt, iI_le, iI_eq, iI_toInt, tn_n, tn_1, inb_I, Int.reduceEq, Int.reduceLT, Int.reduceLE, Int.reduceAdd, Int.reduceSub, Int.reduceMul, Int.reduceNeg, Int.reduceToNat, Nat.reduceAdd, Nat.reduceMul, Int.reduceNatCast, reduceCtorEq, Int.cast_ofNat_Int, bi_tr, bi_fa, bi_0, bi_1, not_true_eq_false, not_false_eq_true, rnk_v, rnk_n, ↓reduceIte, i00, i11, ibi, or_true, true_or, and_true, true_and, List.cons_append, List.nil_append, Option.toList, nop]
theorem k_X11_refuse {D : Nat} (hD : 1 ≤ D) {M : tM} {z : Int} (h1 : -7 ≤ z) (h2 : z ≤ -1) : exF D m_X11_refuse [.ref 90, .int (iI z)] M = some (some (.int (iI z)), rgM M (-z).toNat) := by
  obtain ⟨D, rfl⟩ : ∃ D0, D = D0 + 1 := ⟨D - 1, by omega⟩
  unfold rgM
  simp (maxSteps := 4000000) (disch := omega) only [en_X11_refuse, s_X11_refuse_0, s_X11_refuse_1, s_X11_refuse_4, s_X11_refuse_5, s_X11_refuse_6, s_X11_refuse_7, s_X11_refuse_8, s_X11_refuse_9, s_X11_refuse_10, s_X11_refuse_11, s_X11_refuse_12, cls_90, fv_90_0, fv_90_1, fv_90_2, fv_90_3, fv_90_4, fv_90_5, fv_90_6, fv_90_7, fv_90_8, fv_90_9, fv_90_10, fv_90_11, fv_90_12, fv_90_13, fv_90_14, fv_90_15, fv_90_16, fv_90_17, fv_90_18, fv_90_19, fv_90_20, fv_90_21, fv_90_22, fv_90_23, fv_90_24, fv_90_25, ak_91, al_91, iI_add, iI_sub, iI_mul, iI_neg, iI_lt, iI_le, iI_eq, iI_toInt, tn_n, tn_1, inb_I, Int.reduceEq, Int.reduceLT, Int.reduceLE, Int.reduceAdd, Int.reduceSub, Int.reduceMul, Int.reduceNeg, Int.reduceToNat, Nat.reduceAdd, Nat.reduceMul, Int.reduceNatCast, reduceCtorEq, Int.cast_ofNat_Int, bi_tr, bi_fa, bi_0, bi_1, not_true_eq_false, not_false_eq_true, rnk_v, rnk_n, ↓reduceIte, i00, i11, ibi, or_true, true_or, and_true, true_and, List.cons_append, List.nil_append, Option.toList, nop]
theorem k_X11_refuseBy10 {D : Nat} (hD : 2 ≤ D) {M : tM} {z : Int} (h1 : -7 ≤ z) (h2 : z ≤ -1) : exF D m_X11_refuseBy10 [.ref 90, .int (iI z)] M = some (some (.int (iI (z - 10))), rgM M (-z).toNat) := by
  obtain ⟨D, rfl⟩ : ∃ D0, D = D0 + 1 := ⟨D - 1, by omega⟩
  simp (maxSteps := 4000000) (disch := omega) only [en_X11_refuseBy10, s_X11_refuseBy10_0, s_X11_refuseBy10_1, s_X11_refuseBy10_2, s_X11_refuseBy10_5, s_X11_refuseBy10_7, s_X11_refuseBy10_8, cls_90, fv_90_0, fv_90_1, fv_90_2, fv_90_3, fv_90_4, fv_90_5, fv_90_6, fv_90_7, fv_90_8, fv_90_9, fv_90_10, fv_90_11, fv_90_12, fv_90_13, fv_90_14, fv_90_15, fv_90_16, fv_90_17, fv_90_18, fv_90_19, fv_90_20, fv_90_21, fv_90_22, fv_90_23, fv_90_24, fv_90_25, ak_91, al_91, k_X11_refuse (show _ ≤ D by omega), iI_add, iI_sub, iI_mul, iI_neg, iI_lt, iI_le, iI_eq, iI_toInt, tn_n, tn_1, inb_I, Int.reduceEq, Int.reduceLT, Int.reduceLE, Int.reduceAdd, Int.reduceSub, Int.reduceMul, Int.reduceNeg, Int.reduceToNat, Nat.reduceAdd, Nat.reduceMul, Int.reduceNatCast, reduceCtorEq, Int.cast_ofNat_Int, bi_tr, bi_fa, bi_0, bi_1, not_true_eq_false, not_false_eq_true, rnk_v, rnk_n, ↓reduceIte, i00, i11, ibi, or_true, true_or, and_true, true_and, List.cons_append, List.nil_append, Option.toList, nop]
/-! what a call owes: each side alone -/
def okC (D y : Nat) (args : List Value) (M : tM) (r : Int × tS) : Prop := ∃ M', exF D y args M = some (some (.int (iI r.1)), M') ∧ RelC r.2 M' ∧ SmC M M'
def okR (D y : Nat) (args : List Value) (M : tM) (r : Int × tS) : Prop := ∃ M', exF D y args M = some (some (.int (iI r.1)), M') ∧ RelR r.2 M' ∧ SmR M M'
def rz (S : tS) (z : Int) : Int × tS := (z, rfS S (-z).toNat)
def rz10 (S : tS) (z : Int) : Int × tS := (z - 10, rfS S (-z).toNat)
theorem okC_rf {D y : Nat} {args : List Value} {M : tM} {S : tS} (h : RelC S M) {z : Int} (h1 : -7 ≤ z) (h2 : z ≤ -1) (e : exF D y args M = some (some (.int (iI z)), rfM M (-z).toNat)) : okC D y args M (rz S z) := ⟨_, e, RelC_rf h (by omega) (by omega), SmC_rfM _ _⟩
theorem okR_rf {D y : Nat} {args : List Value} {M : tM} {S : tS} (h : RelR S M) {z : Int} (h1 : -7 ≤ z) (h2 : z ≤ -1) (e : exF D y args M = some (some (.int (iI z)), rgM M (-z).toNat)) : okR D y args M (rz S z) := ⟨_, e, RelR_rf h (by omega) (by omega), SmR_rgM _ _⟩
theorem okC_rf10 {D y : Nat} {args : List Value} {M : tM} {S : tS} (h : RelC S M) {z : Int} (h1 : -7 ≤ z) (h2 : z ≤ -1) (e : exF D y args M = some (some (.int (iI (z - 10))), rfM M (-z).toNat)) : okC D y args M (rz10 S z) := ⟨_, e, RelC_rf h (by omega) (by omega), SmC_rfM _ _⟩
theorem okR_rf10 {D y : Nat} {args : List Value} {M : tM} {S : tS} (h : RelR S M) {z : Int} (h1 : -7 ≤ z) (h2 : z ≤ -1) (e : exF D y args M = some (some (.int (iI (z - 10))), rgM M (-z).toNat)) : okR D y args M (rz10 S z) := ⟨_, e, RelR_rf h (by omega) (by omega), SmR_rgM _ _⟩
theorem okC_id {D y : Nat} {args : List Value} {M : tM} {S : tS} (h : RelC S M) {z : Int} (e : exF D y args M = some (some (.int (iI z)), M)) : okC D y args M (z, S) := ⟨_, e, h, SmC_rf _⟩
theorem okR_id {D y : Nat} {args : List Value} {M : tM} {S : tS} (h : RelR S M) {z : Int} (e : exF D y args M = some (some (.int (iI z)), M)) : okR D y args M (z, S) := ⟨_, e, h, SmR_rf _⟩
