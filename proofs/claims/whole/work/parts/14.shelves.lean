/-! shelves -/
theorem rJ_set (M : tM) (a i : Nat) (f : Nat → Int64) (v : Int64) : sJ (rJ M a f) a i v = rJ M a (fun k => if k = i then v else f k) := by
  refine Prod.ext rfl ?_
  funext x y
  simp only [sJ, rJ]
  by_cases h : x = a <;> by_cases h2 : y = i <;> simp [h, h2]
theorem rI_set (M : tM) (a i : Nat) (f : Nat → Int32) (v : Int32) : sI (rI M a f) a i v = rI M a (fun k => if k = i then v else f k) := by
  refine Prod.ext ?_ rfl
  funext x y
  simp only [sI, rI]
  by_cases h : x = a <;> by_cases h2 : y = i <;> simp [h, h2]
theorem rJ_id (M : tM) (a : Nat) : rJ M a (M.2 a) = M := by
  refine Prod.ext rfl ?_
  funext x
  simp only [rJ]
  split
  · rename_i h; rw [h]
  · rfl
theorem rI_id (M : tM) (a : Nat) : rI M a (M.1 a) = M := by
  refine Prod.ext ?_ rfl
  funext x
  simp only [rI]
  split
  · rename_i h; rw [h]
  · rfl
theorem rJ_s (M : tM) (a : Nat) (f : Nat → Int64) : (rJ M a f).2 a = f := if_pos rfl
theorem rJ_a (M : tM) {a a' : Nat} (f : Nat → Int64) (h : a' ≠ a) : (rJ M a f).2 a' = M.2 a' := if_neg h
theorem rJ_1 (M : tM) (a : Nat) (f : Nat → Int64) : (rJ M a f).1 = M.1 := rfl
theorem sJ_s (M : tM) (a k : Nat) (v : Int64) : (sJ M a k v).2 a k = v := if_pos ⟨rfl, rfl⟩
theorem sJ_k (M : tM) {a k k' : Nat} (v : Int64) (h : k' ≠ k) : (sJ M a k v).2 a k' = M.2 a k' := if_neg fun q => h q.2
theorem sJ_a (M : tM) {a a' k : Nat} (v : Int64) (h : a' ≠ a) : (sJ M a k v).2 a' = M.2 a' := by funext y; exact if_neg fun q => h q.1
theorem alen_1 (M : tM) (a : Nat) (h : a ≠ 121) (M' : tM) : alen M' a = alen M a := by simp [alen, h]
theorem l_fillJ {D : Nat} {M : tM} {a n : Nat} {v : Int64} (hk : akind a = 2) (ha : ∀ M, alen M a = n) (hn : n ≤ 2048) : ∀ (m i : Nat), i + m = n → ∀ (f : Nat → Int64) (x1 x2 : Int32), x1 = iI i → x2 = iI n → rn (exF D) C_J7_fill_d0a16 6 [some (.ref a), some (.long v), none, some (.int x1), some (.int x2)] [] (rJ M a f) = some (none, rJ M a (fun k => if i ≤ k ∧ k < n then v else f k)) := by
  intro m
  induction m with
  | zero =>
    rintro i hi f x1 x2 rfl rfl
    simp (maxSteps := 4000000) (disch := omega) only [s_J7_fill_d0a16_0, s_J7_fill_d0a16_1, s_J7_fill_d0a16_2, s_J7_fill_d0a16_3, s_J7_fill_d0a16_4, s_J7_fill_d0a16_6, s_J7_fill_d0a16_7, s_J7_fill_d0a16_9, s_J7_fill_d0a16_12, s_J7_fill_d0a16_13, s_J7_fill_d0a16_14, s_J7_fill_d0a16_15, s_J7_fill_d0a16_16, s_J7_fill_d0a16_19, s_J7_fill_d0a16_22, leT, iI_add, iI_sub, iI_mul, iI_neg, iI_lt, iI_le, iI_eq, iI_toInt, tn_n, tn_1, inb_I, Int.reduceEq, Int.reduceLT, Int.reduceLE, Int.reduceAdd, Int.reduceSub, Int.reduceMul, Int.reduceNeg, Int.reduceToNat, Nat.reduceAdd, Nat.reduceMul, Int.reduceNatCast, reduceCtorEq, Int.cast_ofNat_Int, bi_tr, bi_fa, bi_0, bi_1, not_true_eq_false, not_false_eq_true, rnk_v, rnk_n, ↓reduceIte, i00, i11, ibi, or_true, true_or, and_true, true_and, List.cons_append, List.nil_append, Option.toList]
    rw [show (fun k => if i ≤ k ∧ k < n then v else f k) = f by funext k; rw [if_neg (by omega)]]
  | succ m ih =>
    rintro i hi f x1 x2 rfl rfl
    rw [s_J7_fill_d0a16_6]
    simp (maxSteps := 4000000) (disch := omega) only [s_J7_fill_d0a16_0, s_J7_fill_d0a16_1, s_J7_fill_d0a16_2, s_J7_fill_d0a16_3, s_J7_fill_d0a16_4, s_J7_fill_d0a16_7, s_J7_fill_d0a16_9, s_J7_fill_d0a16_12, s_J7_fill_d0a16_13, s_J7_fill_d0a16_14, s_J7_fill_d0a16_15, s_J7_fill_d0a16_16, s_J7_fill_d0a16_19, s_J7_fill_d0a16_22, leF, hk, ha, rJ_set, iI_add, iI_sub, iI_mul, iI_neg, iI_lt, iI_le, iI_eq, iI_toInt, tn_n, tn_1, inb_I, Int.reduceEq, Int.reduceLT, Int.reduceLE, Int.reduceAdd, Int.reduceSub, Int.reduceMul, Int.reduceNeg, Int.reduceToNat, Nat.reduceAdd, Nat.reduceMul, Int.reduceNatCast, reduceCtorEq, Int.cast_ofNat_Int, bi_tr, bi_fa, bi_0, bi_1, not_true_eq_false, not_false_eq_true, rnk_v, rnk_n, ↓reduceIte, i00, i11, ibi, or_true, true_or, and_true, true_and, List.cons_append, List.nil_append, Option.toList]
    refine (ih (i + 1) (by omega) _ _ _ rfl rfl).trans ?_
    congr 2
    apply congrArg
    funext k
    by_cases h : k = i
    · subst h; simp [show k < n by omega]
    · simp [h, show (i + 1 ≤ k) = (i ≤ k) by apply propext; omega]
theorem k_fillJ {D : Nat} (hD : 1 ≤ D) {M : tM} {a n : Nat} {v : Int64} (hk : akind a = 2) (ha : ∀ M, alen M a = n) (hn : n ≤ 2048) : exF D m_J7_fill_d0a16 [.ref a, .long v] M = some (none, rJ M a (fun k => if k < n then v else M.2 a k)) := by
  obtain ⟨D, rfl⟩ : ∃ D0, D = D0 + 1 := ⟨D - 1, by omega⟩
  simp (maxSteps := 4000000) (disch := omega) only [en_J7_fill_d0a16, s_J7_fill_d0a16_0, s_J7_fill_d0a16_1, s_J7_fill_d0a16_2, s_J7_fill_d0a16_3, s_J7_fill_d0a16_4, hk, ha, iI_add, iI_sub, iI_mul, iI_neg, iI_lt, iI_le, iI_eq, iI_toInt, tn_n, tn_1, inb_I, Int.reduceEq, Int.reduceLT, Int.reduceLE, Int.reduceAdd, Int.reduceSub, Int.reduceMul, Int.reduceNeg, Int.reduceToNat, Nat.reduceAdd, Nat.reduceMul, Int.reduceNatCast, reduceCtorEq, Int.cast_ofNat_Int, bi_tr, bi_fa, bi_0, bi_1, not_true_eq_false, not_false_eq_true, rnk_v, rnk_n, ↓reduceIte, i00, i11, ibi, or_true, true_or, and_true, true_and, List.cons_append, List.nil_append, Option.toList]
  have := l_fillJ (D := D) (M := M) (v := v) hk ha hn n 0 (by omega) (M.2 a) _ _ rfl rfl
  rw [rJ_id] at this
  simpa using this
theorem l_fillI {D : Nat} {M : tM} {a n : Nat} {v : Int32} (hk : akind a = 0) (ha : ∀ M, alen M a = n) (hn : n ≤ 2048) : ∀ (m i : Nat), i + m = n → ∀ (f : Nat → Int32) (x1 x2 : Int32), x1 = iI i → x2 = iI n → rn (exF D) C_J7_fill_53178 5 [some (.ref a), some (.int v), some (.int x1), some (.int x2)] [] (rI M a f) = some (none, rI M a (fun k => if i ≤ k ∧ k < n then v else f k)) := by
  intro m
  induction m with
  | zero =>
    rintro i hi f x1 x2 rfl rfl
    simp (maxSteps := 4000000) (disch := omega) only [s_J7_fill_53178_0, s_J7_fill_53178_1, s_J7_fill_53178_2, s_J7_fill_53178_3, s_J7_fill_53178_4, s_J7_fill_53178_5, s_J7_fill_53178_6, s_J7_fill_53178_7, s_J7_fill_53178_10, s_J7_fill_53178_11, s_J7_fill_53178_12, s_J7_fill_53178_13, s_J7_fill_53178_14, s_J7_fill_53178_17, s_J7_fill_53178_20, leT, iI_add, iI_sub, iI_mul, iI_neg, iI_lt, iI_le, iI_eq, iI_toInt, tn_n, tn_1, inb_I, Int.reduceEq, Int.reduceLT, Int.reduceLE, Int.reduceAdd, Int.reduceSub, Int.reduceMul, Int.reduceNeg, Int.reduceToNat, Nat.reduceAdd, Nat.reduceMul, Int.reduceNatCast, reduceCtorEq, Int.cast_ofNat_Int, bi_tr, bi_fa, bi_0, bi_1, not_true_eq_false, not_false_eq_true, rnk_v, rnk_n, ↓reduceIte, i00, i11, ibi, or_true, true_or, and_true, true_and, List.cons_append, List.nil_append, Option.toList]
    rw [show (fun k => if i ≤ k ∧ k < n then v else f k) = f by funext k; rw [if_neg (by omega)]]
  | succ m ih =>
    rintro i hi f x1 x2 rfl rfl
    rw [s_J7_fill_53178_5]
    simp (maxSteps := 4000000) (disch := omega) only [s_J7_fill_53178_0, s_J7_fill_53178_1, s_J7_fill_53178_2, s_J7_fill_53178_3, s_J7_fill_53178_4, s_J7_fill_53178_6, s_J7_fill_53178_7, s_J7_fill_53178_10, s_J7_fill_53178_11, s_J7_fill_53178_12, s_J7_fill_53178_13, s_J7_fill_53178_14, s_J7_fill_53178_17, s_J7_fill_53178_20, leF, hk, ha, rI_set, iI_add, iI_sub, iI_mul, iI_neg, iI_lt, iI_le, iI_eq, iI_toInt, tn_n, tn_1, inb_I, Int.reduceEq, Int.reduceLT, Int.reduceLE, Int.reduceAdd, Int.reduceSub, Int.reduceMul, Int.reduceNeg, Int.reduceToNat, Nat.reduceAdd, Nat.reduceMul, Int.reduceNatCast, reduceCtorEq, Int.cast_ofNat_Int, bi_tr, bi_fa, bi_0, bi_1, not_true_eq_false, not_false_eq_true, rnk_v, rnk_n, ↓reduceIte, i00, i11, ibi, or_true, true_or, and_true, true_and, List.cons_append, List.nil_append, Option.toList]
    refine (ih (i + 1) (by omega) _ _ _ rfl rfl).trans ?_
    congr 2
    apply congrArg
    funext k
    by_cases h : k = i
    · subst h; simp [show k < n by omega]
    · simp [h, show (i + 1 ≤ k) = (i ≤ k) by apply propext; omega]
theorem k_fillI {D : Nat} (hD : 1 ≤ D) {M : tM} {a n : Nat} {v : Int32} (hk : akind a = 0) (ha : ∀ M, alen M a = n) (hn : n ≤ 2048) : exF D m_J7_fill_53178 [.ref a, .int v] M = some (none, rI M a (fun k => if k < n then v else M.1 a k)) := by
  obtain ⟨D, rfl⟩ : ∃ D0, D = D0 + 1 := ⟨D - 1, by omega⟩
  simp (maxSteps := 4000000) (disch := omega) only [en_J7_fill_53178, s_J7_fill_53178_0, s_J7_fill_53178_1, s_J7_fill_53178_2, s_J7_fill_53178_3, s_J7_fill_53178_4, hk, ha, iI_add, iI_sub, iI_mul, iI_neg, iI_lt, iI_le, iI_eq, iI_toInt, tn_n, tn_1, inb_I, Int.reduceEq, Int.reduceLT, Int.reduceLE, Int.reduceAdd, Int.reduceSub, Int.reduceMul, Int.reduceNeg, Int.reduceToNat, Nat.reduceAdd, Nat.reduceMul, Int.reduceNatCast, reduceCtorEq, Int.cast_ofNat_Int, bi_tr, bi_fa, bi_0, bi_1, not_true_eq_false, not_false_eq_true, rnk_v, rnk_n, ↓reduceIte, i00, i11, ibi, or_true, true_or, and_true, true_and, List.cons_append, List.nil_append, Option.toList]
  have := l_fillI (D := D) (M := M) (v := v) hk ha hn n 0 (by omega) (M.1 a) _ _ rfl rfl
  rw [rI_id] at this
  simpa using this
/-- what lies on the shelves: held, sizes, elements -/
abbrev tQ : Type := (Nat → Int) × (Nat → Nat) × (Nat → Nat → Int64)
def qH (Q : tQ) (s : Nat) : Int := Q.1 s
def qN (Q : tQ) (s : Nat) : Nat := Q.2.1 s
def qE (Q : tQ) (s i : Nat) : Int64 := Q.2.2 s i
def qI (Q : tQ) (s i : Nat) : Int := (qE Q s i).toInt32.toInt
def qInv (Q : tQ) : Prop := ∀ s, s < 8 → (-1 ≤ qH Q s ∧ qH Q s ≤ 103) ∧ qN Q s ≤ 160
def qZ (Q : tQ) (s : Nat) : Nat := if 100 ≤ qH Q s then qN Q s else 0
def RepS (M : tM) (Q : tQ) : Prop := ∀ s, s < 8 → M.1 31 s = iI (qH Q s) ∧ M.1 32 s = iI (qZ Q s) ∧ ∀ i, i < 160 → M.2 (34 + s) i = qE Q s i
def RepT (M : tM) (Q : tQ) : Prop := ∀ s, s < 8 → M.1 95 s = iI (qH Q s) ∧ M.1 96 s = iI (qN Q s) ∧ ∀ i, i < 160 → M.2 97 (160 * s + i) = qE Q s i
theorem RepS_Sm {l : List Nat} {M M' : tM} {Q : tQ} (h : RepS M Q) (hs : Sm l M M') (hl : ∀ a ∈ l, a < 31 ∨ a = 33 ∨ 42 ≤ a) : RepS M' Q := by
  intro s h8
  obtain ⟨h1, h2, h3⟩ := h s h8
  rw [(hs 31 (fun q => by have := hl _ q; omega)).1, (hs 32 (fun q => by have := hl _ q; omega)).1, (hs (34 + s) (fun q => by have := hl _ q; omega)).2]
  exact ⟨h1, h2, h3⟩
theorem RepT_Sm {l : List Nat} {M M' : tM} {Q : tQ} (h : RepT M Q) (hs : Sm l M M') (hl : ∀ a ∈ l, a < 95 ∨ 97 < a) : RepT M' Q := by
  intro s h8
  obtain ⟨h1, h2, h3⟩ := h s h8
  rw [(hs 95 (fun q => by have := hl _ q; omega)).1, (hs 96 (fun q => by have := hl _ q; omega)).1, (hs 97 (fun q => by have := hl _ q; omega)).2]
  exact ⟨h1, h2, h3⟩
theorem qI_rng (Q : tQ) (s i : Nat) : -2147483648 ≤ qI Q s i ∧ qI Q s i ≤ 2147483647 := by
  have h1 := Int32.le_toInt (qE Q s i).toInt32
  have h2 := Int32.toInt_lt (qE Q s i).toInt32
  unfold qI
  omega
theorem qZ_ge {Q : tQ} {s : Nat} (h : 100 ≤ qH Q s) : qZ Q s = qN Q s := if_pos h
theorem qZ_lt {Q : tQ} {s : Nat} (h : ¬ 100 ≤ qH Q s) : qZ Q s = 0 := if_neg h
theorem qZ_cg {Q P : tQ} {s : Nat} (h1 : qH P s = qH Q s) (h2 : qN P s = qN Q s) : qZ P s = qZ Q s := by
  by_cases h : 100 ≤ qH Q s
  · rw [qZ_ge h, qZ_ge (by rw [h1]; exact h), h2]
  · rw [qZ_lt h, qZ_lt (by rw [h1]; exact h)]
theorem qZ_le {Q : tQ} (h : qInv Q) {s : Nat} (hs : s < 8) : qZ Q s ≤ 160 := by
  have := h s hs
  unfold qZ
  split <;> omega
theorem k_X8_hasShelf {D : Nat} (hD : 1 ≤ D) {M : tM} {x : Nat} (s : Int) (h1 : -2147483648 ≤ s) (h2 : s ≤ 2147483647) : exF D m_X8_hasShelf [.ref x, .int (iI s)] M = some (some (.int (bi (0 ≤ s ∧ s < 8))), M) := by
  obtain ⟨D, rfl⟩ : ∃ D0, D = D0 + 1 := ⟨D - 1, by omega⟩
  simp (maxSteps := 4000000) (disch := omega) only [en_X8_hasShelf, s_X8_hasShelf_0, s_X8_hasShelf_1, s_X8_hasShelf_4, s_X8_hasShelf_5, s_X8_hasShelf_7, s_X8_hasShelf_10, s_X8_hasShelf_11, s_X8_hasShelf_14, s_X8_hasShelf_15, iI_add, iI_sub, iI_mul, iI_neg, iI_lt, iI_le, iI_eq, iI_toInt, tn_n, tn_1, inb_I, Int.reduceEq, Int.reduceLT, Int.reduceLE, Int.reduceAdd, Int.reduceSub, Int.reduceMul, Int.reduceNeg, Int.reduceToNat, Nat.reduceAdd, Nat.reduceMul, Int.reduceNatCast, reduceCtorEq, Int.cast_ofNat_Int, bi_tr, bi_fa, bi_0, bi_1, not_true_eq_false, not_false_eq_true, rnk_v, rnk_n, ↓reduceIte, i00, i11, ibi, or_true, true_or, and_true, true_and, List.cons_append, List.nil_append, Option.toList]
  unfold bi
  (repeat' split) <;> first | rfl | (exfalso; omega) | (refine congrArg (fun z => some (some (Value.int (iI z)), M)) ?_; omega)
theorem k_X8_hasRow {D : Nat} (hD : 2 ≤ D) {M : tM} {Q : tQ} (hR : RepS M Q) (hI : qInv Q) {s : Nat} (hs : s < 8) : exF D m_X8_hasRow [.ref 30, .int (iI s)] M = some (some (.int (bi (100 ≤ qH Q s))), M) := by
  obtain ⟨D, rfl⟩ : ∃ D0, D = D0 + 1 := ⟨D - 1, by omega⟩
  have g1 := hR s hs
  have g2 := hI s hs
  simp (maxSteps := 4000000) (disch := omega) only [en_X8_hasRow, s_X8_hasRow_0, s_X8_hasRow_1, s_X8_hasRow_2, s_X8_hasRow_5, s_X8_hasRow_8, s_X8_hasRow_9, s_X8_hasRow_12, s_X8_hasRow_13, s_X8_hasRow_14, s_X8_hasRow_16, s_X8_hasRow_19, s_X8_hasRow_20, s_X8_hasRow_23, s_X8_hasRow_24, k_X8_hasShelf (show _ ≤ D by omega), bi_t (show (0 ≤ (s : Int) ∧ (s : Int) < 8) by omega), cls_30, fv_30_0, fv_30_1, fv_30_2, ak_31, al_31, ak_32, al_32, ak_33, al_33, rf_33, g1, iI_add, iI_sub, iI_mul, iI_neg, iI_lt, iI_le, iI_eq, iI_toInt, tn_n, tn_1, inb_I, Int.reduceEq, Int.reduceLT, Int.reduceLE, Int.reduceAdd, Int.reduceSub, Int.reduceMul, Int.reduceNeg, Int.reduceToNat, Nat.reduceAdd, Nat.reduceMul, Int.reduceNatCast, reduceCtorEq, Int.cast_ofNat_Int, bi_tr, bi_fa, bi_0, bi_1, not_true_eq_false, not_false_eq_true, rnk_v, rnk_n, ↓reduceIte, i00, i11, ibi, or_true, true_or, and_true, true_and, List.cons_append, List.nil_append, Option.toList]
  unfold bi
  (repeat' split) <;> first | rfl | (exfalso; omega) | (refine congrArg (fun z => some (some (Value.int (iI z)), M)) ?_; omega)
theorem k_X8_hasRow_o {D : Nat} (hD : 2 ≤ D) {M : tM} {s : Int} (h1 : -2147483648 ≤ s) (h2 : s ≤ 2147483647) (hs : ¬ (0 ≤ s ∧ s < 8)) : exF D m_X8_hasRow [.ref 30, .int (iI s)] M = some (some (.int (iI 0)), M) := by
  obtain ⟨D, rfl⟩ : ∃ D0, D = D0 + 1 := ⟨D - 1, by omega⟩
  simp (maxSteps := 4000000) (disch := omega) only [en_X8_hasRow, s_X8_hasRow_0, s_X8_hasRow_1, s_X8_hasRow_2, s_X8_hasRow_5, s_X8_hasRow_8, s_X8_hasRow_9, s_X8_hasRow_12, s_X8_hasRow_13, s_X8_hasRow_14, s_X8_hasRow_16, s_X8_hasRow_19, s_X8_hasRow_20, s_X8_hasRow_23, s_X8_hasRow_24, k_X8_hasShelf (show _ ≤ D by omega), bi_f hs, cls_30, fv_30_0, fv_30_1, fv_30_2, ak_31, al_31, ak_32, al_32, ak_33, al_33, rf_33, iI_add, iI_sub, iI_mul, iI_neg, iI_lt, iI_le, iI_eq, iI_toInt, tn_n, tn_1, inb_I, Int.reduceEq, Int.reduceLT, Int.reduceLE, Int.reduceAdd, Int.reduceSub, Int.reduceMul, Int.reduceNeg, Int.reduceToNat, Nat.reduceAdd, Nat.reduceMul, Int.reduceNatCast, reduceCtorEq, Int.cast_ofNat_Int, bi_tr, bi_fa, bi_0, bi_1, not_true_eq_false, not_false_eq_true, rnk_v, rnk_n, ↓reduceIte, i00, i11, ibi, or_true, true_or, and_true, true_and, List.cons_append, List.nil_append, Option.toList]
theorem k_X8_heldAt {D : Nat} (hD : 2 ≤ D) {M : tM} {Q : tQ} (hR : RepS M Q) {s : Nat} (hs : s < 8) : exF D m_X8_heldAt [.ref 30, .int (iI s)] M = some (some (.int (iI (qH Q s))), M) := by
  obtain ⟨D, rfl⟩ : ∃ D0, D = D0 + 1 := ⟨D - 1, by omega⟩
  have g1 := hR s hs
  simp (maxSteps := 4000000) (disch := omega) only [en_X8_heldAt, s_X8_heldAt_0, s_X8_heldAt_1, s_X8_heldAt_2, s_X8_heldAt_5, s_X8_heldAt_8, s_X8_heldAt_9, s_X8_heldAt_12, s_X8_heldAt_13, s_X8_heldAt_14, s_X8_heldAt_17, s_X8_heldAt_18, k_X8_hasShelf (show _ ≤ D by omega), bi_t (show (0 ≤ (s : Int) ∧ (s : Int) < 8) by omega), cls_30, fv_30_0, fv_30_1, fv_30_2, ak_31, al_31, ak_32, al_32, ak_33, al_33, rf_33, g1, iI_add, iI_sub, iI_mul, iI_neg, iI_lt, iI_le, iI_eq, iI_toInt, tn_n, tn_1, inb_I, Int.reduceEq, Int.reduceLT, Int.reduceLE, Int.reduceAdd, Int.reduceSub, Int.reduceMul, Int.reduceNeg, Int.reduceToNat, Nat.reduceAdd, Nat.reduceMul, Int.reduceNatCast, reduceCtorEq, Int.cast_ofNat_Int, bi_tr, bi_fa, bi_0, bi_1, not_true_eq_false, not_false_eq_true, rnk_v, rnk_n, ↓reduceIte, i00, i11, ibi, or_true, true_or, and_true, true_and, List.cons_append, List.nil_append, Option.toList]
theorem k_X8_heldAt_o {D : Nat} (hD : 2 ≤ D) {M : tM} {s : Int} (h1 : -2147483648 ≤ s) (h2 : s ≤ 2147483647) (hs : ¬ (0 ≤ s ∧ s < 8)) : exF D m_X8_heldAt [.ref 30, .int (iI s)] M = some (some (.int (iI (-1))), M) := by
  obtain ⟨D, rfl⟩ : ∃ D0, D = D0 + 1 := ⟨D - 1, by omega⟩
  simp (maxSteps := 4000000) (disch := omega) only [en_X8_heldAt, s_X8_heldAt_0, s_X8_heldAt_1, s_X8_heldAt_2, s_X8_heldAt_5, s_X8_heldAt_8, s_X8_heldAt_9, s_X8_heldAt_12, s_X8_heldAt_13, s_X8_heldAt_14, s_X8_heldAt_17, s_X8_heldAt_18, k_X8_hasShelf (show _ ≤ D by omega), bi_f hs, cls_30, fv_30_0, fv_30_1, fv_30_2, ak_31, al_31, ak_32, al_32, ak_33, al_33, rf_33, iI_add, iI_sub, iI_mul, iI_neg, iI_lt, iI_le, iI_eq, iI_toInt, tn_n, tn_1, inb_I, Int.reduceEq, Int.reduceLT, Int.reduceLE, Int.reduceAdd, Int.reduceSub, Int.reduceMul, Int.reduceNeg, Int.reduceToNat, Nat.reduceAdd, Nat.reduceMul, Int.reduceNatCast, reduceCtorEq, Int.cast_ofNat_Int, bi_tr, bi_fa, bi_0, bi_1, not_true_eq_false, not_false_eq_true, rnk_v, rnk_n, ↓reduceIte, i00, i11, ibi, or_true, true_or, and_true, true_and, List.cons_append, List.nil_append, Option.toList]
theorem k_X8_sizeOf {D : Nat} (hD : 2 ≤ D) {M : tM} {Q : tQ} (hR : RepS M Q) (hI : qInv Q) {s : Nat} (hs : s < 8) : exF D m_X8_sizeOf [.ref 30, .int (iI s)] M = some (some (.int (iI (qZ Q s))), M) := by
  obtain ⟨D, rfl⟩ : ∃ D0, D = D0 + 1 := ⟨D - 1, by omega⟩
  have g1 := hR s hs
  simp (maxSteps := 4000000) (disch := omega) only [en_X8_sizeOf, s_X8_sizeOf_0, s_X8_sizeOf_1, s_X8_sizeOf_2, s_X8_sizeOf_5, s_X8_sizeOf_8, s_X8_sizeOf_9, s_X8_sizeOf_12, s_X8_sizeOf_13, s_X8_sizeOf_14, s_X8_sizeOf_17, s_X8_sizeOf_18, k_X8_hasShelf (show _ ≤ D by omega), bi_t (show (0 ≤ (s : Int) ∧ (s : Int) < 8) by omega), cls_30, fv_30_0, fv_30_1, fv_30_2, ak_31, al_31, ak_32, al_32, ak_33, al_33, rf_33, g1, iI_add, iI_sub, iI_mul, iI_neg, iI_lt, iI_le, iI_eq, iI_toInt, tn_n, tn_1, inb_I, Int.reduceEq, Int.reduceLT, Int.reduceLE, Int.reduceAdd, Int.reduceSub, Int.reduceMul, Int.reduceNeg, Int.reduceToNat, Nat.reduceAdd, Nat.reduceMul, Int.reduceNatCast, reduceCtorEq, Int.cast_ofNat_Int, bi_tr, bi_fa, bi_0, bi_1, not_true_eq_false, not_false_eq_true, rnk_v, rnk_n, ↓reduceIte, i00, i11, ibi, or_true, true_or, and_true, true_and, List.cons_append, List.nil_append, Option.toList]
theorem k_X8_sizeOf_o {D : Nat} (hD : 2 ≤ D) {M : tM} {s : Int} (h1 : -2147483648 ≤ s) (h2 : s ≤ 2147483647) (hs : ¬ (0 ≤ s ∧ s < 8)) : exF D m_X8_sizeOf [.ref 30, .int (iI s)] M = some (some (.int (iI 0)), M) := by
  obtain ⟨D, rfl⟩ : ∃ D0, D = D0 + 1 := ⟨D - 1, by omega⟩
  simp (maxSteps := 4000000) (disch := omega) only [en_X8_sizeOf, s_X8_sizeOf_0, s_X8_sizeOf_1, s_X8_sizeOf_2, s_X8_sizeOf_5, s_X8_sizeOf_8, s_X8_sizeOf_9, s_X8_sizeOf_12, s_X8_sizeOf_13, s_X8_sizeOf_14, s_X8_sizeOf_17, s_X8_sizeOf_18, k_X8_hasShelf (show _ ≤ D by omega), bi_f hs, cls_30, fv_30_0, fv_30_1, fv_30_2, ak_31, al_31, ak_32, al_32, ak_33, al_33, rf_33, iI_add, iI_sub, iI_mul, iI_neg, iI_lt, iI_le, iI_eq, iI_toInt, tn_n, tn_1, inb_I, Int.reduceEq, Int.reduceLT, Int.reduceLE, Int.reduceAdd, Int.reduceSub, Int.reduceMul, Int.reduceNeg, Int.reduceToNat, Nat.reduceAdd, Nat.reduceMul, Int.reduceNatCast, reduceCtorEq, Int.cast_ofNat_Int, bi_tr, bi_fa, bi_0, bi_1, not_true_eq_false, not_false_eq_true, rnk_v, rnk_n, ↓reduceIte, i00, i11, ibi, or_true, true_or, and_true, true_and, List.cons_append, List.nil_append, Option.toList]
theorem k_X8_hasElement {D : Nat} (hD : 3 ≤ D) {M : tM} {Q : tQ} (hR : RepS M Q) (hI : qInv Q) {s : Nat} (hs : s < 8) (i : Int) (h1 : -2147483648 ≤ i) (h2 : i ≤ 2147483647) : exF D m_X8_hasElement [.ref 30, .int (iI s), .int (iI i)] M = some (some (.int (bi (0 ≤ i ∧ i < (qZ Q s : Int)))), M) := by
  obtain ⟨D, rfl⟩ : ∃ D0, D = D0 + 1 := ⟨D - 1, by omega⟩
  have g1 := qZ_le hI hs
  simp (maxSteps := 4000000) (disch := omega) only [en_X8_hasElement, s_X8_hasElement_0, s_X8_hasElement_1, s_X8_hasElement_4, s_X8_hasElement_5, s_X8_hasElement_6, s_X8_hasElement_7, s_X8_hasElement_10, s_X8_hasElement_13, s_X8_hasElement_14, s_X8_hasElement_17, s_X8_hasElement_20, s_X8_hasElement_21, s_X8_hasElement_24, s_X8_hasElement_25, k_X8_sizeOf (show _ ≤ D by omega) hR hI hs, cls_30, fv_30_0, fv_30_1, fv_30_2, ak_31, al_31, ak_32, al_32, ak_33, al_33, rf_33, iI_add, iI_sub, iI_mul, iI_neg, iI_lt, iI_le, iI_eq, iI_toInt, tn_n, tn_1, inb_I, Int.reduceEq, Int.reduceLT, Int.reduceLE, Int.reduceAdd, Int.reduceSub, Int.reduceMul, Int.reduceNeg, Int.reduceToNat, Nat.reduceAdd, Nat.reduceMul, Int.reduceNatCast, reduceCtorEq, Int.cast_ofNat_Int, bi_tr, bi_fa, bi_0, bi_1, not_true_eq_false, not_false_eq_true, rnk_v, rnk_n, ↓reduceIte, i00, i11, ibi, or_true, true_or, and_true, true_and, List.cons_append, List.nil_append, Option.toList]
  unfold bi
  (repeat' split) <;> first | rfl | (exfalso; omega) | (refine congrArg (fun z => some (some (Value.int (iI z)), M)) ?_; omega)
theorem k_X8_hasElement_o {D : Nat} (hD : 3 ≤ D) {M : tM} {s : Int} (h1 : -2147483648 ≤ s) (h2 : s ≤ 2147483647) (hs : ¬ (0 ≤ s ∧ s < 8)) (i : Int) (h3 : -2147483648 ≤ i) (h4 : i ≤ 2147483647) : exF D m_X8_hasElement [.ref 30, .int (iI s), .int (iI i)] M = some (some (.int (iI 0)), M) := by
  obtain ⟨D, rfl⟩ : ∃ D0, D = D0 + 1 := ⟨D - 1, by omega⟩
  simp (maxSteps := 4000000) (disch := omega) only [en_X8_hasElement, s_X8_hasElement_0, s_X8_hasElement_1, s_X8_hasElement_4, s_X8_hasElement_5, s_X8_hasElement_6, s_X8_hasElement_7, s_X8_hasElement_10, s_X8_hasElement_13, s_X8_hasElement_14, s_X8_hasElement_17, s_X8_hasElement_20, s_X8_hasElement_21, s_X8_hasElement_24, s_X8_hasElement_25, k_X8_sizeOf_o (show _ ≤ D by omega) h1 h2 hs, cls_30, fv_30_0, fv_30_1, fv_30_2, ak_31, al_31, ak_32, al_32, ak_33, al_33, rf_33, iI_add, iI_sub, iI_mul, iI_neg, iI_lt, iI_le, iI_eq, iI_toInt, tn_n, tn_1, inb_I, Int.reduceEq, Int.reduceLT, Int.reduceLE, Int.reduceAdd, Int.reduceSub, Int.reduceMul, Int.reduceNeg, Int.reduceToNat, Nat.reduceAdd, Nat.reduceMul, Int.reduceNatCast, reduceCtorEq, Int.cast_ofNat_Int, bi_tr, bi_fa, bi_0, bi_1, not_true_eq_false, not_false_eq_true, rnk_v, rnk_n, ↓reduceIte, i00, i11, ibi, or_true, true_or, and_true, true_and, List.cons_append, List.nil_append, Option.toList]
  (repeat' split) <;> first | rfl | (exfalso; omega) | (refine congrArg (fun z => some (some (Value.int (iI z)), M)) ?_; omega)
theorem k_X8_elementAt {D : Nat} (hD : 4 ≤ D) {M : tM} {Q : tQ} (hR : RepS M Q) (hI : qInv Q) {s : Nat} (hs : s < 8) {i : Nat} (hi : i < qZ Q s) : exF D m_X8_elementAt [.ref 30, .int (iI s), .int (iI i)] M = some (some (.long (qE Q s i)), M) := by
  obtain ⟨D, rfl⟩ : ∃ D0, D = D0 + 1 := ⟨D - 1, by omega⟩
  have g1 := qZ_le hI hs
  have g2 := (hR s hs).2.2 i (by omega)
  simp (maxSteps := 4000000) (disch := omega) only [en_X8_elementAt, s_X8_elementAt_0, s_X8_elementAt_1, s_X8_elementAt_2, s_X8_elementAt_3, s_X8_elementAt_6, s_X8_elementAt_9, s_X8_elementAt_10, s_X8_elementAt_13, s_X8_elementAt_14, s_X8_elementAt_15, s_X8_elementAt_16, s_X8_elementAt_17, s_X8_elementAt_20, s_X8_elementAt_21, k_X8_hasElement (show _ ≤ D by omega) hR hI hs, bi_t (show 0 ≤ (i : Int) ∧ (i : Int) < (qZ Q s : Int) by omega), cls_30, fv_30_0, fv_30_1, fv_30_2, ak_31, al_31, ak_32, al_32, ak_33, al_33, rf_33, rw_ak, rw_al, g2, iI_add, iI_sub, iI_mul, iI_neg, iI_lt, iI_le, iI_eq, iI_toInt, tn_n, tn_1, inb_I, Int.reduceEq, Int.reduceLT, Int.reduceLE, Int.reduceAdd, Int.reduceSub, Int.reduceMul, Int.reduceNeg, Int.reduceToNat, Nat.reduceAdd, Nat.reduceMul, Int.reduceNatCast, reduceCtorEq, Int.cast_ofNat_Int, bi_tr, bi_fa, bi_0, bi_1, not_true_eq_false, not_false_eq_true, rnk_v, rnk_n, ↓reduceIte, i00, i11, ibi, or_true, true_or, and_true, true_and, List.cons_append, List.nil_append, Option.toList]
theorem k_X8_elementAt_o {D : Nat} (hD : 4 ≤ D) {M : tM} {Q : tQ} (hR : RepS M Q) (hI : qInv Q) (s : Int) (h1 : -2147483648 ≤ s) (h2 : s ≤ 2147483647) (i : Int) (h3 : -2147483648 ≤ i) (h4 : i ≤ 2147483647) (h : ¬ ((0 ≤ s ∧ s < 8) ∧ 0 ≤ i ∧ i < (qZ Q s.toNat : Int))) : exF D m_X8_elementAt [.ref 30, .int (iI s), .int (iI i)] M = some (some (.long (jJ 0)), M) := by
  obtain ⟨D, rfl⟩ : ∃ D0, D = D0 + 1 := ⟨D - 1, by omega⟩
  by_cases hs : 0 ≤ s ∧ s < 8
  · obtain ⟨n, rfl⟩ : ∃ n : Nat, s = n := ⟨s.toNat, by omega⟩
    simp only [Int.toNat_natCast] at h
    have h5 : ¬ (0 ≤ i ∧ i < (qZ Q n : Int)) := fun q => h ⟨hs, q⟩
    simp (maxSteps := 4000000) (disch := omega) only [en_X8_elementAt, s_X8_elementAt_0, s_X8_elementAt_1, s_X8_elementAt_2, s_X8_elementAt_3, s_X8_elementAt_6, s_X8_elementAt_9, s_X8_elementAt_10, s_X8_elementAt_13, s_X8_elementAt_14, s_X8_elementAt_15, s_X8_elementAt_16, s_X8_elementAt_17, s_X8_elementAt_20, s_X8_elementAt_21, k_X8_hasElement (show _ ≤ D by omega) hR hI (show n < 8 by omega), bi_f h5, cls_30, fv_30_0, fv_30_1, fv_30_2, ak_31, al_31, ak_32, al_32, ak_33, al_33, rf_33, iI_add, iI_sub, iI_mul, iI_neg, iI_lt, iI_le, iI_eq, iI_toInt, tn_n, tn_1, inb_I, Int.reduceEq, Int.reduceLT, Int.reduceLE, Int.reduceAdd, Int.reduceSub, Int.reduceMul, Int.reduceNeg, Int.reduceToNat, Nat.reduceAdd, Nat.reduceMul, Int.reduceNatCast, reduceCtorEq, Int.cast_ofNat_Int, bi_tr, bi_fa, bi_0, bi_1, not_true_eq_false, not_false_eq_true, rnk_v, rnk_n, ↓reduceIte, i00, i11, ibi, or_true, true_or, and_true, true_and, List.cons_append, List.nil_append, Option.toList]
  · simp (maxSteps := 4000000) (disch := omega) only [en_X8_elementAt, s_X8_elementAt_0, s_X8_elementAt_1, s_X8_elementAt_2, s_X8_elementAt_3, s_X8_elementAt_6, s_X8_elementAt_9, s_X8_elementAt_10, s_X8_elementAt_13, s_X8_elementAt_14, s_X8_elementAt_15, s_X8_elementAt_16, s_X8_elementAt_17, s_X8_elementAt_20, s_X8_elementAt_21, k_X8_hasElement_o (show _ ≤ D by omega) h1 h2 hs, cls_30, fv_30_0, fv_30_1, fv_30_2, ak_31, al_31, ak_32, al_32, ak_33, al_33, rf_33, iI_add, iI_sub, iI_mul, iI_neg, iI_lt, iI_le, iI_eq, iI_toInt, tn_n, tn_1, inb_I, Int.reduceEq, Int.reduceLT, Int.reduceLE, Int.reduceAdd, Int.reduceSub, Int.reduceMul, Int.reduceNeg, Int.reduceToNat, Nat.reduceAdd, Nat.reduceMul, Int.reduceNatCast, reduceCtorEq, Int.cast_ofNat_Int, bi_tr, bi_fa, bi_0, bi_1, not_true_eq_false, not_false_eq_true, rnk_v, rnk_n, ↓reduceIte, i00, i11, ibi, or_true, true_or, and_true, true_and, List.cons_append, List.nil_append, Option.toList]
theorem k_X8_intAt {D : Nat} (hD : 5 ≤ D) {M : tM} {Q : tQ} (hR : RepS M Q) (hI : qInv Q) {s : Nat} (hs : s < 8) {i : Nat} (hi : i < qZ Q s) : exF D m_X8_intAt [.ref 30, .int (iI s), .int (iI i)] M = some (some (.int (iI (qI Q s i))), M) := by
  obtain ⟨D, rfl⟩ : ∃ D0, D = D0 + 1 := ⟨D - 1, by omega⟩
  simp (maxSteps := 4000000) (disch := omega) only [en_X8_intAt, s_X8_intAt_0, s_X8_intAt_1, s_X8_intAt_2, s_X8_intAt_3, s_X8_intAt_6, s_X8_intAt_7, k_X8_elementAt (show _ ≤ D by omega) hR hI hs hi, cls_30, fv_30_0, fv_30_1, fv_30_2, ak_31, al_31, ak_32, al_32, ak_33, al_33, rf_33, iI_add, iI_sub, iI_mul, iI_neg, iI_lt, iI_le, iI_eq, iI_toInt, tn_n, tn_1, inb_I, Int.reduceEq, Int.reduceLT, Int.reduceLE, Int.reduceAdd, Int.reduceSub, Int.reduceMul, Int.reduceNeg, Int.reduceToNat, Nat.reduceAdd, Nat.reduceMul, Int.reduceNatCast, reduceCtorEq, Int.cast_ofNat_Int, bi_tr, bi_fa, bi_0, bi_1, not_true_eq_false, not_false_eq_true, rnk_v, rnk_n, ↓reduceIte, i00, i11, ibi, or_true, true_or, and_true, true_and, List.cons_append, List.nil_append, Option.toList]
  unfold qI
  rw [iI_of]
/-- low bits of a long, by the sort of a row -/
def lbQ (v : Int64) (k : Int) : Int64 := if k = 0 then v.toInt32.toInt8.toInt32.toInt64 else if k = 1 then v.toInt32.toInt16.toInt32.toInt64 else if k = 2 then v.toInt32.toInt64 else v
def qRow (Q : tQ) (s : Nat) (sort : Int) (n : Nat) : tQ := (fun x => if x = s then 100 + sort else Q.1 x, fun x => if x = s then n else Q.2.1 x, fun x y => if x = s then jJ 0 else Q.2.2 x y)
def qPut (Q : tQ) (s : Nat) (c : Int) : tQ := (fun x => if x = s then c else Q.1 x, Q.2)
def qSet (Q : tQ) (s i : Nat) (v : Int64) : tQ := (Q.1, Q.2.1, fun x y => if x = s ∧ y = i then v else Q.2.2 x y)
def qCopy (Q : tQ) (p q i j n : Nat) : tQ := (Q.1, Q.2.1, fun x y => if x = q then cpy (Q.2.2 p) (Q.2.2 q) i j n y else Q.2.2 x y)
def qDrop (Q : tQ) (c : Nat) : tQ := (fun x => if (c : Int) ≤ Q.1 x ∧ Q.1 x < 100 then -1 else Q.1 x, Q.2)
theorem qRow_inv {Q : tQ} (h : qInv Q) {s : Nat} {sort : Int} {n : Nat} (h1 : 0 ≤ sort ∧ sort ≤ 3) (h2 : n ≤ 160) : qInv (qRow Q s sort n) := by
  intro x hx
  have := h x hx
  simp only [qRow, qH, qN] at *
  by_cases e : x = s <;> simp [e] <;> omega
theorem qPut_inv {Q : tQ} (h : qInv Q) {s : Nat} {c : Int} (h1 : -1 ≤ c ∧ c ≤ 103) : qInv (qPut Q s c) := by
  intro x hx
  have := h x hx
  simp only [qPut, qH, qN] at *
  by_cases e : x = s
  · rw [if_pos e]; exact ⟨h1, this.2⟩
  · rw [if_neg e]; exact this
theorem qSet_inv {Q : tQ} (h : qInv Q) {s i : Nat} {v : Int64} : qInv (qSet Q s i v) := h
theorem qCopy_inv {Q : tQ} (h : qInv Q) {p q i j n : Nat} : qInv (qCopy Q p q i j n) := h
theorem qDrop_inv {Q : tQ} (h : qInv Q) {c : Nat} : qInv (qDrop Q c) := by
  intro x hx
  have := h x hx
  simp only [qDrop, qH, qN] at *
  split <;> omega
theorem k_X8_putRow {D : Nat} (hD : 2 ≤ D) {M : tM} {Q : tQ} (hR : RepS M Q) {s : Nat} (hs : s < 8) {sort : Int} (hso : 0 ≤ sort) {n : Nat} (hn : n ≤ 160) : ∃ M', exF D m_X8_putRow [.ref 30, .int (iI s), .int (iI sort), .int (iI n)] M = some (none, M') ∧ RepS M' (qRow Q s sort n) ∧ Sm [31, 32, 34 + s] M M' := by
  obtain ⟨D, rfl⟩ : ∃ D0, D = D0 + 1 := ⟨D - 1, by omega⟩
  refine ⟨rJ (sI (sI M 31 s (iI (100 + sort))) 32 s (iI n)) (34 + s) (fun k => if k < 160 then jJ 0 else M.2 (34 + s) k), ?_, ?_, ?_⟩
  · simp (maxSteps := 4000000) (disch := omega) only [en_X8_putRow, s_X8_putRow_0, s_X8_putRow_1, s_X8_putRow_2, s_X8_putRow_5, s_X8_putRow_8, s_X8_putRow_9, s_X8_putRow_12, s_X8_putRow_13, s_X8_putRow_16, s_X8_putRow_19, s_X8_putRow_20, s_X8_putRow_23, s_X8_putRow_24, s_X8_putRow_26, s_X8_putRow_27, s_X8_putRow_28, s_X8_putRow_29, s_X8_putRow_30, s_X8_putRow_33, s_X8_putRow_34, s_X8_putRow_35, s_X8_putRow_36, s_X8_putRow_37, s_X8_putRow_40, s_X8_putRow_41, s_X8_putRow_42, s_X8_putRow_43, s_X8_putRow_46, k_X8_hasShelf (show _ ≤ D by omega), cls_30, fv_30_0, fv_30_1, fv_30_2, ak_31, al_31, ak_32, al_32, ak_33, al_33, rf_33, ltT, ltF, leT, leF, eqT, eqF, and_self, k_fillJ (show _ ≤ D by omega) (rw_ak hs) (rw_al hs), sI_2, iI_add, iI_sub, iI_mul, iI_neg, iI_lt, iI_le, iI_eq, iI_toInt, tn_n, tn_1, inb_I, Int.reduceEq, Int.reduceLT, Int.reduceLE, Int.reduceAdd, Int.reduceSub, Int.reduceMul, Int.reduceNeg, Int.reduceToNat, Nat.reduceAdd, Nat.reduceMul, Int.reduceNatCast, reduceCtorEq, Int.cast_ofNat_Int, bi_tr, bi_fa, bi_0, bi_1, not_true_eq_false, not_false_eq_true, rnk_v, rnk_n, ↓reduceIte, i00, i11, ibi, or_true, true_or, and_true, true_and, List.cons_append, List.nil_append, Option.toList]
  · intro x hx
    obtain ⟨h1, h2, h3⟩ := hR x hx
    simp (disch := omega) only [rJ_1, sI_a, sI_2]
    by_cases e : x = s
    · subst e
      simp (disch := omega) only [sI_s, sI_a, rJ_s]
      refine ⟨by simp [qRow, qH], ?_, ?_⟩
      · rw [show qZ (qRow Q x sort n) x = n by simp [qZ, qRow, qH, qN]; omega]
      · intro i hi
        simp [qRow, qE, hi]
    · simp (disch := omega) only [sI_k, sI_a, rJ_a, sI_2]
      rw [h1, h2]
      refine ⟨by simp [qRow, qH, e], by rw [qZ_cg (P := qRow Q s sort n) (Q := Q) (if_neg e) (if_neg e)], ?_⟩
      intro i hi
      rw [h3 i hi]
      simp [qRow, qE, e]
  · exact Sm_tr (Sm_tr (Sm_sI (by simp)) (Sm_sI (by simp))) (Sm_rJ (by simp))
theorem k_X8_putHeld {D : Nat} (hD : 2 ≤ D) {M : tM} {Q : tQ} (hR : RepS M Q) {s : Nat} (hs : s < 8) {c : Int} (hc : c < 100) : ∃ M', exF D m_X8_putHeld [.ref 30, .int (iI s), .int (iI c)] M = some (none, M') ∧ RepS M' (qPut Q s c) ∧ Sm [31, 32] M M' := by
  obtain ⟨D, rfl⟩ : ∃ D0, D = D0 + 1 := ⟨D - 1, by omega⟩
  refine ⟨sI (sI M 31 s (iI c)) 32 s (iI 0), ?_, ?_, Sm_tr (Sm_sI (by simp)) (Sm_sI (by simp))⟩
  · simp (maxSteps := 4000000) (disch := omega) only [en_X8_putHeld, s_X8_putHeld_0, s_X8_putHeld_1, s_X8_putHeld_2, s_X8_putHeld_5, s_X8_putHeld_8, s_X8_putHeld_9, s_X8_putHeld_12, s_X8_putHeld_13, s_X8_putHeld_14, s_X8_putHeld_15, s_X8_putHeld_16, s_X8_putHeld_19, s_X8_putHeld_20, s_X8_putHeld_21, s_X8_putHeld_22, k_X8_hasShelf (show _ ≤ D by omega), bi_t (show (0 ≤ (s : Int) ∧ (s : Int) < 8) by omega), cls_30, fv_30_0, fv_30_1, fv_30_2, ak_31, al_31, ak_32, al_32, ak_33, al_33, rf_33, iI_add, iI_sub, iI_mul, iI_neg, iI_lt, iI_le, iI_eq, iI_toInt, tn_n, tn_1, inb_I, Int.reduceEq, Int.reduceLT, Int.reduceLE, Int.reduceAdd, Int.reduceSub, Int.reduceMul, Int.reduceNeg, Int.reduceToNat, Nat.reduceAdd, Nat.reduceMul, Int.reduceNatCast, reduceCtorEq, Int.cast_ofNat_Int, bi_tr, bi_fa, bi_0, bi_1, not_true_eq_false, not_false_eq_true, rnk_v, rnk_n, ↓reduceIte, i00, i11, ibi, or_true, true_or, and_true, true_and, List.cons_append, List.nil_append, Option.toList]
  · intro x hx
    obtain ⟨h1, h2, h3⟩ := hR x hx
    by_cases e : x = s
    · subst e
      simp (disch := omega) only [sI_s, sI_a, sI_2]
      refine ⟨by simp [qPut, qH], ?_, h3⟩
      rw [show qZ (qPut Q x c) x = 0 by simp [qZ, qPut, qH]; omega]
      rfl
    · simp (disch := omega) only [sI_k, sI_a, sI_2]
      rw [h1, h2]
      exact ⟨by simp [qPut, qH, e], by rw [qZ_cg (P := qPut Q s c) (Q := Q) (if_neg e) rfl], h3⟩
theorem k_X8_lowestBits {D : Nat} (hD : 1 ≤ D) {M : tM} {v : Int64} {k : Int} (h1 : 0 ≤ k) (h2 : k ≤ 3) : exF D m_X8_lowestBits [.long v, .int (iI k)] M = some (some (.long (lbQ v k)), M) := by
  obtain ⟨D, rfl⟩ : ∃ D0, D = D0 + 1 := ⟨D - 1, by omega⟩
  simp (maxSteps := 4000000) (disch := omega) only [en_X8_lowestBits, s_X8_lowestBits_0, s_X8_lowestBits_1, s_X8_lowestBits_28, s_X8_lowestBits_29, s_X8_lowestBits_30, s_X8_lowestBits_31, s_X8_lowestBits_32, s_X8_lowestBits_33, s_X8_lowestBits_34, s_X8_lowestBits_35, s_X8_lowestBits_36, s_X8_lowestBits_37, s_X8_lowestBits_38, s_X8_lowestBits_39, s_X8_lowestBits_40, s_X8_lowestBits_41, s_X8_lowestBits_42, s_X8_lowestBits_43, iI_add, iI_sub, iI_mul, iI_neg, iI_lt, iI_le, iI_eq, iI_toInt, tn_n, tn_1, inb_I, Int.reduceEq, Int.reduceLT, Int.reduceLE, Int.reduceAdd, Int.reduceSub, Int.reduceMul, Int.reduceNeg, Int.reduceToNat, Nat.reduceAdd, Nat.reduceMul, Int.reduceNatCast, reduceCtorEq, Int.cast_ofNat_Int, bi_tr, bi_fa, bi_0, bi_1, not_true_eq_false, not_false_eq_true, rnk_v, rnk_n, ↓reduceIte, i00, i11, ibi, or_true, true_or, and_true, true_and, List.cons_append, List.nil_append, Option.toList]
  unfold lbQ
  (repeat' split) <;> first | rfl | (exfalso; omega)
theorem k_X8_putElement {D : Nat} (hD : 4 ≤ D) {M : tM} {Q : tQ} (hR : RepS M Q) (hI : qInv Q) {s : Nat} (hs : s < 8) {i : Nat} (hi : i < qZ Q s) {v : Int64} : ∃ M', exF D m_X8_putElement [.ref 30, .int (iI s), .int (iI i), .long v] M = some (none, M') ∧ RepS M' (qSet Q s i (lbQ v (qH Q s - 100))) ∧ Sm [34 + s] M M' := by
  obtain ⟨D, rfl⟩ : ∃ D0, D = D0 + 1 := ⟨D - 1, by omega⟩
  have g1 := qZ_le hI hs
  have g2 := hR s hs
  have g3 := hI s hs
  have g4 : 100 ≤ qH Q s := by
    unfold qZ at hi
    split at hi <;> omega
  refine ⟨sJ M (34 + s) i (lbQ v (qH Q s - 100)), ?_, ?_, Sm_sJ (by simp)⟩
  · simp (maxSteps := 4000000) (disch := omega) only [en_X8_putElement, s_X8_putElement_0, s_X8_putElement_1, s_X8_putElement_2, s_X8_putElement_3, s_X8_putElement_6, s_X8_putElement_9, s_X8_putElement_10, s_X8_putElement_13, s_X8_putElement_14, s_X8_putElement_15, s_X8_putElement_16, s_X8_putElement_17, s_X8_putElement_18, s_X8_putElement_21, s_X8_putElement_22, s_X8_putElement_23, s_X8_putElement_25, s_X8_putElement_26, s_X8_putElement_29, s_X8_putElement_30, k_X8_hasElement (show _ ≤ D by omega) hR hI hs, bi_t (show 0 ≤ (i : Int) ∧ (i : Int) < (qZ Q s : Int) by omega), cls_30, fv_30_0, fv_30_1, fv_30_2, ak_31, al_31, ak_32, al_32, ak_33, al_33, rf_33, rw_ak, rw_al, g2, k_X8_lowestBits (show _ ≤ D by omega), iI_add, iI_sub, iI_mul, iI_neg, iI_lt, iI_le, iI_eq, iI_toInt, tn_n, tn_1, inb_I, Int.reduceEq, Int.reduceLT, Int.reduceLE, Int.reduceAdd, Int.reduceSub, Int.reduceMul, Int.reduceNeg, Int.reduceToNat, Nat.reduceAdd, Nat.reduceMul, Int.reduceNatCast, reduceCtorEq, Int.cast_ofNat_Int, bi_tr, bi_fa, bi_0, bi_1, not_true_eq_false, not_false_eq_true, rnk_v, rnk_n, ↓reduceIte, i00, i11, ibi, or_true, true_or, and_true, true_and, List.cons_append, List.nil_append, Option.toList]
  · intro x hx
    obtain ⟨h1, h2, h3⟩ := hR x hx
    refine ⟨h1, h2, ?_⟩
    intro k hk
    simp only [sJ, qE, qSet]
    have := h3 k hk
    by_cases e : x = s ∧ k = i
    · obtain ⟨rfl, rfl⟩ := e; simp
    · rw [if_neg (by omega), if_neg e]; exact this
theorem k_X8_hasPart {D : Nat} (hD : 3 ≤ D) {M : tM} {Q : tQ} (hR : RepS M Q) (hI : qInv Q) {s : Nat} (hs : s < 8) (i n : Int) (h1 : -2147483648 ≤ i) (h2 : i ≤ 2147483647) (h3 : -2147483648 ≤ n) (h4 : n ≤ 2147483647) : exF D m_X8_hasPart [.ref 30, .int (iI s), .int (iI i), .int (iI n)] M = some (some (.int (bi (0 ≤ i ∧ 0 ≤ n ∧ i + n ≤ (qZ Q s : Int)))), M) := by
  obtain ⟨D, rfl⟩ : ∃ D0, D = D0 + 1 := ⟨D - 1, by omega⟩
  have g1 := qZ_le hI hs
  by_cases h5 : 0 ≤ n
  · simp (maxSteps := 4000000) (disch := omega) only [en_X8_hasPart, s_X8_hasPart_0, s_X8_hasPart_1, s_X8_hasPart_4, s_X8_hasPart_5, s_X8_hasPart_8, s_X8_hasPart_9, s_X8_hasPart_10, s_X8_hasPart_11, s_X8_hasPart_14, s_X8_hasPart_17, s_X8_hasPart_18, s_X8_hasPart_19, s_X8_hasPart_20, s_X8_hasPart_23, s_X8_hasPart_24, s_X8_hasPart_25, s_X8_hasPart_28, s_X8_hasPart_29, s_X8_hasPart_32, s_X8_hasPart_33, k_X8_sizeOf (show _ ≤ D by omega) hR hI hs, cls_30, fv_30_0, fv_30_1, fv_30_2, ak_31, al_31, ak_32, al_32, ak_33, al_33, rf_33, iI_add, iI_sub, iI_mul, iI_neg, iI_lt, iI_le, iI_eq, iI_toInt, tn_n, tn_1, inb_I, Int.reduceEq, Int.reduceLT, Int.reduceLE, Int.reduceAdd, Int.reduceSub, Int.reduceMul, Int.reduceNeg, Int.reduceToNat, Nat.reduceAdd, Nat.reduceMul, Int.reduceNatCast, reduceCtorEq, Int.cast_ofNat_Int, bi_tr, bi_fa, bi_0, bi_1, not_true_eq_false, not_false_eq_true, rnk_v, rnk_n, ↓reduceIte, i00, i11, ibi, or_true, true_or, and_true, true_and, List.cons_append, List.nil_append, Option.toList]
    unfold bi
    (repeat' split) <;> first | rfl | (exfalso; omega) | (refine congrArg (fun z => some (some (Value.int (iI z)), M)) ?_; omega)
  · simp (maxSteps := 4000000) (disch := omega) only [en_X8_hasPart, s_X8_hasPart_0, s_X8_hasPart_1, s_X8_hasPart_4, s_X8_hasPart_5, s_X8_hasPart_8, s_X8_hasPart_9, s_X8_hasPart_10, s_X8_hasPart_11, s_X8_hasPart_14, s_X8_hasPart_17, s_X8_hasPart_18, s_X8_hasPart_19, s_X8_hasPart_20, s_X8_hasPart_23, s_X8_hasPart_24, s_X8_hasPart_25, s_X8_hasPart_28, s_X8_hasPart_29, s_X8_hasPart_32, s_X8_hasPart_33, k_X8_sizeOf (show _ ≤ D by omega) hR hI hs, cls_30, fv_30_0, fv_30_1, fv_30_2, ak_31, al_31, ak_32, al_32, ak_33, al_33, rf_33, ltT (show n < 0 by omega), iI_add, iI_sub, iI_mul, iI_neg, iI_lt, iI_le, iI_eq, iI_toInt, tn_n, tn_1, inb_I, Int.reduceEq, Int.reduceLT, Int.reduceLE, Int.reduceAdd, Int.reduceSub, Int.reduceMul, Int.reduceNeg, Int.reduceToNat, Nat.reduceAdd, Nat.reduceMul, Int.reduceNatCast, reduceCtorEq, Int.cast_ofNat_Int, bi_tr, bi_fa, bi_0, bi_1, not_true_eq_false, not_false_eq_true, rnk_v, rnk_n, ↓reduceIte, i00, i11, ibi, or_true, true_or, and_true, true_and, List.cons_append, List.nil_append, Option.toList]
    unfold bi
    (repeat' split) <;> first | rfl | (exfalso; omega) | (refine congrArg (fun z => some (some (Value.int (iI z)), M)) ?_; omega)
theorem k_X8_copyPart {D : Nat} (hD : 4 ≤ D) {M : tM} {Q : tQ} (hR : RepS M Q) (hI : qInv Q) {p q : Nat} (hp : p < 8) (hq : q < 8) {i j n : Nat} (h1 : i + n ≤ qZ Q p) (h2 : j + n ≤ qZ Q q) (h3 : 100 ≤ qH Q p) (h4 : 100 ≤ qH Q q) : ∃ M', exF D m_X8_copyPart [.ref 30, .int (iI p), .int (iI q), .int (iI i), .int (iI j), .int (iI n)] M = some (none, M') ∧ RepS M' (qCopy Q p q i j n) ∧ Sm [34 + q] M M' := by
  obtain ⟨D, rfl⟩ : ∃ D0, D = D0 + 1 := ⟨D - 1, by omega⟩
  have g1 := qZ_le hI hp
  have g2 := qZ_le hI hq
  refine ⟨rJ M (34 + q) (cpy (M.2 (34 + p)) (M.2 (34 + q)) i j n), ?_, ?_, Sm_rJ (by simp)⟩
  · simp (maxSteps := 4000000) (disch := omega) only [en_X8_copyPart, s_X8_copyPart_0, s_X8_copyPart_1, s_X8_copyPart_2, s_X8_copyPart_5, s_X8_copyPart_8, s_X8_copyPart_9, s_X8_copyPart_10, s_X8_copyPart_13, s_X8_copyPart_16, s_X8_copyPart_17, s_X8_copyPart_18, s_X8_copyPart_19, s_X8_copyPart_21, s_X8_copyPart_24, s_X8_copyPart_27, s_X8_copyPart_28, s_X8_copyPart_29, s_X8_copyPart_31, s_X8_copyPart_33, s_X8_copyPart_36, s_X8_copyPart_39, s_X8_copyPart_40, s_X8_copyPart_43, s_X8_copyPart_44, s_X8_copyPart_45, s_X8_copyPart_46, s_X8_copyPart_47, s_X8_copyPart_50, s_X8_copyPart_51, s_X8_copyPart_52, s_X8_copyPart_54, s_X8_copyPart_56, s_X8_copyPart_59, k_X8_hasRow (show _ ≤ D by omega) hR hI hp, k_X8_hasRow (show _ ≤ D by omega) hR hI hq, k_X8_hasPart (show _ ≤ D by omega) hR hI hp, k_X8_hasPart (show _ ≤ D by omega) hR hI hq, bi_t h3, bi_t h4, bi_t (show 0 ≤ (i : Int) ∧ 0 ≤ (n : Int) ∧ (i : Int) + (n : Int) ≤ (qZ Q p : Int) by omega), bi_t (show 0 ≤ (j : Int) ∧ 0 ≤ (n : Int) ∧ (j : Int) + (n : Int) ≤ (qZ Q q : Int) by omega), cls_30, fv_30_0, fv_30_1, fv_30_2, ak_31, al_31, ak_32, al_32, ak_33, al_33, rf_33, rw_ak, rw_al, ltT, ltF, leT, leF, eqT, eqF, and_self, iI_add, iI_sub, iI_mul, iI_neg, iI_lt, iI_le, iI_eq, iI_toInt, tn_n, tn_1, inb_I, Int.reduceEq, Int.reduceLT, Int.reduceLE, Int.reduceAdd, Int.reduceSub, Int.reduceMul, Int.reduceNeg, Int.reduceToNat, Nat.reduceAdd, Nat.reduceMul, Int.reduceNatCast, reduceCtorEq, Int.cast_ofNat_Int, bi_tr, bi_fa, bi_0, bi_1, not_true_eq_false, not_false_eq_true, rnk_v, rnk_n, ↓reduceIte, i00, i11, ibi, or_true, true_or, and_true, true_and, List.cons_append, List.nil_append, Option.toList]
  · intro x hx
    obtain ⟨e1, e2, e3⟩ := hR x hx
    obtain ⟨f1, f2, f3⟩ := hR p hp
    obtain ⟨d1, d2, d3⟩ := hR q hq
    refine ⟨e1, e2, ?_⟩
    intro k hk
    by_cases e : x = q
    · subst e
      rw [rJ_s]
      simp only [qE, qCopy, if_pos]
      unfold cpy
      split
      · exact f3 _ (by omega)
      · exact e3 k hk
    · rw [rJ_a _ _ (by omega), e3 k hk]
      simp [qE, qCopy, e]
theorem l_X8_dropCapsulesFrom {D : Nat} {c : Nat} (hc : c ≤ 5) {Q : tQ} (hI : qInv Q) : ∀ (m i : Nat), i + m = 8 → ∀ (M : tM) (x1 : Int32), x1 = iI i → (∀ s, s < 8 → M.1 31 s = iI (if s < i ∧ (c : Int) ≤ qH Q s ∧ qH Q s < 100 then -1 else qH Q s)) → ∃ M', rn (exF D) C_X8_dropCapsulesFrom 2 [some (.ref 30), some (.int (iI c)), some (.int x1)] [] M = some (none, M') ∧ (∀ s, s < 8 → M'.1 31 s = iI (qH (qDrop Q c) s)) ∧ Sm [31] M M' := by
  intro m
  induction m with
  | zero =>
    rintro i hi M x1 rfl hM
    refine ⟨M, ?_, ?_, Sm_rf _ _⟩
    · simp (maxSteps := 4000000) (disch := omega) only [s_X8_dropCapsulesFrom_0, s_X8_dropCapsulesFrom_1, s_X8_dropCapsulesFrom_2, s_X8_dropCapsulesFrom_3, s_X8_dropCapsulesFrom_5, s_X8_dropCapsulesFrom_8, s_X8_dropCapsulesFrom_9, s_X8_dropCapsulesFrom_12, s_X8_dropCapsulesFrom_13, s_X8_dropCapsulesFrom_14, s_X8_dropCapsulesFrom_15, s_X8_dropCapsulesFrom_18, s_X8_dropCapsulesFrom_19, s_X8_dropCapsulesFrom_22, s_X8_dropCapsulesFrom_23, s_X8_dropCapsulesFrom_24, s_X8_dropCapsulesFrom_26, s_X8_dropCapsulesFrom_29, s_X8_dropCapsulesFrom_30, s_X8_dropCapsulesFrom_33, s_X8_dropCapsulesFrom_34, s_X8_dropCapsulesFrom_35, s_X8_dropCapsulesFrom_36, s_X8_dropCapsulesFrom_39, s_X8_dropCapsulesFrom_42, leT, iI_add, iI_sub, iI_mul, iI_neg, iI_lt, iI_le, iI_eq, iI_toInt, tn_n, tn_1, inb_I, Int.reduceEq, Int.reduceLT, Int.reduceLE, Int.reduceAdd, Int.reduceSub, Int.reduceMul, Int.reduceNeg, Int.reduceToNat, Nat.reduceAdd, Nat.reduceMul, Int.reduceNatCast, reduceCtorEq, Int.cast_ofNat_Int, bi_tr, bi_fa, bi_0, bi_1, not_true_eq_false, not_false_eq_true, rnk_v, rnk_n, ↓reduceIte, i00, i11, ibi, or_true, true_or, and_true, true_and, List.cons_append, List.nil_append, Option.toList]
    · intro s hs
      rw [hM s hs]
      simp [qDrop, qH, show s < i by omega]
  | succ m ih =>
    rintro i hi M x1 rfl hM
    have g1 := hM i (by omega)
    rw [if_neg (by omega)] at g1
    have g2 := hI i (by omega)
    rw [s_X8_dropCapsulesFrom_2]
    by_cases h : (c : Int) ≤ qH Q i ∧ qH Q i < 100
    · obtain ⟨M', e1, e2, e3⟩ := ih (i + 1) (by omega) (sI M 31 i (iI (-1))) _ rfl (by
        intro s hs
        by_cases e : s = i
        · subst e
          rw [sI_s, if_pos ⟨by omega, h⟩]
        · rw [sI_k _ _ e, hM s hs]
          simp [show (s < i + 1) = (s < i) by apply propext; omega])
      refine ⟨M', ?_, e2, Sm_tr (Sm_sI (by simp)) e3⟩
      simp (maxSteps := 4000000) (disch := omega) only [s_X8_dropCapsulesFrom_0, s_X8_dropCapsulesFrom_1, s_X8_dropCapsulesFrom_3, s_X8_dropCapsulesFrom_5, s_X8_dropCapsulesFrom_8, s_X8_dropCapsulesFrom_9, s_X8_dropCapsulesFrom_12, s_X8_dropCapsulesFrom_13, s_X8_dropCapsulesFrom_14, s_X8_dropCapsulesFrom_15, s_X8_dropCapsulesFrom_18, s_X8_dropCapsulesFrom_19, s_X8_dropCapsulesFrom_22, s_X8_dropCapsulesFrom_23, s_X8_dropCapsulesFrom_24, s_X8_dropCapsulesFrom_26, s_X8_dropCapsulesFrom_29, s_X8_dropCapsulesFrom_30, s_X8_dropCapsulesFrom_33, s_X8_dropCapsulesFrom_34, s_X8_dropCapsulesFrom_35, s_X8_dropCapsulesFrom_36, s_X8_dropCapsulesFrom_39, s_X8_dropCapsulesFrom_42, cls_30, fv_30_0, fv_30_1, fv_30_2, ak_31, al_31, ak_32, al_32, ak_33, al_33, rf_33, leF, ltF, g1, iI_add, iI_sub, iI_mul, iI_neg, iI_lt, iI_le, iI_eq, iI_toInt, tn_n, tn_1, inb_I, Int.reduceEq, Int.reduceLT, Int.reduceLE, Int.reduceAdd, Int.reduceSub, Int.reduceMul, Int.reduceNeg, Int.reduceToNat, Nat.reduceAdd, Nat.reduceMul, Int.reduceNatCast, reduceCtorEq, Int.cast_ofNat_Int, bi_tr, bi_fa, bi_0, bi_1, not_true_eq_false, not_false_eq_true, rnk_v, rnk_n, ↓reduceIte, i00, i11, ibi, or_true, true_or, and_true, true_and, List.cons_append, List.nil_append, Option.toList]
      exact e1
    · obtain ⟨M', e1, e2, e3⟩ := ih (i + 1) (by omega) M _ rfl (by
        intro s hs
        rw [hM s hs]
        by_cases e : s = i
        · subst e
          rw [if_neg (by omega), if_neg (by omega)]
        · simp [show (s < i + 1) = (s < i) by apply propext; omega])
      refine ⟨M', ?_, e2, e3⟩
      by_cases h6 : qH Q i < c
      · simp (maxSteps := 4000000) (disch := omega) only [s_X8_dropCapsulesFrom_0, s_X8_dropCapsulesFrom_1, s_X8_dropCapsulesFrom_3, s_X8_dropCapsulesFrom_5, s_X8_dropCapsulesFrom_8, s_X8_dropCapsulesFrom_9, s_X8_dropCapsulesFrom_12, s_X8_dropCapsulesFrom_13, s_X8_dropCapsulesFrom_14, s_X8_dropCapsulesFrom_15, s_X8_dropCapsulesFrom_18, s_X8_dropCapsulesFrom_19, s_X8_dropCapsulesFrom_22, s_X8_dropCapsulesFrom_23, s_X8_dropCapsulesFrom_24, s_X8_dropCapsulesFrom_26, s_X8_dropCapsulesFrom_29, s_X8_dropCapsulesFrom_30, s_X8_dropCapsulesFrom_33, s_X8_dropCapsulesFrom_34, s_X8_dropCapsulesFrom_35, s_X8_dropCapsulesFrom_36, s_X8_dropCapsulesFrom_39, s_X8_dropCapsulesFrom_42, cls_30, fv_30_0, fv_30_1, fv_30_2, ak_31, al_31, ak_32, al_32, ak_33, al_33, rf_33, leF, ltT, g1, iI_add, iI_sub, iI_mul, iI_neg, iI_lt, iI_le, iI_eq, iI_toInt, tn_n, tn_1, inb_I, Int.reduceEq, Int.reduceLT, Int.reduceLE, Int.reduceAdd, Int.reduceSub, Int.reduceMul, Int.reduceNeg, Int.reduceToNat, Nat.reduceAdd, Nat.reduceMul, Int.reduceNatCast, reduceCtorEq, Int.cast_ofNat_Int, bi_tr, bi_fa, bi_0, bi_1, not_true_eq_false, not_false_eq_true, rnk_v, rnk_n, ↓reduceIte, i00, i11, ibi, or_true, true_or, and_true, true_and, List.cons_append, List.nil_append, Option.toList]
        exact e1
      · simp (maxSteps := 4000000) (disch := omega) only [s_X8_dropCapsulesFrom_0, s_X8_dropCapsulesFrom_1, s_X8_dropCapsulesFrom_3, s_X8_dropCapsulesFrom_5, s_X8_dropCapsulesFrom_8, s_X8_dropCapsulesFrom_9, s_X8_dropCapsulesFrom_12, s_X8_dropCapsulesFrom_13, s_X8_dropCapsulesFrom_14, s_X8_dropCapsulesFrom_15, s_X8_dropCapsulesFrom_18, s_X8_dropCapsulesFrom_19, s_X8_dropCapsulesFrom_22, s_X8_dropCapsulesFrom_23, s_X8_dropCapsulesFrom_24, s_X8_dropCapsulesFrom_26, s_X8_dropCapsulesFrom_29, s_X8_dropCapsulesFrom_30, s_X8_dropCapsulesFrom_33, s_X8_dropCapsulesFrom_34, s_X8_dropCapsulesFrom_35, s_X8_dropCapsulesFrom_36, s_X8_dropCapsulesFrom_39, s_X8_dropCapsulesFrom_42, cls_30, fv_30_0, fv_30_1, fv_30_2, ak_31, al_31, ak_32, al_32, ak_33, al_33, rf_33, leF, leT, ltF, g1, iI_add, iI_sub, iI_mul, iI_neg, iI_lt, iI_le, iI_eq, iI_toInt, tn_n, tn_1, inb_I, Int.reduceEq, Int.reduceLT, Int.reduceLE, Int.reduceAdd, Int.reduceSub, Int.reduceMul, Int.reduceNeg, Int.reduceToNat, Nat.reduceAdd, Nat.reduceMul, Int.reduceNatCast, reduceCtorEq, Int.cast_ofNat_Int, bi_tr, bi_fa, bi_0, bi_1, not_true_eq_false, not_false_eq_true, rnk_v, rnk_n, ↓reduceIte, i00, i11, ibi, or_true, true_or, and_true, true_and, List.cons_append, List.nil_append, Option.toList]
        exact e1
theorem k_X8_dropCapsulesFrom {D : Nat} (hD : 1 ≤ D) {M : tM} {Q : tQ} (hR : RepS M Q) (hI : qInv Q) {c : Nat} (hc : c ≤ 5) : ∃ M', exF D m_X8_dropCapsulesFrom [.ref 30, .int (iI c)] M = some (none, M') ∧ RepS M' (qDrop Q c) ∧ Sm [31] M M' := by
  obtain ⟨D, rfl⟩ : ∃ D0, D = D0 + 1 := ⟨D - 1, by omega⟩
  obtain ⟨M', e1, e2, e3⟩ := l_X8_dropCapsulesFrom (D := D) hc hI 8 0 (by omega) M _ rfl (by
    intro s hs
    rw [if_neg (by omega)]
    exact (hR s hs).1)
  refine ⟨M', ?_, ?_, e3⟩
  · simp (maxSteps := 4000000) (disch := omega) only [en_X8_dropCapsulesFrom, s_X8_dropCapsulesFrom_0, s_X8_dropCapsulesFrom_1, Int.reduceEq, Int.reduceLT, Int.reduceLE, Int.reduceAdd, Int.reduceSub, Int.reduceMul, Int.reduceNeg, Int.reduceToNat, Nat.reduceAdd, Nat.reduceMul, Int.reduceNatCast, reduceCtorEq, Int.cast_ofNat_Int, bi_tr, bi_fa, bi_0, bi_1, not_true_eq_false, not_false_eq_true, rnk_v, rnk_n, ↓reduceIte, i00, i11, ibi, or_true, true_or, and_true, true_and, List.cons_append, List.nil_append, Option.toList]
    exact e1
  · intro s hs
    obtain ⟨h1, h2, h3⟩ := hR s hs
    refine ⟨e2 s hs, ?_, ?_⟩
    · rw [(e3 32 (by simp)).1, h2]
      congr 2
      by_cases h : (c : Int) ≤ qH Q s ∧ qH Q s < 100
      · have e : qH (qDrop Q c) s = -1 := if_pos h
        rw [qZ_lt (Q := Q) (by omega), qZ_lt (Q := qDrop Q c) (by omega)]
      · exact (qZ_cg (P := qDrop Q c) (Q := Q) (if_neg h) rfl).symm
    · rw [(e3 (34 + s) (by simp; omega)).2]; exact h3
