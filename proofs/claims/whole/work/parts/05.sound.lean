/-! SOUND, the steps -/
theorem iI_toInt {z : Int} (h1 : -2147483648 ≤ z) (h2 : z ≤ 2147483647) : (iI z).toInt = z := Int32.toInt_ofInt_of_le (by omega) (by omega)
theorem iI_of (x : Int32) : iI x.toInt = x := Int32.ofInt_toInt x
theorem iI_nat (n : Nat) : Int32.ofNat n = iI (n : Int) := by
  apply Int32.toInt_inj.mp
  simp [iI]
theorem nlt0 {x : Int32} (h : 0 ≤ x.toInt) : ¬ x < 0 := by
  intro q
  have := Int32.lt_iff_toInt_lt.mp q
  simp at this
  omega
theorem cat_map (ad : Nat → Nat) (r : List Value) : ((r.map (cv ad)).map fun v => v.category).sum = (r.map Value.category).sum := by
  rw [List.map_map]
  congr 2
  funext v
  exact cv_cat ad v
def room (D : Nat) : Room := { frames := D, cells := 0, slots := 0, locals := 64 * D }
def txN : List Nat := txT.map List.length
def txB : List (List Int32) := txT.map (fun l => l.map iI)
/-- what stands around the cells and stays: the table of kinds, the script, the texts -/
def ST (ad : Nat → Nat) (M : tM) (U : State) (H : Heap) : Prop :=
  va_T .int (ad 120) 7 (fun j => .int (M.1 120 j)) (A0 ad) U H ∧
  va_Z "TubesOfCourt" "KIND_ABOVE" "[I" (.ref (ad 120)) (A0 ad) U H ∧
  (va_X (ad 121) (M.1 122 0).toInt.toNat (M.1 121) U H ∧ ¬ A0 ad (ad 121) ∧ ad 121 < H.size) ∧
  vk_S 6 txN txB (fun k => ad (130 + k)) (fun k => ad (140 + k)) (A0 ad) U H ∧
  (∀ q ∈ SR, ∃ tx, vk_R q.1 q.2.1 tx (ad (130 + q.2.2)) U) ∧
  va_Z "java/lang/String" "COMPACT_STRINGS" "Z" (.int 1) (A0 ad) U H ∧
  va_Zq "jdk/internal/util/Preconditions" "SIOOBE_FORMATTER" "Ljava/util/function/BiFunction;" (A0 ad) U H ∧
  (∀ q ∈ NF, va_Nw (nfc q) U) ∧ (∀ q ∈ NM, va_Nw (nmc q) U)
theorem ST_heap {ad : Nat → Nat} {M : tM} {U : State} {H H1 : Heap} (h : ST ad M U H) (hs : H.size ≤ H1.size) (hq : ∀ q : Nat, q < H.size → ¬ A0 ad q → H1[q]? = H[q]?) : ST ad M U H1 := by
  obtain ⟨h1, h2, ⟨h3, h4, h5⟩, h6, h7, h8, h9, h10⟩ := h
  exact ⟨h1.kept hq, h2.kept hq, ⟨h3.kept (hq _ h5 h4), h4, Nat.lt_of_lt_of_le h5 hs⟩, h6.kept hq, h7, h8.kept hq, h9.kept hq, h10⟩
theorem ST_warm {ad : Nat → Nat} {M : tM} {s U : State} {H : Heap} (hW : s.WarmedH U.vm) (h : ST ad M s H) : ST ad M U H := by
  obtain ⟨h1, h2, ⟨h3, h4, h5⟩, h6, h7, h8, h9, h10, h11⟩ := h
  exact ⟨h1.moved hW.alike, h2.moved hW.alike, ⟨h3.moved hW.alike, h4, h5⟩, h6.moved hW.alike, fun q hq => by obtain ⟨tx, ht⟩ := h7 q hq; exact ⟨tx, ht.warm hW⟩, h8.moved hW.alike, h9.moved hW.alike, fun q hq => va_Nw.warmF hW (h10 q hq), fun q hq => va_Nw.warmM hW (h11 q hq)⟩
theorem ST_same {ad : Nat → Nat} {M : tM} {u U : State} {H : Heap} (hv : U.vm = u.vm) (h : ST ad M u H) : ST ad M U H := by
  have ha : u.vm.Alike U.vm := by rw [hv]; exact Vm.Alike.refl _
  obtain ⟨h1, h2, ⟨h3, h4, h5⟩, h6, h7, h8, h9, h10, h11⟩ := h
  exact ⟨h1.moved ha, h2.moved ha, ⟨h3.moved ha, h4, h5⟩, h6.moved ha, fun q hq => by obtain ⟨tx, ht⟩ := h7 q hq; exact ⟨tx, ht.same hv⟩, h8.moved ha, h9.moved ha, fun q hq => va_Nw.same rfl hv.symm (h10 q hq), fun q hq => va_Nw.same rfl hv.symm (h11 q hq)⟩
def kp (M M' : tM) : Prop := M'.1 120 = M.1 120 ∧ M'.1 121 = M.1 121 ∧ M'.1 122 = M.1 122
theorem ST_kp {ad : Nat → Nat} {M M' : tM} {U : State} {H : Heap} (hk : kp M M') (h : ST ad M U H) : ST ad M' U H := by
  obtain ⟨k1, k2, k3⟩ := hk
  unfold ST at h ⊢
  simp only [k1, k2, k3]
  exact h
theorem kp_sI {M : tM} {b k : Nat} {v : Int32} (h : b ≠ 120 ∧ b ≠ 121 ∧ b ≠ 122) : kp M (sI M b k v) := by
  refine ⟨?_, ?_, ?_⟩ <;> (funext y; simp only [sI]; rw [if_neg]; omega)
theorem kp_rI {M : tM} {b : Nat} {f : Nat → Int32} (h : b ≠ 120 ∧ b ≠ 121 ∧ b ≠ 122) : kp M (rI M b f) := by
  refine ⟨?_, ?_, ?_⟩ <;> (simp only [rI]; rw [if_neg]; omega)
theorem cls_ne {b ci : Nat} (h : clsO b = some ci) : b ≠ 120 ∧ b ≠ 121 ∧ b ≠ 122 := by
  refine ⟨?_, ?_, ?_⟩ <;> (rintro rfl; cases h)
theorem ak_ne {a : Nat} (h : a < 109) : a ≠ 120 ∧ a ≠ 121 ∧ a ≠ 122 := by omega
theorem alen_st {M : tM} {a : Nat} (h : a < 109) : alen M a = alT.getD a 0 := if_neg (by omega)
theorem akind_6 {a : Nat} (h : akind a = 6) : a = 120 := by
  by_cases ha : a < 136
  · have key : ∀ b, b < 136 → akT.getD b 9 = 6 → b = 120 := by decide
    exact key a ha h
  · have e : akind a = 9 := by simp [akind, List.getD_eq_getElem?_getD, List.getElem?_eq_none (show akT.length ≤ a from Nat.not_lt.mp ha)]
    omega
theorem akind_7 {a : Nat} (h : akind a = 7) : a = 121 := by
  by_cases ha : a < 136
  · have key : ∀ b, b < 136 → akT.getD b 9 = 7 → b = 121 := by decide
    exact key a ha h
  · have e : akind a = 9 := by simp [akind, List.getD_eq_getElem?_getD, List.getElem?_eq_none (show akT.length ≤ a from Nat.not_lt.mp ha)]
    omega
theorem akind_678 {a : Nat} (h : 6 ≤ akind a) : akind a = 6 ∨ akind a = 7 ∨ akind a = 9 := by
  by_cases ha : a < 136
  · have key : ∀ b, b < 136 → 6 ≤ akT.getD b 9 → akT.getD b 9 = 6 ∨ akT.getD b 9 = 7 ∨ akT.getD b 9 = 9 := by decide
    exact key a ha h
  · have e : akind a = 9 := by simp [akind, List.getD_eq_getElem?_getD, List.getElem?_eq_none (show akT.length ≤ a from Nat.not_lt.mp ha)]
    omega
theorem nfd_eq {ci : Nat} {q : vw_C} (h : classes[ci]? = some q) : nfd ci = q.2.2 := by simp [nfd, h]
theorem cel_obj {ad : Nat → Nat} {cA : Nat → ClassId} {M : tM} {b ci : Nat} (h : clsO b = some ci) : cel ad cA M b = .inr (ci, (List.range (nfd ci)).map (fun k => cv ad (fv M b k))) := by
  simp only [cel, h]
theorem cel_int {ad : Nat → Nat} {cA : Nat → ClassId} {M : tM} {a : Nat} (h : akind a = 0 ∨ akind a = 1) : cel ad cA M a = .inl (cA (akind a), alT.getD a 0, .inl (M.1 a)) := by
  simp only [cel, akind_cls (show akind a < 6 by omega), if_pos h]
theorem cel_long {ad : Nat → Nat} {cA : Nat → ClassId} {M : tM} {a : Nat} (h : akind a = 2) : cel ad cA M a = .inl (cA 2, alT.getD a 0, .inr (.inl (M.2 a))) := by
  simp only [cel, akind_cls (show akind a < 6 by omega), if_neg (show ¬ (akind a = 0 ∨ akind a = 1) by omega), if_pos h]
theorem cel_ref {ad : Nat → Nat} {cA : Nat → ClassId} {M : tM} {a : Nat} (h : akind a = 3 ∨ akind a = 4 ∨ akind a = 5) : cel ad cA M a = .inl (cA (akind a), alT.getD a 0, .inr (.inr (.inr (.inr (fun j => if j < alT.getD a 0 then some (ad (rfe a j)) else none))))) := by
  simp only [cel, akind_cls (show akind a < 6 by omega), if_neg (show ¬ (akind a = 0 ∨ akind a = 1) by omega), if_neg (show ¬ akind a = 2 by omega)]
theorem cel_arr {ad : Nat → Nat} {cA : Nat → ClassId} {M : tM} {a : Nat} (h : akind a < 6) : ∃ x : vp_A, cel ad cA M a = .inl (cA (akind a), x) ∧ x.1 = alT.getD a 0 := by
  by_cases h1 : akind a = 0 ∨ akind a = 1
  · exact ⟨_, cel_int h1, rfl⟩
  · by_cases h2 : akind a = 2
    · exact ⟨_, by rw [h2]; exact cel_long h2, rfl⟩
    · exact ⟨_, cel_ref (by omega), rfl⟩
theorem tysA_ex {cA : Nat → ClassId} {k : Nat} (h : k < 6) : ∃ ty, (tysA cA)[k]? = some (cA k, ty) := by
  match k, h with
  | 0, _ => exact ⟨_, rfl⟩
  | 1, _ => exact ⟨_, rfl⟩
  | 2, _ => exact ⟨_, rfl⟩
  | 3, _ => exact ⟨_, rfl⟩
  | 4, _ => exact ⟨_, rfl⟩
  | 5, _ => exact ⟨_, rfl⟩
theorem tsw_spec {pc : Nat} {dflt : Int} {L : tL} {S : List Value} {M : tM} {x : Int32} {pc' : Nat} {L' : tL} {S' : List Value} {M' : tM} : ∀ {offs : List Int} {lo : Int}, tsw pc dflt L S M x lo offs = some (.inl (pc', L', S', M')) →
    L' = L ∧ S' = S ∧ M' = M ∧ ((∃ (j : Nat) (o : Int), offs[j]? = some o ∧ x = iI (lo + (j : Int)) ∧ pc' = ((pc : Int) + o).toNat) ∨ ((∀ j : Nat, j < offs.length → ¬ x = iI (lo + (j : Int))) ∧ pc' = ((pc : Int) + dflt).toNat))
  | [], lo, h => by
    simp only [tsw, nx] at h
    cases h
    exact ⟨rfl, rfl, rfl, Or.inr ⟨fun j hj => absurd hj (Nat.not_lt_zero j), rfl⟩⟩
  | o :: r, lo, h => by
    simp only [tsw] at h
    split at h
    · rename_i hx
      simp only [nx] at h
      cases h
      exact ⟨rfl, rfl, rfl, Or.inl ⟨0, o, rfl, by rw [hx]; simp, rfl⟩⟩
    · rename_i hx
      obtain ⟨e1, e2, e3, h4⟩ := tsw_spec h
      refine ⟨e1, e2, e3, ?_⟩
      rcases h4 with ⟨j, o', g1, g2, g3⟩ | ⟨g1, g2⟩
      · refine Or.inl ⟨j + 1, o', by simpa using g1, ?_, g3⟩
        rw [g2]
        congr 1
        omega
      · refine Or.inr ⟨fun j hj => ?_, g2⟩
        cases j with
        | zero => simpa using hx
        | succ j =>
          have := g1 j (by simpa using hj)
          rw [show lo + ((j + 1 : Nat) : Int) = lo + 1 + (j : Int) by omega]
          exact this
theorem tsw_no {pc : Nat} {dflt : Int} {L : tL} {S : List Value} {M : tM} {x : Int32} {z : (Nat × List Value × Nat × tL × List Value) ⊕ Option Value} : ∀ {offs : List Int} {lo : Int}, tsw pc dflt L S M x lo offs = some (.inr z) → False
  | [], lo, h => by
    simp only [tsw, nx] at h
    cases h
  | o :: r, lo, h => by
    simp only [tsw] at h
    split at h
    · simp only [nx] at h
      cases h
    · exact tsw_no h
theorem lsw_no {pc : Nat} {dflt : Int} {L : tL} {S : List Value} {M : tM} {x : Int32} {z : (Nat × List Value × Nat × tL × List Value) ⊕ Option Value} : ∀ {ps : List (Int × Int)}, lsw pc dflt L S M x ps = some (.inr z) → False
  | [], h => by
    simp only [lsw, nx] at h
    cases h
  | (a, o) :: r, h => by
    simp only [lsw] at h
    split at h
    · simp only [nx] at h
      cases h
    · exact lsw_no h
theorem lsw_kp {pc : Nat} {dflt : Int} {L : tL} {S : List Value} {M : tM} {x : Int32} {pc' : Nat} {L' : tL} {S' : List Value} {M' : tM} : ∀ {ps : List (Int × Int)}, lsw pc dflt L S M x ps = some (.inl (pc', L', S', M')) → M' = M
  | [], h => by
    simp only [lsw, nx] at h
    cases h
    rfl
  | (a, o) :: r, h => by
    simp only [lsw] at h
    split at h
    · simp only [nx] at h
      cases h
      rfl
    · exact lsw_kp h
theorem acfw : nativeFrameWords "java/lang/System" "arraycopy" 5 + 11 ≤ 40 := by decide +kernel
theorem lsw_spec {pc : Nat} {dflt : Int} {L : tL} {S : List Value} {M : tM} {x : Int32} {pc' : Nat} {L' : tL} {S' : List Value} {M' : tM} : ∀ {ps : List (Int × Int)}, (∀ q ∈ ps, 0 ≤ (pc : Int) + q.2 ∧ (-2147483648 ≤ q.1 ∧ q.1 ≤ 2147483647)) → 0 ≤ (pc : Int) + dflt → lsw pc dflt L S M x ps = some (.inl (pc', L', S', M')) →
    L' = L ∧ S' = S ∧ M' = M ∧ 0 ≤ (pc : Int) + Op.lookupswitch.offset ps dflt x.toInt ∧ pc' = ((pc : Int) + Op.lookupswitch.offset ps dflt x.toInt).toNat
  | [], _, h2, h => by
    simp only [lsw, nx] at h
    cases h
    exact ⟨rfl, rfl, rfl, h2, rfl⟩
  | (a, o) :: r, h1, h2, h => by
    simp only [lsw] at h
    have hq := h1 (a, o) List.mem_cons_self
    rw [Op.lookupswitch.offset_cons]
    split at h
    · rename_i hx
      simp only [nx] at h
      cases h
      have e : a = x.toInt := by rw [hx]; exact (iI_toInt hq.2.1 hq.2.2).symm
      rw [if_pos e]
      exact ⟨rfl, rfl, rfl, hq.1, rfl⟩
    · rename_i hx
      have e : ¬ a = x.toInt := fun z => hx (by rw [z]; exact (iI_of x).symm)
      rw [if_neg e]
      exact lsw_spec (fun q hq => h1 q (List.mem_cons_of_mem _ hq)) h2 h
/-- locals -/
def LR (ad : Nat → Nat) (nL : Nat) (lw : List Nat) (L : tL) (ls : Array Slot) : Prop := ls.size = nL ∧ lv_wf ls ∧ L.length = nL ∧ (∀ (k : Nat) (v : Value), L[k]? = some (some v) → ls[k]? = some (.val (cv ad v))) ∧ ∀ (k : Nat) (v : Value), L[k]? = some (some v) → v.category = 2 → k ∈ lw
def LRl (ad : Nat → Nat) (L : tL) : List (Nat × Value) := (List.range L.length).filterMap (fun k => match L[k]? with
  | some (some v) => some (k, cv ad v)
  | _ => none)
theorem LRl_mem {ad : Nat → Nat} {L : tL} {k : Nat} {w : Value} : (k, w) ∈ LRl ad L ↔ ∃ v, L[k]? = some (some v) ∧ w = cv ad v := by
  unfold LRl
  rw [List.mem_filterMap]
  constructor
  · rintro ⟨j, -, hj⟩
    split at hj
    · rename_i v hv
      cases hj
      exact ⟨v, hv, rfl⟩
    · cases hj
  · rintro ⟨v, hv, rfl⟩
    refine ⟨k, List.mem_range.mpr (List.getElem?_eq_some_iff.mp hv).1, ?_⟩
    simp [hv]
theorem LR_has {ad : Nat → Nat} {nL : Nat} {lw : List Nat} {L : tL} {ls : Array Slot} (h : LR ad nL lw L ls) : lv_has ls nL (LRl ad L) := by
  refine ⟨h.1, h.2.1, fun q hq => ?_⟩
  obtain ⟨v, hv, hw⟩ := LRl_mem.mp (show (q.1, q.2) ∈ LRl ad L from hq)
  rw [hw]
  exact h.2.2.2.1 _ _ hv
theorem LR_has2 {ad : Nat → Nat} {nL : Nat} {lw : List Nat} {L : tL} {ls : Array Slot} {k : Nat} {x : Int32} (h : LR ad nL lw L ls) (hx : L[k]? = some (some (.int x))) : lv_has ls nL ((k, .int x) :: LRl ad L) := by
  refine ⟨h.1, h.2.1, fun q hq => ?_⟩
  rcases List.mem_cons.mp hq with rfl | hq
  · exact h.2.2.2.1 _ _ hx
  · exact (LR_has h).2.2 q hq
theorem LR_any {ad : Nat → Nat} {nL : Nat} {lw : List Nat} {L : tL} {ls ls' : Array Slot} {k : Nat} {v : Value} {l : List (Nat × Value)} (h : LR ad nL lw L ls) (hk : k < L.length) (hw : okW lw k = true) (hc : v.category = 1) (hl : ∀ q ∈ LRl ad L, q ∈ l)
    (h' : lv_has ls' nL ((k, cv ad v) :: l.filter (fun q => !(q.1 == k) && !(q.1 + 1 == k && q.2.category == 2)))) : LR ad nL lw (L.set k (some v)) ls' := by
  refine ⟨h'.1, h'.2.1, by rw [List.length_set]; exact h.2.2.1, fun j w hj => ?_, fun j w hj hcw => ?_⟩
  · by_cases e : j = k
    · subst e
      rw [List.getElem?_set_self hk] at hj
      cases hj
      exact h'.2.2 (j, cv ad v) List.mem_cons_self
    · rw [List.getElem?_set_ne (Ne.symm e)] at hj
      refine h'.2.2 (j, cv ad w) (List.mem_cons_of_mem _ (List.mem_filter.mpr ⟨hl _ (LRl_mem.mpr ⟨w, hj, rfl⟩), ?_⟩))
      have h1 : (j == k) = false := by simpa using e
      simp only [h1, Bool.not_false, Bool.true_and, Bool.not_eq_true', Bool.and_eq_false_iff, beq_eq_false_iff_ne, ne_eq]
      by_cases h2 : j + 1 = k
      · right
        intro h3
        rw [cv_cat] at h3
        have h4 := h.2.2.2.2 j w hj h3
        simp only [okW, Bool.or_eq_true, beq_iff_eq, Bool.not_eq_true'] at hw
        rcases hw with h5 | h5
        · omega
        · rw [← h2, Nat.add_sub_cancel] at h5
          have := List.contains_iff_mem.mpr h4
          rw [h5] at this
          cases this
      · exact Or.inl h2
  · by_cases e : j = k
    · subst e
      rw [List.getElem?_set_self hk] at hj
      cases hj
      omega
    · rw [List.getElem?_set_ne (Ne.symm e)] at hj
      exact h.2.2.2.2 j w hj hcw
theorem LR_set {ad : Nat → Nat} {nL : Nat} {lw : List Nat} {L : tL} {ls ls' : Array Slot} {k : Nat} {v : Value} (h : LR ad nL lw L ls) (hk : k < L.length) (hw : okW lw k = true) (hc : v.category = 1)
    (h' : lv_has ls' nL ((k, cv ad v) :: (LRl ad L).filter (fun q => !(q.1 == k) && !(q.1 + 1 == k && q.2.category == 2)))) : LR ad nL lw (L.set k (some v)) ls' := LR_any h hk hw hc (fun _ h => h) h'
theorem LR_set2 {ad : Nat → Nat} {nL : Nat} {lw : List Nat} {L : tL} {ls ls' : Array Slot} {k : Nat} {v : Value} {x : Nat × Value} (h : LR ad nL lw L ls) (hk : k < L.length) (hw : okW lw k = true) (hc : v.category = 1)
    (h' : lv_has ls' nL ((k, cv ad v) :: (x :: LRl ad L).filter (fun q => !(q.1 == k) && !(q.1 + 1 == k && q.2.category == 2)))) : LR ad nL lw (L.set k (some v)) ls' := LR_any h hk hw hc (fun _ h => List.mem_cons_of_mem _ h) h'
def Gl (p : Program) (l : Launch) (e : Env) (R : Room) (s : State) (m : MethodId) (args : Array Value) (below : List Frame) (meth : Method) (c : Code) (cells slots : Nat) (Q : State → Prop) (ad : Nat → Nat) (cA : Nat → ClassId) (DD : va_G) (nL : Nat) (lw : List Nat) (pc : Nat) (L : tL) (S : List Value) (M : tM) : Prop :=
  ∀ (H : Heap) (locs : List Loc) (ls : Array Slot), va_P DD classes (wsO ad cA M) H → va_S (A0 ad) s.heap H locs → LR ad nL lw L ls → ST ad M s s.heap → W p l e R s m args below meth c H locs cells slots Q (F0 m pc ls (S.map (cv ad)))
section SND
variable {p : Program} {l : Launch} {e : Env} {R : Room} {s : State} {m : MethodId} {args : Array Value} {below : List Frame} {meth : Method} {c : Code} {cells slots : Nat} {Q : State → Prop}
variable {ad : Nat → Nat} {cA : Nat → ClassId} {DD : va_G} {own : String} {cc : ByteArray} {nL : Nat} {lw : List Nat}
variable {ins : Instr} {len : Nat} {an : tAn} {pc : Nat} {L : tL} {S : List Value} {M : tM} {pc' : Nat} {L' : tL} {S' : List Value} {M' : tM}
theorem snd_nx (hX : p.tables.exec = Jvm.exec) (hb : c.code = cc) (hnl : c.maxLocals = nL) (hown : s.vm.findClass own = some m.cls) (hts : ∀ w ∈ WS, w.before args s = true) (hK : va_K DD classes (tysA cA) s) (hI : adI ad) (hR1 : 1 ≤ R.frames) (hR2 : 64 ≤ R.locals) (hR3 : cells ≤ R.cells) (hR4 : slots ≤ R.slots) (ho : okA own pc nL lw ins len an = true) (hd : decode cc pc = .ok (ins, len)) (ht : ta ins an pc L S M = some (.inl (pc', L', S', M')))
    (k0 : Gl p l e R s m args below meth c cells slots Q ad cA DD nL lw pc' L' S' M') : Gl p l e R s m args below meth c cells slots Q ad cA DD nL lw pc L S M := by
  cases ins
  case aload_n k =>
    have hln : len = 1 := by simpa [okA] using ho
    subst hln
    simp only [ta, lA] at ht
    split at ht
    · rename_i x hx
      simp only [nx] at ht; cases ht
      intro H locs ls hP hS hL hT
      exact lv_aload_n hX hb hd rfl (hL.2.2.2.1 _ _ hx) (k0 H locs ls hP hS hL hT)
    · cases ht
  case aload k =>
    have hln : len = 2 := by simpa [okA] using ho
    subst hln
    simp only [ta, lA] at ht
    split at ht
    · rename_i x hx
      simp only [nx] at ht; cases ht
      intro H locs ls hP hS hL hT
      exact lv_aload hX hb hd (hL.2.2.2.1 _ _ hx) (k0 H locs ls hP hS hL hT)
    · cases ht
  case iload_n k =>
    have hln : len = 1 := by simpa [okA] using ho
    subst hln
    simp only [ta, lI] at ht
    split at ht
    · rename_i x hx
      simp only [nx] at ht; cases ht
      intro H locs ls hP hS hL hT
      exact lv_iload_n hX hb hd rfl (hL.2.2.2.1 _ _ hx) (k0 H locs ls hP hS hL hT)
    · cases ht
  case iload k =>
    have hln : len = 2 := by simpa [okA] using ho
    subst hln
    simp only [ta, lI] at ht
    split at ht
    · rename_i x hx
      simp only [nx] at ht; cases ht
      intro H locs ls hP hS hL hT
      exact lv_iload hX hb hd (hL.2.2.2.1 _ _ hx) (k0 H locs ls hP hS hL hT)
    · cases ht
  case lload_n k =>
    have hln : len = 1 := by simpa [okA] using ho
    subst hln
    simp only [ta, lJ] at ht
    split at ht
    · rename_i x hx
      simp only [nx] at ht; cases ht
      intro H locs ls hP hS hL hT
      exact lv_lload_n hX hb hd rfl (hL.2.2.2.1 _ _ hx) (k0 H locs ls hP hS hL hT)
    · cases ht
  case lload k =>
    have hln : len = 2 := by simpa [okA] using ho
    subst hln
    simp only [ta, lJ] at ht
    split at ht
    · rename_i x hx
      simp only [nx] at ht; cases ht
      intro H locs ls hP hS hL hT
      exact lv_lload hX hb hd (hL.2.2.2.1 _ _ hx) (k0 H locs ls hP hS hL hT)
    · cases ht
  case istore_n k =>
    simp only [okA, Bool.and_eq_true, beq_iff_eq] at ho
    obtain ⟨rfl, hw⟩ := ho
    simp only [ta, wI] at ht
    split at ht
    · rename_i x r
      split at ht
      · rename_i hk
        simp only [nx] at ht; cases ht
        intro H locs ls hP hS hL hT
        exact lv_istore_n hX hb hd rfl (LR_has hL) (by rw [← hL.2.2.1]; exact hk) rfl (fun ls' h' => k0 H locs ls' hP hS (LR_set hL hk hw rfl h') hT)
      · cases ht
    · cases ht
  case istore k =>
    simp only [okA, Bool.and_eq_true, beq_iff_eq] at ho
    obtain ⟨rfl, hw⟩ := ho
    simp only [ta, wI] at ht
    split at ht
    · rename_i x r
      split at ht
      · rename_i hk
        simp only [nx] at ht; cases ht
        intro H locs ls hP hS hL hT
        exact lv_istore hX hb hd (LR_has hL) (by rw [← hL.2.2.1]; exact hk) rfl (fun ls' h' => k0 H locs ls' hP hS (LR_set hL hk hw rfl h') hT)
      · cases ht
    · cases ht
  case astore_n k =>
    simp only [okA, Bool.and_eq_true, beq_iff_eq] at ho
    obtain ⟨rfl, hw⟩ := ho
    simp only [ta, wA] at ht
    split at ht
    · rename_i x r
      split at ht
      · rename_i hk
        simp only [nx] at ht; cases ht
        intro H locs ls hP hS hL hT
        exact lv_astore_n hX hb hd rfl (LR_has hL) (by rw [← hL.2.2.1]; exact hk) rfl (fun ls' h' => k0 H locs ls' hP hS (LR_set hL hk hw rfl h') hT)
      · cases ht
    · cases ht
  case astore k =>
    simp only [okA, Bool.and_eq_true, beq_iff_eq] at ho
    obtain ⟨rfl, hw⟩ := ho
    simp only [ta, wA] at ht
    split at ht
    · rename_i x r
      split at ht
      · rename_i hk
        simp only [nx] at ht; cases ht
        intro H locs ls hP hS hL hT
        exact lv_astore hX hb hd (LR_has hL) (by rw [← hL.2.2.1]; exact hk) rfl (fun ls' h' => k0 H locs ls' hP hS (LR_set hL hk hw rfl h') hT)
      · cases ht
    · cases ht
  case iinc k n =>
    simp only [okA, Bool.and_eq_true, beq_iff_eq] at ho
    obtain ⟨rfl, hw⟩ := ho
    simp only [ta] at ht
    split at ht
    · rename_i x hx
      simp only [nx] at ht; cases ht
      have hk : k < L.length := (List.getElem?_eq_some_iff.mp hx).1
      intro H locs ls hP hS hL hT
      exact lv_iinc (k := 0) hX hb hd (LR_has2 hL hx) rfl rfl (by rw [← hL.2.2.1]; exact hk) rfl (fun ls' h' => k0 H locs ls' hP hS (LR_set2 hL hk hw rfl h') hT)
    · cases ht
  case iconst n =>
    simp only [okA, Bool.and_eq_true, beq_iff_eq, decide_eq_true_eq] at ho
    subst ho
    simp only [ta, nx] at ht; cases ht
    intro H locs ls hP hS hL hT
    exact lv_iconst hX hb hd rfl (k0 H locs ls hP hS hL hT)
  case bipush n =>
    simp only [okA, Bool.and_eq_true, beq_iff_eq, decide_eq_true_eq] at ho
    obtain ⟨rfl, hv⟩ := ho
    simp only [ta, nx] at ht; cases ht
    intro H locs ls hP hS hL hT
    exact lv_bipush hX hb hd hv (k0 H locs ls hP hS hL hT)
  case sipush n =>
    simp only [okA, Bool.and_eq_true, beq_iff_eq, decide_eq_true_eq] at ho
    obtain ⟨rfl, hv⟩ := ho
    simp only [ta, nx] at ht; cases ht
    intro H locs ls hP hS hL hT
    exact lv_sipush hX hb hd hv (k0 H locs ls hP hS hL hT)
  case lconst n =>
    simp only [okA, Bool.and_eq_true, beq_iff_eq, decide_eq_true_eq] at ho
    obtain ⟨rfl, hv⟩ := ho
    simp only [ta, nx] at ht; cases ht
    intro H locs ls hP hS hL hT
    exact lv_lconst hX hb hd hv (k0 H locs ls hP hS hL hT)
  case ldc i =>
    simp only [okA, Bool.and_eq_true, beq_iff_eq] at ho
    obtain ⟨rfl, ho⟩ := ho
    simp only [ta] at ht
    split at ht
    · rename_i h0
      rw [if_pos h0] at ho
      simp only [nx] at ht; cases ht
      intro H locs ls hP hS hL hT
      exact lv_ldc hX hb hown (hts _ (wat_mem (of_decide_eq_true ho))) hd (k0 H locs ls hP hS hL hT)
    · rename_i h0
      rw [if_neg h0] at ho
      simp only [Bool.and_eq_true, decide_eq_true_eq] at ho
      simp only [nx] at ht; cases ht
      intro H locs ls hP hS hL hT
      obtain ⟨tx, htx⟩ := hT.2.2.2.2.1 _ (List.contains_iff_mem.mp ho.2)
      have e : 130 + (an.2.1 - 130) = an.2.1 := by omega
      rw [e] at htx
      exact va_ldcS hX hb hown htx hd (k0 H locs ls hP hS hL hT)
  case ldc_w i =>
    simp only [okA, Bool.and_eq_true, beq_iff_eq, decide_eq_true_eq] at ho
    obtain ⟨rfl, hw⟩ := ho
    simp only [ta, nx] at ht; cases ht
    intro H locs ls hP hS hL hT
    exact lv_ldcw hX hb hown (hts _ (wat_mem hw)) hd (k0 H locs ls hP hS hL hT)
  case ldc2_w i =>
    simp only [okA, Bool.and_eq_true, beq_iff_eq, decide_eq_true_eq] at ho
    obtain ⟨rfl, hw⟩ := ho
    simp only [ta, nx] at ht; cases ht
    intro H locs ls hP hS hL hT
    exact lv_ldc2 hX hb hown (hts _ (wat_mem hw)) hd (k0 H locs ls hP hS hL hT)
  case iadd =>
    have hln : len = 1 := by simpa [okA] using ho
    subst hln
    simp only [ta, b2] at ht
    split at ht
    · simp only [nx] at ht; cases ht
      intro H locs ls hP hS hL hT
      exact lv_iadd hX hb hd (k0 H locs ls hP hS hL hT)
    · cases ht
  case isub =>
    have hln : len = 1 := by simpa [okA] using ho
    subst hln
    simp only [ta, b2] at ht
    split at ht
    · simp only [nx] at ht; cases ht
      intro H locs ls hP hS hL hT
      exact lv_isub hX hb hd (k0 H locs ls hP hS hL hT)
    · cases ht
  case imul =>
    have hln : len = 1 := by simpa [okA] using ho
    subst hln
    simp only [ta, b2] at ht
    split at ht
    · simp only [nx] at ht; cases ht
      intro H locs ls hP hS hL hT
      exact lv_imul hX hb hd (k0 H locs ls hP hS hL hT)
    · cases ht
  case iand =>
    have hln : len = 1 := by simpa [okA] using ho
    subst hln
    simp only [ta, b2] at ht
    split at ht
    · simp only [nx] at ht; cases ht
      intro H locs ls hP hS hL hT
      exact lv_iand hX hb hd (k0 H locs ls hP hS hL hT)
    · cases ht
  case ior =>
    have hln : len = 1 := by simpa [okA] using ho
    subst hln
    simp only [ta, b2] at ht
    split at ht
    · simp only [nx] at ht; cases ht
      intro H locs ls hP hS hL hT
      exact lv_ior hX hb hd (k0 H locs ls hP hS hL hT)
    · cases ht
  case ixor =>
    have hln : len = 1 := by simpa [okA] using ho
    subst hln
    simp only [ta, b2] at ht
    split at ht
    · simp only [nx] at ht; cases ht
      intro H locs ls hP hS hL hT
      exact lv_ixor hX hb hd (k0 H locs ls hP hS hL hT)
    · cases ht
  case ishl =>
    have hln : len = 1 := by simpa [okA] using ho
    subst hln
    simp only [ta, b2] at ht
    split at ht
    · simp only [nx] at ht; cases ht
      intro H locs ls hP hS hL hT
      exact lv_ishl hX hb hd (k0 H locs ls hP hS hL hT)
    · cases ht
  case ishr =>
    have hln : len = 1 := by simpa [okA] using ho
    subst hln
    simp only [ta, b2] at ht
    split at ht
    · simp only [nx] at ht; cases ht
      intro H locs ls hP hS hL hT
      exact lv_ishr hX hb hd (k0 H locs ls hP hS hL hT)
    · cases ht
  case iushr =>
    have hln : len = 1 := by simpa [okA] using ho
    subst hln
    simp only [ta, b2] at ht
    split at ht
    · simp only [nx] at ht; cases ht
      intro H locs ls hP hS hL hT
      exact lv_iushr hX hb hd rfl (k0 H locs ls hP hS hL hT)
    · cases ht
  case land =>
    have hln : len = 1 := by simpa [okA] using ho
    subst hln
    simp only [ta, b2J] at ht
    split at ht
    · simp only [nx] at ht; cases ht
      intro H locs ls hP hS hL hT
      exact lv_land hX hb hd (k0 H locs ls hP hS hL hT)
    · cases ht
  case lor =>
    have hln : len = 1 := by simpa [okA] using ho
    subst hln
    simp only [ta, b2J] at ht
    split at ht
    · simp only [nx] at ht; cases ht
      intro H locs ls hP hS hL hT
      exact lv_lor hX hb hd (k0 H locs ls hP hS hL hT)
    · cases ht
  case ineg =>
    have hln : len = 1 := by simpa [okA] using ho
    subst hln
    simp only [ta, u1] at ht
    split at ht
    · simp only [nx] at ht; cases ht
      intro H locs ls hP hS hL hT
      exact lv_ineg hX hb hd (k0 H locs ls hP hS hL hT)
    · cases ht
  case i2b =>
    have hln : len = 1 := by simpa [okA] using ho
    subst hln
    simp only [ta, u1] at ht
    split at ht
    · simp only [nx] at ht; cases ht
      intro H locs ls hP hS hL hT
      exact lv_i2b hX hb hd rfl (k0 H locs ls hP hS hL hT)
    · cases ht
  case i2s =>
    have hln : len = 1 := by simpa [okA] using ho
    subst hln
    simp only [ta, u1] at ht
    split at ht
    · simp only [nx] at ht; cases ht
      intro H locs ls hP hS hL hT
      exact lv_i2s hX hb hd rfl (k0 H locs ls hP hS hL hT)
    · cases ht
  case i2c =>
    have hln : len = 1 := by simpa [okA] using ho
    subst hln
    simp only [ta, u1] at ht
    split at ht
    · simp only [nx] at ht; cases ht
      intro H locs ls hP hS hL hT
      exact lv_i2c hX hb hd rfl (k0 H locs ls hP hS hL hT)
    · cases ht
  case i2l =>
    have hln : len = 1 := by simpa [okA] using ho
    subst hln
    simp only [ta] at ht
    split at ht
    · simp only [nx] at ht; cases ht
      intro H locs ls hP hS hL hT
      exact lv_i2l hX hb hd rfl (k0 H locs ls hP hS hL hT)
    · cases ht
  case l2i =>
    have hln : len = 1 := by simpa [okA] using ho
    subst hln
    simp only [ta] at ht
    split at ht
    · simp only [nx] at ht; cases ht
      intro H locs ls hP hS hL hT
      exact lv_l2i hX hb hd rfl (k0 H locs ls hP hS hL hT)
    · cases ht
  case lshl =>
    have hln : len = 1 := by simpa [okA] using ho
    subst hln
    simp only [ta] at ht
    split at ht
    · simp only [nx] at ht; cases ht
      intro H locs ls hP hS hL hT
      exact lv_lshl hX hb hd rfl (k0 H locs ls hP hS hL hT)
    · cases ht
  case lcmp =>
    have hln : len = 1 := by simpa [okA] using ho
    subst hln
    simp only [ta] at ht
    split at ht
    · simp only [nx] at ht; cases ht
      intro H locs ls hP hS hL hT
      exact W.lcmp hX hb hd (k0 H locs ls hP hS hL hT)
    · cases ht
  case idiv =>
    have hln : len = 1 := by simpa [okA] using ho
    subst hln
    simp only [ta] at ht
    split at ht
    · split at ht
      · cases ht
      · rename_i hne
        simp only [nx] at ht; cases ht
        intro H locs ls hP hS hL hT
        exact lv_idiv hX hb hd hne (k0 H locs ls hP hS hL hT)
    · cases ht
  case irem =>
    have hln : len = 1 := by simpa [okA] using ho
    subst hln
    simp only [ta] at ht
    split at ht
    · split at ht
      · cases ht
      · rename_i hne
        simp only [nx] at ht; cases ht
        intro H locs ls hP hS hL hT
        exact lv_irem hX hb hd hne (k0 H locs ls hP hS hL hT)
    · cases ht
  case dup =>
    have hln : len = 1 := by simpa [okA] using ho
    subst hln
    simp only [ta] at ht
    split at ht
    · simp only [nx] at ht; cases ht
      intro H locs ls hP hS hL hT
      exact lv_dup hX hb hd rfl (k0 H locs ls hP hS hL hT)
    · simp only [nx] at ht; cases ht
      intro H locs ls hP hS hL hT
      exact lv_dup hX hb hd rfl (k0 H locs ls hP hS hL hT)
    · cases ht
  case pop =>
    have hln : len = 1 := by simpa [okA] using ho
    subst hln
    simp only [ta] at ht
    split at ht
    · simp only [nx] at ht; cases ht
      intro H locs ls hP hS hL hT
      exact lv_pop hX hb hd rfl (k0 H locs ls hP hS hL hT)
    · simp only [nx] at ht; cases ht
      intro H locs ls hP hS hL hT
      exact lv_pop hX hb hd rfl (k0 H locs ls hP hS hL hT)
    · cases ht
  case dup2 =>
    have hln : len = 1 := by simpa [okA] using ho
    subst hln
    simp only [ta] at ht
    split at ht
    · simp only [nx] at ht; cases ht
      intro H locs ls hP hS hL hT
      exact lv_dup2_11 hX hb hd rfl rfl (k0 H locs ls hP hS hL hT)
    · cases ht
  case goto off =>
    simp only [okA, Bool.and_eq_true, beq_iff_eq, decide_eq_true_eq] at ho
    obtain ⟨rfl, hw⟩ := ho
    simp only [ta, nx] at ht; cases ht
    intro H locs ls hP hS hL hT
    exact lv_goto hX hb hd hw (k0 H locs ls hP hS hL hT)
  case ifCond cd off =>
    simp only [okA, Bool.and_eq_true, beq_iff_eq, decide_eq_true_eq] at ho
    obtain ⟨rfl, hw⟩ := ho
    simp only [ta] at ht
    split at ht
    · cases cd
      · simp only [brI, nx] at ht
        split at ht
        · rename_i hc
          cases ht
          intro H locs ls hP hS hL hT
          exact lv_if_eq hX hb hd hw (fun _ => k0 H locs ls hP hS hL hT) (fun z => absurd hc z)
        · rename_i hc
          cases ht
          intro H locs ls hP hS hL hT
          exact lv_if_eq hX hb hd hw (fun z => absurd z hc) (fun _ => k0 H locs ls hP hS hL hT)
      · simp only [brI, nx, ite_not] at ht
        split at ht
        · rename_i hc
          cases ht
          intro H locs ls hP hS hL hT
          exact lv_if_ne hX hb hd hw (fun z => absurd hc z) (fun _ => k0 H locs ls hP hS hL hT)
        · rename_i hc
          cases ht
          intro H locs ls hP hS hL hT
          exact lv_if_ne hX hb hd hw (fun _ => k0 H locs ls hP hS hL hT) (fun z => absurd z hc)
      · simp only [brI, nx] at ht
        split at ht
        · rename_i hc
          cases ht
          intro H locs ls hP hS hL hT
          exact lv_if_lt hX hb hd hw (fun _ => k0 H locs ls hP hS hL hT) (fun z => absurd hc z)
        · rename_i hc
          cases ht
          intro H locs ls hP hS hL hT
          exact lv_if_lt hX hb hd hw (fun z => absurd z hc) (fun _ => k0 H locs ls hP hS hL hT)
      · simp only [brI, nx] at ht
        split at ht
        · rename_i hc
          cases ht
          intro H locs ls hP hS hL hT
          exact lv_if_ge hX hb hd hw (fun _ => k0 H locs ls hP hS hL hT) (fun z => absurd hc z)
        · rename_i hc
          cases ht
          intro H locs ls hP hS hL hT
          exact lv_if_ge hX hb hd hw (fun z => absurd z hc) (fun _ => k0 H locs ls hP hS hL hT)
      · simp only [brI, nx] at ht
        split at ht
        · rename_i hc
          cases ht
          intro H locs ls hP hS hL hT
          exact lv_if_gt hX hb hd hw (fun _ => k0 H locs ls hP hS hL hT) (fun z => absurd hc z)
        · rename_i hc
          cases ht
          intro H locs ls hP hS hL hT
          exact lv_if_gt hX hb hd hw (fun z => absurd z hc) (fun _ => k0 H locs ls hP hS hL hT)
      · simp only [brI, nx] at ht
        split at ht
        · rename_i hc
          cases ht
          intro H locs ls hP hS hL hT
          exact lv_if_le hX hb hd hw (fun _ => k0 H locs ls hP hS hL hT) (fun z => absurd hc z)
        · rename_i hc
          cases ht
          intro H locs ls hP hS hL hT
          exact lv_if_le hX hb hd hw (fun z => absurd z hc) (fun _ => k0 H locs ls hP hS hL hT)
    · cases ht
  case if_icmp cd off =>
    simp only [okA, Bool.and_eq_true, beq_iff_eq, decide_eq_true_eq] at ho
    obtain ⟨rfl, hw⟩ := ho
    simp only [ta] at ht
    split at ht
    · cases cd
      · simp only [brI, nx] at ht
        split at ht
        · rename_i hc
          cases ht
          intro H locs ls hP hS hL hT
          exact lv_icmp_eq hX hb hd hw (fun _ => k0 H locs ls hP hS hL hT) (fun z => absurd hc z)
        · rename_i hc
          cases ht
          intro H locs ls hP hS hL hT
          exact lv_icmp_eq hX hb hd hw (fun z => absurd z hc) (fun _ => k0 H locs ls hP hS hL hT)
      · simp only [brI, nx, ite_not] at ht
        split at ht
        · rename_i hc
          cases ht
          intro H locs ls hP hS hL hT
          exact lv_icmp_ne hX hb hd hw (fun z => absurd hc z) (fun _ => k0 H locs ls hP hS hL hT)
        · rename_i hc
          cases ht
          intro H locs ls hP hS hL hT
          exact lv_icmp_ne hX hb hd hw (fun _ => k0 H locs ls hP hS hL hT) (fun z => absurd z hc)
      · simp only [brI, nx] at ht
        split at ht
        · rename_i hc
          cases ht
          intro H locs ls hP hS hL hT
          exact lv_icmp_lt hX hb hd hw (fun _ => k0 H locs ls hP hS hL hT) (fun z => absurd hc z)
        · rename_i hc
          cases ht
          intro H locs ls hP hS hL hT
          exact lv_icmp_lt hX hb hd hw (fun z => absurd z hc) (fun _ => k0 H locs ls hP hS hL hT)
      · simp only [brI, nx] at ht
        split at ht
        · rename_i hc
          cases ht
          intro H locs ls hP hS hL hT
          exact lv_icmp_ge hX hb hd hw (fun _ => k0 H locs ls hP hS hL hT) (fun z => absurd hc z)
        · rename_i hc
          cases ht
          intro H locs ls hP hS hL hT
          exact lv_icmp_ge hX hb hd hw (fun z => absurd z hc) (fun _ => k0 H locs ls hP hS hL hT)
      · simp only [brI, nx] at ht
        split at ht
        · rename_i hc
          cases ht
          intro H locs ls hP hS hL hT
          exact lv_icmp_gt hX hb hd hw (fun _ => k0 H locs ls hP hS hL hT) (fun z => absurd hc z)
        · rename_i hc
          cases ht
          intro H locs ls hP hS hL hT
          exact lv_icmp_gt hX hb hd hw (fun z => absurd z hc) (fun _ => k0 H locs ls hP hS hL hT)
      · simp only [brI, nx] at ht
        split at ht
        · rename_i hc
          cases ht
          intro H locs ls hP hS hL hT
          exact lv_icmp_le hX hb hd hw (fun _ => k0 H locs ls hP hS hL hT) (fun z => absurd hc z)
        · rename_i hc
          cases ht
          intro H locs ls hP hS hL hT
          exact lv_icmp_le hX hb hd hw (fun z => absurd z hc) (fun _ => k0 H locs ls hP hS hL hT)
    · cases ht
  case tableswitch dflt lo hi offs =>
    simp only [okA, Bool.and_eq_true, decide_eq_true_eq, inR32, List.all_eq_true] at ho
    obtain ⟨⟨⟨⟨h1, h2⟩, h3⟩, h4⟩, h5⟩ := ho
    simp only [ta] at ht
    split at ht
    · rename_i x r
      obtain ⟨rfl, rfl, rfl, hpc⟩ := tsw_spec ht
      intro H locs ls hP hS hL hT
      rcases hpc with ⟨j, o, hj, hx, rfl⟩ | ⟨hx, rfl⟩
      · have hjl : j < offs.toList.length := (List.getElem?_eq_some_iff.mp hj).1
        have e : x.toInt = lo + (j : Int) := by rw [hx]; exact iI_toInt (by omega) (by omega)
        refine lv_tableIn (off := o) (tgt := ((pc : Int) + o).toNat) hX hb hd (by omega) (by omega) ?_ ?_ (k0 H locs ls hP hS hL hT)
        · have e2 : (x.toInt - lo).toNat = j := by omega
          rw [e2, ← Array.getElem?_toList]
          exact hj
        · have h6 := h3 o (List.mem_of_getElem? hj)
          omega
      · refine lv_tableOut (tgt := ((pc : Int) + dflt).toNat) hX hb hd ?_ (by omega) (k0 H locs ls hP hS hL hT)
        by_cases h7 : x.toInt < lo
        · exact Or.inl h7
        · by_cases h8 : hi < x.toInt
          · exact Or.inr h8
          · exfalso
            refine hx (x.toInt - lo).toNat (by omega) ?_
            have e3 : lo + (((x.toInt - lo).toNat : Nat) : Int) = x.toInt := by omega
            rw [e3]
            exact (iI_of x).symm
    · cases ht
  case lookupswitch dflt ps =>
    simp only [okA, Bool.and_eq_true, decide_eq_true_eq, inR32, List.all_eq_true] at ho
    obtain ⟨⟨h1, h2⟩, h3⟩ := ho
    simp only [ta] at ht
    split at ht
    · rename_i x r
      obtain ⟨rfl, rfl, rfl, hge, hpc⟩ := lsw_spec (fun q hq => h3 q hq) h2 ht
      intro H locs ls hP hS hL hT
      exact lv_lookup (off := Op.lookupswitch.offset ps.toList dflt x.toInt) hX hb hd (List.all_eq_true.mpr (fun x hx => decide_eq_true (h1 x hx))) rfl (by omega) (k0 H locs ls hP hS hL hT)
    · cases ht
  case getfield i =>
    simp only [okA, Bool.and_eq_true, beq_iff_eq] at ho
    obtain ⟨rfl, ho⟩ := ho
    cases hq : classes[an.1]? with
    | none => rw [hq] at ho; cases ho
    | some q =>
      rw [hq] at ho
      simp only [Bool.and_eq_true, decide_eq_true_eq] at ho
      obtain ⟨hk, hf⟩ := ho
      simp only [ta] at ht
      split at ht
      · rename_i b r
        split at ht
        · rename_i hcl
          simp only [nx] at ht; cases ht
          have hci := (List.getElem?_eq_some_iff.mp hq).1
          have hb7 := clsO_lt hcl hci
          intro H locs ls hP hS hL hT
          have hg := cel_obj (ad := ad) (cA := cA) (M := M) hcl
          have hget := wsO_get (ad := ad) (cA := cA) (M := M) hb7
          rw [hg] at hget
          have hv : ((List.range (nfd an.1)).map (fun k => cv ad (fv M b k)))[an.2.1]? = some (cv ad (fv M b an.2.1)) := by simp [nfd_eq hq, hk]
          unfold okF at hf
          split at hf
          · exact va_get (ref := (q.2.1 an.2.1).1) hX hb hts (cls_in hq) hown hK hP b hget hq an.2.1 hk (hts _ (wat_mem (of_decide_eq_true hf))) (fun _ h => h) hv hd (k0 H locs ls hP hS hL hT)
          · split at hf
            · rename_i z hz
              simp only [decide_eq_true_eq] at hf
              obtain ⟨e1, e2, e3, e4, e5⟩ := hf
              have hn := va_Nw.use (A := args) rfl (hT.2.2.2.2.2.2.2.1 z (List.mem_of_getElem? hz))
              unfold nfc at hn
              rw [e1, e2, e3, e4, e5] at hn
              exact va_getN (ref := (q.2.1 an.2.1).1) hX hb hts (cls_in hq) hown hK hP b hget hq an.2.1 hk hn (fun _ h => h) hv hd (k0 H locs ls hP hS hL hT)
            · cases hf
        · cases ht
      · cases ht
  case putfield i =>
    simp only [okA, Bool.and_eq_true, beq_iff_eq] at ho
    obtain ⟨rfl, ho⟩ := ho
    cases hq : classes[an.1]? with
    | none => rw [hq] at ho; cases ho
    | some q =>
      rw [hq] at ho
      simp only [Bool.and_eq_true, decide_eq_true_eq, Bool.not_eq_true', beq_iff_eq] at ho
      obtain ⟨⟨⟨⟨hk, hf⟩, hfin⟩, hrf⟩, hty⟩ := ho
      simp only [ta] at ht
      split at ht
      · rename_i v b r
        split at ht
        · rename_i hcl
          have hci := (List.getElem?_eq_some_iff.mp hq).1
          have hb7 := clsO_lt hcl hci
          have hnr := reff_ok hcl hci hrf
          have key : (narrow (if an.2.2.1 = 0 then FieldType.int else .boolean) (.int v) = .int v ∧ fits (if an.2.2.1 = 0 then FieldType.int else .boolean) (.int v) = true) ∧ (pc', L', S', M') = (pc + 3, L, r, sI M b an.2.1 v) := by
            split at ht
            · rename_i h0
              simp only [nx] at ht; cases ht
              exact ⟨⟨by rw [if_pos h0]; rfl, by rw [if_pos h0]; rfl⟩, rfl⟩
            · rename_i h0
              split at ht
              · rename_i hv
                simp only [nx] at ht; cases ht
                refine ⟨?_, rfl⟩
                rw [if_neg h0]
                rcases hv with rfl | rfl <;> exact ⟨rfl, rfl⟩
              · cases ht
          obtain ⟨⟨hnar, hfit⟩, he⟩ := key
          cases he
          intro H locs ls hP hS hL hT
          have hT' : ST ad (sI M b an.2.1 v) s s.heap := ST_kp (kp_sI (cls_ne hcl)) hT
          obtain ⟨ty0, hty0, hnm⟩ := cls_ty hq
          have hg := cel_obj (ad := ad) (cA := cA) (M := M) hcl
          have hget := wsO_get (ad := ad) (cA := cA) (M := M) hb7
          rw [hg] at hget
          have hset : (wsO ad cA M).set b (ad b, .inr (an.1, ((List.range (nfd an.1)).map (fun k => cv ad (fv M b k))).set an.2.1 (cv ad (.int v)))) = wsO ad cA (sI M b an.2.1 v) := by
            refine wsO_set hb7 ?_ (fun j hj => by funext y; simp [sI, hj]) (fun j hj => rfl)
            rw [cel_obj hcl]
            congr 2
            refine List.ext_getElem? fun j => ?_
            by_cases hj : j = an.2.1
            · subst hj
              rw [List.getElem?_set_self (by simp [nfd_eq hq, hk])]
              simp [nfd_eq hq, hk, fv, hnr, sI, cv]
            · rw [List.getElem?_set_ne (Ne.symm hj)]
              by_cases hjn : j < nfd an.1
              · simp [hjn, fv, sI, hj]
              · simp [hjn]
          have hl : an.2.1 < ((List.range (nfd an.1)).map (fun k => cv ad (fv M b k))).length := by simp [nfd_eq hq, hk]
          unfold okF at hf
          split at hf
          · refine va_put (ref := (q.2.1 an.2.1).1) hX hb hts (cls_in hq) ty0 hty0 hnm hown hK hP (wsO_D hI) hS b hget hq an.2.1 hk (hts _ (wat_mem (of_decide_eq_true hf))) (fun _ h => h) hfin hty hnar hfit hl hd (fun H1 locs1 hP1 hD1 hS1 => ?_)
            rw [hset] at hP1
            exact k0 H1 locs1 ls hP1 hS1 hL hT'
          · split at hf
            · rename_i z hz
              simp only [decide_eq_true_eq] at hf
              obtain ⟨e1, e2, e3, e4, e5⟩ := hf
              have hn := va_Nw.use (A := args) rfl (hT.2.2.2.2.2.2.2.1 z (List.mem_of_getElem? hz))
              unfold nfc at hn
              rw [e1, e2, e3, e4, e5] at hn
              refine va_putN (ref := (q.2.1 an.2.1).1) hX hb hts (cls_in hq) ty0 hty0 hnm hown hK hP (wsO_D hI) hS b hget hq an.2.1 hk hn (fun _ h => h) hfin hty hnar hfit hl hd (fun H1 locs1 hP1 hD1 hS1 => ?_)
              rw [hset] at hP1
              exact k0 H1 locs1 ls hP1 hS1 hL hT'
            · cases hf
        · cases ht
      · cases ht
  case getstatic i =>
    simp only [okA, Bool.and_eq_true, beq_iff_eq] at ho
    obtain ⟨⟨rfl, h120⟩, hf⟩ := ho
    simp only [ta, nx] at ht; cases ht
    intro H locs ls hP hS hL hT
    have hZ := hT.2.1
    rw [← h120] at hZ
    unfold okF at hf
    split at hf
    · exact va_gets (ref := "TubesOfCourt") hX hb hZ hS hown (hts _ (wat_mem (of_decide_eq_true hf))) (fun _ h => h) hd (k0 H locs ls hP hS hL hT)
    · split at hf
      · rename_i z hz
        simp only [decide_eq_true_eq] at hf
        obtain ⟨e1, e2, e3, e4, e5⟩ := hf
        have hn := va_Nw.use (A := args) rfl (hT.2.2.2.2.2.2.2.1 z (List.mem_of_getElem? hz))
        unfold nfc at hn
        rw [e1, e2, e3, e4, e5] at hn
        exact va_getsN (ref := "TubesOfCourt") hX hb hZ hS hown hn (fun _ h => h) hd (k0 H locs ls hP hS hL hT)
      · cases hf
  case iaload =>
    have hln : len = 1 := by simpa [okA] using ho
    subst hln
    simp only [ta] at ht
    split at ht
    · rename_i i a r
      split at ht
      · rename_i hc
        simp only [nx] at ht; cases ht
        obtain ⟨hak, hin⟩ := hc
        intro H locs ls hP hS hL hT
        rcases hak with hak | hak | hak
        · have ha7 := akind_lt (a := a) (by omega)
          rw [alen_st ha7] at hin
          have hget := wsO_get (ad := ad) (cA := cA) (M := M) ha7
          rw [cel_int (Or.inl hak), hak] at hget
          exact va_iald hX hb hK hP a 0 hget rfl (vp_in_iff.mpr hin) hd (k0 H locs ls hP hS hL hT)
        · have e := akind_6 hak
          subst e
          exact va_ti hX hb hT.1 hS (vp_in_iff.mpr hin) rfl hd (k0 H locs ls hP hS hL hT)
        · have e := akind_7 hak
          subst e
          exact va_sld hX hb hT.2.2.1.1 hT.2.2.1.2.2 hT.2.2.1.2.1 hS (vp_in_iff.mpr hin) hd (k0 H locs ls hP hS hL hT)
      · cases ht
    · cases ht
  case baload =>
    have hln : len = 1 := by simpa [okA] using ho
    subst hln
    simp only [ta] at ht
    split at ht
    · rename_i i a r
      split at ht
      · rename_i hc
        simp only [nx] at ht; cases ht
        obtain ⟨hak, hin⟩ := hc
        intro H locs ls hP hS hL hT
        have ha7 := akind_lt (a := a) (by omega)
        rw [alen_st ha7] at hin
        have hget := wsO_get (ad := ad) (cA := cA) (M := M) ha7
        rw [cel_int (Or.inr hak), hak] at hget
        exact va_zald hX hb hK hP a 1 hget rfl (vp_in_iff.mpr hin) hd (k0 H locs ls hP hS hL hT)
      · cases ht
    · cases ht
  case laload =>
    have hln : len = 1 := by simpa [okA] using ho
    subst hln
    simp only [ta] at ht
    split at ht
    · rename_i i a r
      split at ht
      · rename_i hc
        simp only [nx] at ht; cases ht
        obtain ⟨hak, hin⟩ := hc
        intro H locs ls hP hS hL hT
        have ha7 := akind_lt (a := a) (by omega)
        rw [alen_st ha7] at hin
        have hget := wsO_get (ad := ad) (cA := cA) (M := M) ha7
        rw [cel_long hak] at hget
        exact va_lald hX hb hK hP a 2 hget rfl (vp_in_iff.mpr hin) hd (k0 H locs ls hP hS hL hT)
      · cases ht
    · cases ht
  case aaload =>
    have hln : len = 1 := by simpa [okA] using ho
    subst hln
    simp only [ta] at ht
    split at ht
    · rename_i i a r
      split at ht
      · rename_i hc
        simp only [nx] at ht; cases ht
        obtain ⟨hak, hin⟩ := hc
        intro H locs ls hP hS hL hT
        have ha7 := akind_lt (a := a) (by omega)
        rw [alen_st ha7] at hin
        have hget := wsO_get (ad := ad) (cA := cA) (M := M) ha7
        rw [cel_ref hak] at hget
        have hlt : i.toInt.toNat < alT.getD a 0 := by omega
        have hk0 := k0 H locs ls hP hS hL hT
        have key : ∀ ty : FieldType, ty.isReference = true → ∀ t0 : Nat, (tysA cA)[t0]? = some (cA (akind a), ty) → W p l e R s m args below meth c H locs cells slots Q (F0 m pc ls ((.int i :: .ref a :: r : List Value).map (cv ad))) := by
          intro ty hty t0 ht0
          refine W.aald (v := .ref (ad (rfe a i.toInt.toNat))) (ty := ty) hX hb (hP a _ hget) ((hK.2 t0 _ ht0).1 (alT.getD a 0) (fun j => va_rf (if j < alT.getD a 0 then some (ad (rfe a j)) else none))) hty (fun q => by cases q) (by show ¬ (i < 0 ∨ (arrV _ _ _).slots.size ≤ _); rw [arrV_size]; exact vp_in_iff.mpr hin) ?_ rfl rfl hd hk0
          show (arrV _ _ _).slots[_]? = _
          have e : i.toNatClampNeg = i.toInt.toNat := rfl
          rw [e, arrV_read _ _ hlt]
          show some (va_rf (if _ then _ else _)) = _
          rw [if_pos hlt]
          rfl
        rcases hak with hak | hak | hak
        · exact key (.array .int) rfl 3 (by rw [hak]; rfl)
        · exact key (.array .long) rfl 4 (by rw [hak]; rfl)
        · exact key (.object "java/lang/String") rfl 5 (by rw [hak]; rfl)
      · cases ht
    · cases ht
  case iastore =>
    have hln : len = 1 := by simpa [okA] using ho
    subst hln
    simp only [ta] at ht
    split at ht
    · rename_i x i a r
      split at ht
      · rename_i hc
        simp only [nx] at ht; cases ht
        obtain ⟨hak, hin⟩ := hc
        have ha7 := akind_lt (a := a) (by omega)
        rw [alen_st ha7] at hin
        intro H locs ls hP hS hL hT
        have hT' : ST ad (sI M a i.toInt.toNat x) s s.heap := ST_kp (kp_sI (ak_ne ha7)) hT
        have hget := wsO_get (ad := ad) (cA := cA) (M := M) ha7
        rw [cel_int (Or.inl hak), hak] at hget
        refine va_iast hX hb hK hP (wsO_D hI) hS a 0 hget rfl (vp_in_iff.mpr hin) hd (fun H1 locs1 hP1 hD1 hS1 => ?_)
        rw [show (wsO ad cA M).set a _ = wsO ad cA (sI M a i.toInt.toNat x) from wsO_set ha7 (by rw [cel_int (Or.inl hak), hak]; congr 4; funext y; simp [sI, upd] <;> rfl) (fun j hj => by funext y; simp [sI, hj]) (fun j hj => rfl)] at hP1
        exact k0 H1 locs1 ls hP1 hS1 hL hT'
      · cases ht
    · cases ht
  case bastore =>
    have hln : len = 1 := by simpa [okA] using ho
    subst hln
    simp only [ta] at ht
    split at ht
    · rename_i x i a r
      split at ht
      · rename_i hc
        split at ht
        · rename_i hx
          simp only [nx] at ht; cases ht
          obtain ⟨hak, hin⟩ := hc
          have ha7 := akind_lt (a := a) (by omega)
          rw [alen_st ha7] at hin
          intro H locs ls hP hS hL hT
          have hT' : ST ad (sI M a i.toInt.toNat x) s s.heap := ST_kp (kp_sI (ak_ne ha7)) hT
          have hget := wsO_get (ad := ad) (cA := cA) (M := M) ha7
          rw [cel_int (Or.inr hak), hak] at hget
          have hnx : vp_nar .boolean x = x := by rcases hx with rfl | rfl <;> rfl
          refine va_zast hX hb hK hP (wsO_D hI) hS a 1 hget rfl (vp_in_iff.mpr hin) hd (fun H1 locs1 hP1 hD1 hS1 => ?_)
          rw [hnx] at hP1
          rw [show (wsO ad cA M).set a _ = wsO ad cA (sI M a i.toInt.toNat x) from wsO_set ha7 (by rw [cel_int (Or.inr hak), hak]; congr 4; funext y; simp [sI, upd] <;> rfl) (fun j hj => by funext y; simp [sI, hj]) (fun j hj => rfl)] at hP1
          exact k0 H1 locs1 ls hP1 hS1 hL hT'
        · cases ht
      · cases ht
    · cases ht
  case lastore =>
    have hln : len = 1 := by simpa [okA] using ho
    subst hln
    simp only [ta] at ht
    split at ht
    · rename_i x i a r
      split at ht
      · rename_i hc
        simp only [nx] at ht; cases ht
        obtain ⟨hak, hin⟩ := hc
        have ha7 := akind_lt (a := a) (by omega)
        rw [alen_st ha7] at hin
        intro H locs ls hP hS hL hT
        have hT' : ST ad (sJ M a i.toInt.toNat x) s s.heap := ST_kp ⟨rfl, rfl, rfl⟩ hT
        have hget := wsO_get (ad := ad) (cA := cA) (M := M) ha7
        rw [cel_long hak] at hget
        refine va_last hX hb hK hP (wsO_D hI) hS a 2 hget rfl (vp_in_iff.mpr hin) hd (fun H1 locs1 hP1 hD1 hS1 => ?_)
        rw [show (wsO ad cA M).set a _ = wsO ad cA (sJ M a i.toInt.toNat x) from wsO_set ha7 (by rw [cel_long hak]; congr 5; funext y; simp [sJ, vp_updL] <;> rfl) (fun j hj => rfl) (fun j hj => by funext y; simp [sJ, hj])] at hP1
        exact k0 H1 locs1 ls hP1 hS1 hL hT'
      · cases ht
    · cases ht
  case arraylength =>
    have hln : len = 1 := by simpa [okA] using ho
    subst hln
    simp only [ta] at ht
    split at ht
    · rename_i a r
      split at ht
      · rename_i hc
        simp only [nx] at ht; cases ht
        intro H locs ls hP hS hL hT
        have hk0 := k0 H locs ls hP hS hL hT
        by_cases h6 : akind a < 6
        · have ha7 := akind_lt h6
          have hget := wsO_get (ad := ad) (cA := cA) (M := M) ha7
          obtain ⟨x, hx, hx1⟩ := cel_arr (ad := ad) (cA := cA) (M := M) h6
          rw [hx] at hget
          obtain ⟨ty, hty⟩ := tysA_ex (cA := cA) h6
          refine va_alen hX hb hK hP a (akind a) hget hty (v := iI (alen M a : Int)) ?_ hd hk0
          rw [alen_st ha7, hx1]
          exact iI_nat _
        · have h67 := akind_678 (a := a) (by omega)
          rcases h67 with h | h | h
          · have e := akind_6 h
            subst e
            exact va_tlen hX hb hT.1 hS rfl hd hk0
          · have e := akind_7 h
            subst e
            refine va_slen hX hb hT.2.2.1.1 hT.2.2.1.2.2 hT.2.2.1.2.1 hS hd ?_
            exact hk0
          · omega
      · cases ht
    · cases ht
  case invokestatic i =>
    simp only [okA, Bool.and_eq_true, beq_iff_eq] at ho
    obtain ⟨rfl, ho⟩ := ho
    simp only [ta] at ht
    split at ht
    · rename_i h1
      rw [if_pos h1] at ho
      have hlk := hts _ (wat_mem (of_decide_eq_true ho))
      split at ht
      · rename_i n dp d sp s0
        intro H locs ls hP hS hL hT
        have hml : c.maxLocals = ls.size := by rw [hnl, hL.1]
        split at ht
        · rename_i hc
          obtain ⟨ks, kd, g1, g2, g3, g4, g5⟩ := hc
          simp only [nx] at ht; cases ht
          have hs7 := akind_lt (a := s0) (by omega)
          have hd7 := akind_lt (a := d) (by omega)
          rw [alen_st hs7] at g4
          rw [alen_st hd7] at g5
          have gs := wsO_get (ad := ad) (cA := cA) (M := M) hs7
          have gd := wsO_get (ad := ad) (cA := cA) (M := M) hd7
          rw [cel_int (Or.inl ks), ks] at gs
          rw [cel_int (Or.inl kd), kd] at gd
          have hT' : ST ad (rI M d (cpy (M.1 s0) (M.1 d) sp.toInt.toNat dp.toInt.toNat n.toInt.toNat)) s s.heap := ST_kp (kp_rI (ak_ne hd7)) hT
          refine va_copyi hX hb hml hown hlk (hts _ acw.1) (hts _ acw.2.1) (hts _ acw.2.2) hK hP (wsO_D hI) hS s0 d 0 0 gs gd rfl rfl rfl (nlt0 g1) (nlt0 g2) (nlt0 g3) (by show sp.toInt.toNat + n.toInt.toNat ≤ _; omega) (by show dp.toInt.toNat + n.toInt.toNat ≤ _; omega) (fun _ _ => rfl) (rest := []) hR1 (by have := acfw; show 0 + _ ≤ _; omega) hd (fun H1 locs1 hP1 hD1 hS1 => ?_)
          rw [show (wsO ad cA M).set d _ = wsO ad cA (rI M d (cpy (M.1 s0) (M.1 d) sp.toInt.toNat dp.toInt.toNat n.toInt.toNat)) from wsO_set hd7 (by rw [cel_int (Or.inl kd), kd]; congr 4; funext y; simp [rI] <;> rfl) (fun j hj => by simp [rI, hj]) (fun j hj => rfl)] at hP1
          exact k0 H1 locs1 ls hP1 hS1 hL hT'
        · split at ht
          · rename_i hc
            obtain ⟨ks, kd, g1, g2, g3, g4, g5⟩ := hc
            simp only [nx] at ht; cases ht
            have hs7 := akind_lt (a := s0) (by omega)
            have hd7 := akind_lt (a := d) (by omega)
            rw [alen_st hs7] at g4
            rw [alen_st hd7] at g5
            have gs := wsO_get (ad := ad) (cA := cA) (M := M) hs7
            have gd := wsO_get (ad := ad) (cA := cA) (M := M) hd7
            rw [cel_long ks] at gs
            rw [cel_long kd] at gd
            have hT' : ST ad (rJ M d (cpy (M.2 s0) (M.2 d) sp.toInt.toNat dp.toInt.toNat n.toInt.toNat)) s s.heap := ST_kp ⟨rfl, rfl, rfl⟩ hT
            refine va_copyl hX hb hml hown hlk (hts _ acw.1) (hts _ acw.2.1) (hts _ acw.2.2) hK hP (wsO_D hI) hS s0 d 2 2 gs gd rfl rfl rfl (nlt0 g1) (nlt0 g2) (nlt0 g3) (by show sp.toInt.toNat + n.toInt.toNat ≤ _; omega) (by show dp.toInt.toNat + n.toInt.toNat ≤ _; omega) (fun _ _ => rfl) (rest := []) hR1 (by have := acfw; show 0 + _ ≤ _; omega) hd (fun H1 locs1 hP1 hD1 hS1 => ?_)
            rw [show (wsO ad cA M).set d _ = wsO ad cA (rJ M d (cpy (M.2 s0) (M.2 d) sp.toInt.toNat dp.toInt.toNat n.toInt.toNat)) from wsO_set hd7 (by rw [cel_long kd]; congr 5; funext y; simp [rJ] <;> rfl) (fun j hj => rfl) (fun j hj => by simp [rJ, hj])] at hP1
            exact k0 H1 locs1 ls hP1 hS1 hL hT'
          · cases ht
      · cases ht
    · rename_i h1
      rw [if_neg h1] at ho
      split at ht
      · rename_i h2
        rw [if_pos h2] at ho
        have hlk := hts _ (wat_mem (of_decide_eq_true ho))
        split at ht
        · rename_i y x r
          split at ht
          · rename_i hr
            simp only [nx] at ht; cases ht
            intro H locs ls hP hS hL hT
            have hml : c.maxLocals = ls.size := by rw [hnl, hL.1]
            exact va_mmax hX hb hml hown hlk (hts _ mxw.1) (hts _ mxw.2.1) (hts _ mxw.2.2) hR1 (by rw [cat_map]; omega) hR3 hR4 hd (k0 H locs ls hP hS hL hT)
          · cases ht
        · cases ht
      · rename_i h2
        rw [if_neg h2] at ho
        split at ht
        · rename_i h3
          rw [if_pos h3] at ho
          have hlk := hts _ (wat_mem (of_decide_eq_true ho))
          split at ht
          · rename_i y x r
            split at ht
            · rename_i hr
              simp only [nx] at ht; cases ht
              intro H locs ls hP hS hL hT
              have hml : c.maxLocals = ls.size := by rw [hnl, hL.1]
              exact va_mmin hX hb hml hown hlk (hts _ mnw.1) (hts _ mnw.2.1) (hts _ mnw.2.2) hR1 (by rw [cat_map]; omega) hR3 hR4 hd (k0 H locs ls hP hS hL hT)
            · cases ht
          · cases ht
        · split at ht
          · split at ht <;> cases ht
          · cases ht
  all_goals first | (cases ht; done) | skip
  all_goals (exfalso; simp only [ta] at ht)
  all_goals (repeat' split at ht)
  all_goals (first | (cases ht; done) | (simp only [nx] at ht; cases ht; done))
end SND
/-! SOUND, calls, ends, whole methods -/
def OKH (ad : Nat → Nat) (cA : Nat → ClassId) (DD : va_G) (M : tM) (U : State) : Prop := va_P DD classes (wsO ad cA M) U.heap ∧ va_K DD classes (tysA cA) U ∧ ST ad M U U.heap
def PcO (ad : Nat → Nat) (cA : Nat → ClassId) (DD : va_G) (as : List Value) (M : tM) : Array Value → State → Prop := va_Pc (as.map (cv ad)) (OKH ad cA DD M)
def QcO (ad : Nat → Nat) (cA : Nat → ClassId) (DD : va_G) (v : Option Value) (M' : tM) : Array Value → State → Outcome → State → Prop := fun _ st oc t => (oc = .returned (v.map (cv ad)) ∧ OKH ad cA DD M' t) ∧ va_F (A0 ad) st t
def wdE (e : tE) : List Cond := .code e.2.2.1 e.2.2.2.1 e.2.1 e.2.2.2.2.1 :: WS
def Con (l : Launch) (ad : Nat → Nat) (cA : Nat → ClassId) (DD : va_G) (D : Nat) (e : tE) (as : List Value) (M : tM) (v : Option Value) (M' : tM) : Prop := Met l e.2.2.1 (wdE e) (room D) (PcO ad cA DD as M) (QcO ad cA DD v M') 0 0 (A0 ad)
theorem PcO_blind {ad : Nat → Nat} {cA : Nat → ClassId} {DD : va_G} {as : List Value} {M : tM} : FrameBlind (PcO ad cA DD as M) := by
  rintro a U g mk ⟨h1, h2, h3, h4⟩
  exact ⟨h1, h2, va_K.moved (u := U) (U := U.calling g mk a) (Vm.Alike.refl U.vm) h3, ST_same rfl h4⟩
theorem PcO_at {ad : Nat → Nat} {cA : Nat → ClassId} {DD : va_G} {as : List Value} {M : tM} {s U : State} {H : Heap} {locs : List Loc} (hK : va_K DD classes (tysA cA) s) (hP : va_P DD classes (wsO ad cA M) H) (hS : va_S (A0 ad) s.heap H locs) (hT : ST ad M s s.heap) (hU : U.heap = H) (hW : s.WarmedH U.vm) {a : Array Value} (ha : a = (as.map (cv ad)).toArray) : PcO ad cA DD as M a U :=
  ⟨ha, by rw [hU]; exact hP, va_K.moved hW.alike hK, by rw [hU]; exact ST_warm hW (ST_heap hT hS.1 hS.2.1)⟩
theorem gin {ws : List Cond} (h : ∀ w ∈ ws, w ∈ WS) : GoodIn WS ws := fun w hw => ⟨h w hw, (ws_good w (h w hw)).2⟩
theorem tkn_spec : ∀ (n : Nat) {acc S as r : List Value}, tkn n acc S = some (as, r) → ∃ pre, S = pre ++ r ∧ as = pre.reverse ++ acc ∧ pre.length = n
  | 0, acc, S, as, r, h => by
    simp only [tkn, Option.some.injEq, Prod.mk.injEq] at h
    exact ⟨[], by simp [h.2], by simp [h.1], rfl⟩
  | n + 1, acc, [], as, r, h => by simp [tkn] at h
  | n + 1, acc, v :: S, as, r, h => by
    simp only [tkn] at h
    obtain ⟨pre, h1, h2, h3⟩ := tkn_spec n h
    exact ⟨v :: pre, by simp [h1], by simp [h2], by simp [h3]⟩
theorem cls90 {b : Nat} (h : clsO b = some 90) : 130 ≤ b ∧ b < 136 := by
  by_cases ha : b < 136
  · have key : ∀ b, b < 136 → clT.getD b none = some 90 → 130 ≤ b ∧ b < 136 := by decide
    exact key b ha h
  · exfalso
    simp [clsO, List.getD_eq_getElem?_getD, List.getElem?_eq_none (show clT.length ≤ b from Nat.not_lt.mp ha)] at h
section SNC
variable {p : Program} {l : Launch} {e : Env} {R : Room} {s : State} {m : MethodId} {args : Array Value} {below : List Frame} {meth : Method} {c : Code} {cells slots : Nat} {Q : State → Prop} {H : Heap} {locs : List Loc}
variable {ad : Nat → Nat} {cA : Nat → ClassId} {DD : va_G} {own : String} {cc : ByteArray} {nL : Nat} {lw : List Nat}
variable {ins : Instr} {len : Nat} {an : tAn} {pc : Nat} {L : tL} {S : List Value} {M : tM} {pc' : Nat} {L' : tL} {S' : List Value} {M' : tM}
theorem call_any {ls : Array Slot} {st0 rest : List Value} {a : Array Value} {v : Option Value} (hr : va_Run p l e R s m args below meth c H locs cells slots 0 0 (F0 m pc ls st0) rest (QcO ad cA DD v M' a) (A0 ad)) (hS : va_S (A0 ad) s.heap H locs)
    (kk : ∀ (H1 : Heap) (locs1 : List Loc), va_P DD classes (wsO ad cA M') H1 → va_S (A0 ad) s.heap H1 locs1 → W p l e R s m args below meth c H1 locs1 cells slots Q (F0 m (pc + 3) ls ((v.map (cv ad)).toList ++ rest))) : W p l e R s m args below meth c H locs cells slots Q (F0 m pc ls st0) := by
  intro T hT X
  obtain ⟨v', st₀, t, T', L, h0, X', hL, e1, e2, ⟨⟨hv, hok⟩, hz, hk⟩, st⟩ := hr T hT X
  cases hv
  rw [h0] at hz hk
  obtain ⟨t2, a1, b1⟩ := kk T'.heap (locs ++ L) (by rw [e1]; exact hok.1)
    ⟨Nat.le_trans hS.1 (by rw [e1]; exact hz), fun q h1 h2 => by rw [e1, hk q (Nat.lt_of_lt_of_le h1 hS.1) h2]; exact hS.2.1 q h1 h2, fun q hq => by
      rcases List.mem_append.mp hq with h | h
      · exact hS.2.2 q h
      · exact hL q h⟩ T' rfl X'
  exact ⟨t2, st t2 a1, b1⟩
theorem snd_call (hX : p.tables.exec = Jvm.exec) (hb : c.code = cc) (hnl : c.maxLocals = nL) (hown : s.vm.findClass own = some m.cls) (hts : ∀ w ∈ WS, w.before args s = true) (hK : va_K DD classes (tysA cA) s)
    {D0 : Nat} (hR1 : D0 + 1 ≤ R.frames) (hR2 : 64 * D0 + 64 ≤ R.locals) (hR3 : cells ≤ R.cells) (hR4 : slots ≤ R.slots)
    (ho : okA own pc nL lw ins len an = true) (hd : decode cc pc = .ok (ins, len)) {y : Nat} {as : List Value} (ht : ta ins an pc L S M = some (.inr (.inl (y, as, pc', L', S')))) {v : Option Value}
    (hca : (mpl.getD y []).length ≠ 0 ∨ 300 ≤ y → ∃ e2, mif y = some e2 ∧ (∃ q, okM e2 q = true ∧ (y < 300 → q = mpl.getD y []) ∧ (300 ≤ y → q.length = 4 ∧ e2.2.2.1.cls = "java/lang/String")) ∧ Con l ad cA DD D0 e2 as M v M') (hkp : kp M M')
    (k0 : Gl p l e R s m args below meth c cells slots Q ad cA DD nL lw pc' L' (v.toList ++ S') M') : Gl p l e R s m args below meth c cells slots Q ad cA DD nL lw pc L S M := by
  cases ins
  case invokevirtual i =>
    simp only [okA, Bool.and_eq_true, beq_iff_eq] at ho
    obtain ⟨rfl, ho⟩ := ho
    cases hm : mif an.1 with
    | none => rw [hm] at ho; cases ho
    | some e2 =>
      rw [hm] at ho
      simp only [Bool.and_eq_true, decide_eq_true_eq] at ho
      obtain ⟨⟨hl, hn⟩, hcl⟩ := ho
      simp only [ta] at ht
      split at ht
      · rename_i as' b r htk
        split at ht
        · rename_i hr
          split at ht
          · rename_i hcb
            cases ht
            obtain ⟨pre, hS1, hS2, hS3⟩ := tkn_spec _ htk
            rw [List.append_nil] at hS2
            have hy : (mpl.getD an.1 []).length ≠ 0 ∨ 300 ≤ an.1 := by
              split at hcl
              · split at hcl
                · simp only [Bool.and_eq_true, decide_eq_true_eq, beq_iff_eq] at hcl
                  left; omega
                · cases hcl
              · right; omega
            obtain ⟨e2', he2, ⟨q, hq1, hq2, hq3⟩, hM⟩ := hca hy
            rw [hm] at he2
            cases he2
            have hq4 : q.length = 4 := by
              by_cases h3 : an.1 < 300
              · rw [if_pos h3] at hcl
                split at hcl
                · simp only [Bool.and_eq_true, decide_eq_true_eq, beq_iff_eq] at hcl
                  rw [hq2 h3]; exact hcl.2
                · cases hcl
              · exact (hq3 (by omega)).1
            match q, hq4, hq1 with
            | [w1, w2, w3, w4], _, hq1 =>
              simp only [okM, Bool.and_eq_true, decide_eq_true_eq] at hq1
              obtain ⟨⟨⟨⟨⟨⟨⟨⟨g1, g2⟩, g3⟩, g4⟩, g5⟩, g6⟩, g7⟩, g8⟩, g9⟩ := hq1
              have i1 := wat_mem g1
              have i2 := wat_mem g2
              have i3 := wat_mem g3
              have i4 := wat_mem g4
              intro H locs ls hP hS hL hT
              have hwd : ∀ w ∈ wdE e2, w ∈ WS := fun w hw => by
                rcases List.mem_cons.mp hw with rfl | hw
                · exact i4
                · exact hw
              have hrecv : ∃ cellB : Cell, H[ad b]? = some cellB ∧ cellB.vm.isStatics = false ∧ s.vm.findClass e2.2.2.1.cls = some cellB.cls := by
                by_cases h3 : an.1 < 300
                · rw [if_pos h3] at hcl
                  cases hz : classes[an.2.2.1.toNat]? with
                  | none => rw [hz] at hcl; cases hcl
                  | some z =>
                    rw [hz] at hcl
                    simp only [Bool.and_eq_true, decide_eq_true_eq] at hcl
                    have hb7 := clsO_lt hcb (List.getElem?_eq_some_iff.mp hz).1
                    have hget := wsO_get (ad := ad) (cA := cA) (M := M) hb7
                    rw [cel_obj hcb] at hget
                    rw [← hcl.1]
                    exact va_recv hK hP hz hget
                · rw [if_neg h3, beq_iff_eq] at hcl
                  rw [hcl] at hcb
                  have hb9 := cls90 hcb
                  obtain ⟨cell, q1, q2, q3, q4⟩ := ((ST_heap hT hS.1 hS.2.1).2.2.2.1.1 (b - 130) (by omega)).1
                  have q1 : H[ad (130 + (b - 130))]? = some cell := q1
                  rw [Nat.add_sub_cancel' hb9.1] at q1
                  rw [(hq3 (by omega)).2]
                  exact ⟨cell, q1, q2, q3⟩
              have hstk : S.map (cv ad) = (as'.map (cv ad)).reverse ++ .ref (ad b) :: S'.map (cv ad) := by
                rw [hS1, hS2, List.map_append, List.map_reverse, List.reverse_reverse]
                rfl
              have hlen : (as'.map (cv ad)).length = an.2.1 := by rw [List.length_map, hS2, List.length_reverse]; exact hS3
              have hpre : PreV s H e2.2.2.1.cls (ad b) (PcO ad cA DD (.ref b :: as') M) (as'.map (cv ad)) := ⟨PcO_blind, hrecv, fun U hU hW => PcO_at hK hP hS hT hU hW rfl⟩
              have hk1 : ∀ (H1 : Heap) (locs1 : List Loc), va_P DD classes (wsO ad cA M') H1 → va_S (A0 ad) s.heap H1 locs1 → W p l e R s m args below meth c H1 locs1 cells slots Q (F0 m (pc + 3) ls ((v.map (cv ad)).toList ++ S'.map (cv ad))) := by
                intro H1 locs1 hP1 hS1'
                have h := k0 H1 locs1 ls hP1 hS1' hL (ST_kp hkp hT)
                rw [List.map_append] at h
                cases v <;> exact h
              have hRR : (room D0).frames + 1 ≤ R.frames ∧ 8 + (e2.2.1 + 11) + (room D0).locals ≤ R.locals := ⟨hR1, by show 8 + (e2.2.1 + 11) + 64 * D0 ≤ _; omega⟩
              have hWr : 2 * (F0 m pc ls (S.map (cv ad))).monitorRoom + ((S'.map (cv ad)).map fun v => v.category).sum ≤ 8 := lv_room (by rw [cat_map]; exact hr)
              unfold okL at hl
              split at hl
              · have hlw := wat_mem (of_decide_eq_true hl)
                refine call_any (va_runV (As := as'.map (cv ad)) (rest := S'.map (cv ad)) ⟨hX, hb, hnl, hown, hts⟩ hM (cwV an.2.1 hts (gin fun w hw => ?_) rfl rfl rfl ⟨rfl, g6, g7, hn⟩ hRR) hpre rfl hlen hL.1 hstk hWr hd ⟨hR3, hR4⟩) hS hk1
                unfold wsV at hw
                simp only [List.cons_append, List.nil_append, List.mem_cons] at hw
                rcases hw with rfl | rfl | rfl | rfl | hw
                · exact hlw
                · exact i1
                · exact i2
                · exact i3
                · exact hwd w hw
              · split at hl
                · rename_i z hz
                  simp only [decide_eq_true_eq] at hl
                  obtain ⟨e1, e3, e4⟩ := hl
                  have hnw := hT.2.2.2.2.2.2.2.2 z (List.mem_of_getElem? hz)
                  unfold nmc at hnw
                  rw [e1, e3, e4] at hnw
                  exact call_any (va_runVN (As := as'.map (cv ad)) (rest := S'.map (cv ad)) ⟨hX, hb, hnl, hown, hts⟩ hM ⟨va_cnB an.2.1 hts (gin hwd) rfl rfl rfl hnw (hts _ i3) ⟨g6, g7, hn⟩ hRR, hts _ i1, hts _ i2⟩ hpre rfl hlen hL.1 hstk hWr hd ⟨hR3, hR4⟩) hS hk1
                · cases hl
          · cases ht
        · cases ht
      · cases ht
  case invokestatic i =>
    simp only [okA, Bool.and_eq_true, beq_iff_eq] at ho
    obtain ⟨rfl, ho⟩ := ho
    simp only [ta] at ht
    split at ht
    · exfalso
      split at ht
      · split at ht
        · simp only [nx] at ht; cases ht
        · split at ht
          · simp only [nx] at ht; cases ht
          · cases ht
      · cases ht
    · rename_i h1
      rw [if_neg h1] at ho
      split at ht
      · exfalso
        split at ht
        · split at ht
          · simp only [nx] at ht; cases ht
          · cases ht
        · cases ht
      · rename_i h2
        rw [if_neg h2] at ho
        split at ht
        · exfalso
          split at ht
          · split at ht
            · simp only [nx] at ht; cases ht
            · cases ht
          · cases ht
        · rename_i h3
          rw [if_neg h3] at ho
          cases hm : mif an.1 with
          | none => rw [hm] at ho; cases ho
          | some e2 =>
            rw [hm] at ho
            simp only [Bool.and_eq_true, decide_eq_true_eq, beq_iff_eq] at ho
            obtain ⟨⟨⟨hl, hn⟩, hml3⟩, hy3⟩ := ho
            split at ht
            · rename_i as' r htk
              split at ht
              · rename_i hr
                cases ht
                obtain ⟨pre, hS1, hS2, hS3⟩ := tkn_spec _ htk
                rw [List.append_nil] at hS2
                obtain ⟨e2', he2, ⟨q, hq1, hq2, hq3⟩, hM⟩ := hca (Or.inl (by omega))
                rw [hm] at he2
                cases he2
                have hq4 : q.length = 3 := by rw [hq2 hy3]; exact hml3
                match q, hq4, hq1 with
                | [w1, w3, w4], _, hq1 =>
                  simp only [okM, Bool.and_eq_true, decide_eq_true_eq] at hq1
                  obtain ⟨⟨⟨⟨⟨⟨⟨g1, g3⟩, g4⟩, g5⟩, g6⟩, g7⟩, g8⟩, g9⟩ := hq1
                  have i1 := wat_mem g1
                  have i3 := wat_mem g3
                  have i4 := wat_mem g4
                  intro H locs ls hP hS hL hT
                  have hwd : ∀ w ∈ wdE e2, w ∈ WS := fun w hw => by
                    rcases List.mem_cons.mp hw with rfl | hw
                    · exact i4
                    · exact hw
                  have hstk : S.map (cv ad) = (as.map (cv ad)).reverse ++ S'.map (cv ad) := by
                    rw [hS1, hS2, List.map_append, List.map_reverse, List.reverse_reverse]
                  have hlen : (as.map (cv ad)).length = an.2.1 := by rw [List.length_map, hS2, List.length_reverse]; exact hS3
                  have hpre : PreS s H (PcO ad cA DD as M) (as.map (cv ad)) := ⟨PcO_blind, fun U hU hW => PcO_at hK hP hS hT hU hW rfl⟩
                  have hk1 : ∀ (H1 : Heap) (locs1 : List Loc), va_P DD classes (wsO ad cA M') H1 → va_S (A0 ad) s.heap H1 locs1 → W p l e R s m args below meth c H1 locs1 cells slots Q (F0 m (pc + 3) ls ((v.map (cv ad)).toList ++ S'.map (cv ad))) := by
                    intro H1 locs1 hP1 hS1'
                    have h := k0 H1 locs1 ls hP1 hS1' hL (ST_kp hkp hT)
                    rw [List.map_append] at h
                    cases v <;> exact h
                  have hRR : (room D0).frames + 1 ≤ R.frames ∧ 8 + (e2.2.1 + 11) + (room D0).locals ≤ R.locals := ⟨hR1, by show 8 + (e2.2.1 + 11) + 64 * D0 ≤ _; omega⟩
                  have hWr : 2 * (F0 m pc ls (S.map (cv ad))).monitorRoom + ((S'.map (cv ad)).map fun v => v.category).sum ≤ 8 := lv_room (by rw [cat_map]; exact hr)
                  unfold okL at hl
                  split at hl
                  · have hlw := wat_mem (of_decide_eq_true hl)
                    refine call_any (va_runS (As := as.map (cv ad)) (rest := S'.map (cv ad)) ⟨hX, hb, hnl, hown, hts⟩ hM (va_cwS an.2.1 hts (gin fun w hw => ?_) rfl rfl rfl ⟨g6, g7, hn⟩ hRR) hpre rfl hlen hL.1 hstk hWr hd ⟨hR3, hR4⟩) hS hk1
                    unfold va_wsS at hw
                    simp only [List.cons_append, List.nil_append, List.mem_cons] at hw
                    rcases hw with rfl | rfl | rfl | hw
                    · exact hlw
                    · exact i1
                    · exact i3
                    · exact hwd w hw
                  · split at hl
                    · rename_i z hz
                      simp only [decide_eq_true_eq] at hl
                      obtain ⟨e1, e3, e4⟩ := hl
                      have hnw := hT.2.2.2.2.2.2.2.2 z (List.mem_of_getElem? hz)
                      unfold nmc at hnw
                      rw [e1, e3, e4] at hnw
                      exact call_any (va_runSN (As := as.map (cv ad)) (rest := S'.map (cv ad)) ⟨hX, hb, hnl, hown, hts⟩ hM ⟨va_cnB an.2.1 hts (gin hwd) rfl rfl rfl hnw (hts _ i3) ⟨g6, g7, hn⟩ hRR, hts _ i1, trivial⟩ hpre rfl hlen hL.1 hstk hWr hd ⟨hR3, hR4⟩) hS hk1
                    · cases hl
              · cases ht
            · cases ht
  all_goals (exfalso; simp only [ta, lI, lJ, lA, wI, wA, b2, b2J, u1, nx] at ht)
  all_goals (try (cases ht; done))
  case tableswitch =>
    split at ht
    · exact tsw_no ht
    · cases ht
  case lookupswitch =>
    split at ht
    · exact lsw_no ht
    · cases ht
  case ifCond cd _ => cases cd <;> simp only [brI] at ht <;> (repeat' split at ht) <;> cases ht
  case if_icmp cd _ => cases cd <;> simp only [brI] at ht <;> (repeat' split at ht) <;> cases ht
  all_goals (repeat' split at ht)
  all_goals (cases ht)
end SNC

def okT (ret : Option FieldType) (e : Nat × Instr × Nat × tAn) : Bool := match e.2.1 with
  | .ireturn => (e.2.2.2.1 == 0 && decide (ret = some .int)) || (e.2.2.2.1 == 1 && decide (ret = some .boolean))
  | .lreturn => decide (ret = some .long)
  | .areturn => (match ret with
    | some (.object _) => true
    | _ => false)
  | .return_ => decide (ret = none)
  | _ => true
theorem lk_mem : ∀ {C : tCode} {pc : Nat} {ins : Instr} {an : tAn}, lk pc C = some (ins, an) → ∃ len, (pc, ins, len, an) ∈ C
  | [], _, _, _, h => by simp [lk] at h
  | (q, i, n, a) :: r, pc, ins, an, h => by
    simp only [lk] at h
    split at h
    · rename_i e
      cases h
      subst e
      exact ⟨n, List.mem_cons_self⟩
    · obtain ⟨len, hl⟩ := lk_mem h
      exact ⟨len, List.mem_cons_of_mem _ hl⟩
theorem QcO_at {ad : Nat → Nat} {cA : Nat → ClassId} {DD : va_G} {M : tM} {s : State} {H : Heap} {locs : List Loc} {v : Option Value} {a : Array Value} (hK : va_K DD classes (tysA cA) s) (hP : va_P DD classes (wsO ad cA M) H) (hS : va_S (A0 ad) s.heap H locs) (hT : ST ad M s s.heap) : ∀ t : State, t.heap = H → s.WarmedH t.vm → QcO ad cA DD v M a s (.returned (v.map (cv ad))) t :=
  fun t ht hW => ⟨⟨rfl, by rw [OKH, ht]; exact ⟨hP, va_K.moved hW.alike hK, ST_warm hW (ST_heap hT hS.1 hS.2.1)⟩⟩, hS.F ht⟩
section SNR
variable {p : Program} {l : Launch} {e : Env} {R : Room} {s : State} {m : MethodId} {args : Array Value} {below : List Frame} {meth : Method} {c : Code} {cells slots : Nat} {Q : State → Prop} {H : Heap} {locs : List Loc}
variable {ad : Nat → Nat} {cA : Nat → ClassId} {DD : va_G} {own : String} {cc : ByteArray} {nL : Nat} {lw : List Nat}
variable {ins : Instr} {len : Nat} {an : tAn} {pc : Nat} {L : tL} {S : List Value} {M : tM} {pc' : Nat} {L' : tL} {S' : List Value} {M' : tM}
theorem snd_ret (hX : p.tables.exec = Jvm.exec) (hb : c.code = cc) (hK : va_K DD classes (tysA cA) s) {ret : Option FieldType} (hr : meth.sig.returnType = ret) (hlocks : meth.locks = false)
    (ho : okA own pc nL lw ins len an = true) (hd : decode cc pc = .ok (ins, len)) (hT : okT ret (pc, ins, len, an) = true) {v : Option Value} (ht : ta ins an pc L S M = some (.inr (.inr v))) :
    Gl p l e R s m args below meth c 0 0 (MQ below (QcO ad cA DD v M) args s 0 0 (A0 ad)) ad cA DD nL lw pc L S M := by
  cases ins
  case ireturn =>
    have hln : len = 1 := by simpa [okA] using ho
    subst hln
    simp only [ta] at ht
    split at ht
    · rename_i x
      intro H locs ls hP hS hL hSt
      split at ht
      · rename_i h0
        cases ht
        simp only [okT, h0, Bool.or_eq_true, Bool.and_eq_true, decide_eq_true_eq] at hT
        rcases hT with hT | hT
        · exact W.iret (v := x) hX hb (hr.trans hT.2) (QcO_at (v := some (.int x)) hK hP hS hSt) hS.2.2 hd hlocks
        · exact absurd hT.1 (by decide)
      · rename_i h0
        split at ht
        · rename_i hx
          cases ht
          simp only [okT, Bool.or_eq_true, Bool.and_eq_true, decide_eq_true_eq, beq_iff_eq] at hT
          rcases hT with hT | hT
          · exact absurd hT.1 h0
          · exact W.zret (v := x) (ty := .boolean) hX hb (hr.trans hT.2) (by rcases hx with rfl | rfl <;> rfl) (QcO_at (v := some (.int x)) hK hP hS hSt) hS.2.2 hd hlocks
        · cases ht
    · cases ht
  case lreturn =>
    have hln : len = 1 := by simpa [okA] using ho
    subst hln
    simp only [ta] at ht
    split at ht
    · rename_i x
      cases ht
      intro H locs ls hP hS hL hSt
      exact W.lret (v := x) hX hb (hr.trans (of_decide_eq_true hT)) (QcO_at (v := some (.long x)) hK hP hS hSt) hS.2.2 hd hlocks
    · cases ht
  case areturn =>
    have hln : len = 1 := by simpa [okA] using ho
    subst hln
    simp only [ta] at ht
    split at ht
    · rename_i x
      cases ht
      intro H locs ls hP hS hL hSt
      simp only [okT] at hT
      split at hT
      · rename_i n
        exact W.aret (v := .ref (ad x)) (rt := .object n) hX hb hr (Or.inl ⟨n, rfl⟩) (Or.inr ⟨_, rfl⟩) (QcO_at (v := some (.ref x)) hK hP hS hSt) hS.2.2 hd hlocks
      · cases hT
    · cases ht
  case return_ =>
    have hln : len = 1 := by simpa [okA] using ho
    subst hln
    simp only [ta] at ht
    split at ht
    · cases ht
      intro H locs ls hP hS hL hSt
      exact W.vret hX hb (hr.trans (of_decide_eq_true hT)) (QcO_at (v := none) hK hP hS hSt) hS.2.2 hd hlocks
    · cases ht
  all_goals (exfalso; simp only [ta, lI, lJ, lA, wI, wA, b2, b2J, u1, nx] at ht)
  all_goals (try (cases ht; done))
  case tableswitch =>
    split at ht
    · exact tsw_no ht
    · cases ht
  case lookupswitch =>
    split at ht
    · exact lsw_no ht
    · cases ht
  case ifCond cd _ => cases cd <;> simp only [brI] at ht <;> (repeat' split at ht) <;> cases ht
  case if_icmp cd _ => cases cd <;> simp only [brI] at ht <;> (repeat' split at ht) <;> cases ht
  all_goals (repeat' split at ht)
  all_goals (cases ht)
theorem kp_rf {M : tM} : kp M M := ⟨rfl, rfl, rfl⟩
theorem kp_tr {M M' M'' : tM} (h : kp M M') (h' : kp M' M'') : kp M M'' := ⟨h'.1.trans h.1, h'.2.1.trans h.2.1, h'.2.2.trans h.2.2⟩
theorem ta_kp (ht : ta ins an pc L S M = some (.inl (pc', L', S', M'))) : kp M M' := by
  cases ins
  case tableswitch =>
    simp only [ta] at ht
    split at ht
    · rw [(tsw_spec ht).2.2.1]; exact kp_rf
    · cases ht
  case lookupswitch dflt ps =>
    simp only [ta] at ht
    split at ht
    · rw [lsw_kp ht]; exact kp_rf
    · cases ht
  case ifCond cd _ => cases cd <;> simp only [ta, brI, nx] at ht <;> (repeat' split at ht) <;> cases ht <;> exact kp_rf
  case if_icmp cd _ => cases cd <;> simp only [ta, brI, nx] at ht <;> (repeat' split at ht) <;> cases ht <;> exact kp_rf
  all_goals (simp only [ta, lI, lJ, lA, wI, wA, b2, b2J, u1, nx] at ht)
  all_goals (try (cases ht; done))
  all_goals (try (cases ht; exact kp_rf))
  all_goals (repeat' split at ht)
  all_goals (try (cases ht; done))
  all_goals (cases ht)
  all_goals first
    | exact kp_rf
    | exact kp_sI (cls_ne (by assumption))
    | exact kp_sI (ak_ne (akind_lt (by omega)))
    | exact kp_rI (ak_ne (akind_lt (by omega)))
    | (refine kp_sI (ak_ne (akind_lt ?_)); rename_i h _; omega)
    | exact ⟨rfl, rfl, rfl⟩
theorem runN_kp {ca : Nat → List Value → tM → tO} {C : tCode} (hca : ∀ y as M v M', ca y as M = some (v, M') → kp M M') : ∀ (n pc : Nat) (L : tL) (S : List Value) (M : tM) (v : Option Value) (M' : tM), runN ca C n pc L S M = some (v, M') → kp M M' := by
  intro n
  induction n with
  | zero => intro pc L S M v M' h; simp [runN] at h
  | succ n ih =>
    intro pc L S M v M' h
    rw [runN] at h
    split at h
    · cases h
    · split at h
      · cases h
      · rename_i e; exact kp_tr (ta_kp e) (ih _ _ _ _ _ _ h)
      · split at h
        · cases h
        · rename_i e2; exact kp_tr (hca _ _ _ _ _ e2) (ih _ _ _ _ _ _ h)
      · cases h; exact kp_rf
def cOK (l : Launch) (ad : Nat → Nat) (cA : Nat → ClassId) (DD : va_G) (D : Nat) (y : Nat) (as : List Value) (M : tM) (v : Option Value) (M' : tM) : Prop := kp M M' ∧ ((mpl.getD y []).length ≠ 0 ∨ 300 ≤ y → ∃ e2, mif y = some e2 ∧ (∃ q, okM e2 q = true ∧ (y < 300 → q = mpl.getD y []) ∧ (300 ≤ y → q.length = 4 ∧ e2.2.2.1.cls = "java/lang/String")) ∧ Con l ad cA DD D e2 as M v M')
theorem snd_run (hX : p.tables.exec = Jvm.exec) (hb : c.code = cc) (hnl : c.maxLocals = nL) (hown : s.vm.findClass own = some m.cls) (hts : ∀ w ∈ WS, w.before args s = true) (hK : va_K DD classes (tysA cA) s) (hI : adI ad)
    {D0 : Nat} (hR1 : D0 + 1 ≤ R.frames) (hR2 : 64 * D0 + 64 ≤ R.locals) (hR3 : cells ≤ R.cells) (hR4 : slots ≤ R.slots)
    {ca : Nat → List Value → tM → tO} {C : tCode} (hok : C.all (okI own cc nL lw) = true) (hca : ∀ y as M v M', ca y as M = some (v, M') → cOK l ad cA DD D0 y as M v M') {v : Option Value}
    (hret : ∀ (pc : Nat) (ins : Instr) (len : Nat) (an : tAn) (L : tL) (S : List Value), (pc, ins, len, an) ∈ C → okA own pc nL lw ins len an = true → decode cc pc = .ok (ins, len) → ta ins an pc L S M' = some (.inr (.inr v)) → Gl p l e R s m args below meth c cells slots Q ad cA DD nL lw pc L S M') :
    ∀ (n pc : Nat) (L : tL) (S : List Value) (M : tM), runN ca C n pc L S M = some (v, M') → Gl p l e R s m args below meth c cells slots Q ad cA DD nL lw pc L S M := by
  intro n
  induction n with
  | zero => intro pc L S M h; simp [runN] at h
  | succ n ih =>
    intro pc L S M h
    rw [runN] at h
    split at h
    · cases h
    · rename_i ins an hlk
      obtain ⟨len, hmem⟩ := lk_mem hlk
      have hI0 := List.all_eq_true.mp hok _ hmem
      simp only [okI, Bool.and_eq_true, decide_eq_true_eq] at hI0
      obtain ⟨hd, ho⟩ := hI0
      split at h
      · cases h
      · rename_i e
        exact snd_nx hX hb hnl hown hts hK hI (by omega) (by omega) hR3 hR4 ho hd e (ih _ _ _ _ h)
      · rename_i e
        split at h
        · cases h
        · rename_i e2
          obtain ⟨hkp, hcon⟩ := hca _ _ _ _ _ e2
          exact snd_call hX hb hnl hown hts hK hR1 hR2 hR3 hR4 ho hd e hcon hkp (ih _ _ _ _ h)
      · rename_i e
        cases h
        exact hret _ _ _ _ _ _ hmem ho hd e
end SNR
theorem ent_in (ad : Nat → Nat) : ∀ (as : List Value) (b k : Nat) (v : Value), (enl as)[k]? = some (some v) → (b + k, cv ad v) ∈ lv_args b (as.map (cv ad))
  | [], b, k, v, h => by simp [enl] at h
  | a :: r, b, k, v, h => by
    simp only [List.map_cons, lv_args, cv_cat]
    simp only [enl] at h
    by_cases hc : a.category = 2
    · rw [if_pos hc] at h ⊢
      match k, h with
      | 0, h => cases h; exact List.mem_cons_self
      | 1, h => cases h
      | k + 2, h =>
        have h2 : (enl r)[k]? = some (some v) := by simpa using h
        have := ent_in ad r (b + 2) k v h2
        rw [show b + (k + 2) = b + 2 + k by omega]
        exact List.mem_cons_of_mem _ this
    · rw [if_neg hc] at h ⊢
      match k, h with
      | 0, h => cases h; exact List.mem_cons_self
      | k + 1, h =>
        have h2 : (enl r)[k]? = some (some v) := by simpa using h
        have := ent_in ad r (b + 1) k v h2
        rw [show b + (k + 1) = b + 1 + k by omega]
        exact List.mem_cons_of_mem _ this
theorem enl_len (ad : Nat → Nat) : ∀ (as : List Value), (lg_sl (as.map (cv ad))).length = (enl as).length
  | [] => rfl
  | a :: r => by
    have ih := enl_len ad r
    simp only [lg_sl, List.map_cons, List.flatMap_cons, List.length_append, cv_cat, enl] at ih ⊢
    by_cases hc : a.category = 2
    · rw [if_pos hc, if_pos hc]; simp only [List.length_cons, List.length_nil]; omega
    · rw [if_neg hc, if_neg hc]; simp only [List.length_cons, List.length_nil]; omega
theorem lgO_ok {lw : List Nat} : ∀ (L : tL) (b : Nat), lgO lw b L = true → ∀ (k : Nat) (v : Value), L[k]? = some (some v) → v.category = 2 → b + k ∈ lw
  | [], b, _, k, v, h, _ => by simp at h
  | some a :: r, b, h, k, v, hk, hv => by
    simp only [lgO, Bool.and_eq_true] at h
    match k, hk with
    | 0, hk => cases hk; rw [if_pos hv] at h; exact List.contains_iff_mem.mp h.1
    | k + 1, hk =>
      have := lgO_ok r (b + 1) h.2 k v (by simpa using hk) hv
      rw [show b + (k + 1) = b + 1 + k by omega]
      exact this
  | none :: r, b, h, k, v, hk, hv => by
    simp only [lgO] at h
    match k, hk with
    | 0, hk => cases hk
    | k + 1, hk =>
      have := lgO_ok r (b + 1) h k v (by simpa using hk) hv
      rw [show b + (k + 1) = b + 1 + k by omega]
      exact this
theorem LR_ent {ad : Nat → Nat} {nL : Nat} {lw : List Nat} {as : List Value} (h1 : (enl as).length ≤ nL) (h2 : lgO lw 0 (enl as) = true) : LR ad nL lw (ent nL as) (lg_sl (as.map (cv ad)) ++ List.replicate (nL - (lg_sl (as.map (cv ad))).length) Slot.unset).toArray := by
  have hl := lv_entry (as.map (cv ad)) (n := nL) (by rw [enl_len]; exact h1)
  have key : ∀ (k : Nat) (v : Value), (ent nL as)[k]? = some (some v) → (enl as)[k]? = some (some v) := by
    intro k v hk
    unfold ent at hk
    by_cases hlt : k < (enl as).length
    · rwa [List.getElem?_append_left hlt] at hk
    · rw [List.getElem?_append_right (Nat.not_lt.mp hlt)] at hk
      have := List.eq_of_mem_replicate (List.mem_of_getElem? hk)
      cases this
  refine ⟨hl.1, hl.2.1, by simp [ent]; omega, fun k v hk => ?_, fun k v hk hc => ?_⟩
  · have := ent_in ad as 0 k v (key k v hk)
    rw [Nat.zero_add] at this
    exact hl.2.2 _ this
  · have := lgO_ok _ 0 h2 k v (key k v hk) hc
    rwa [Nat.zero_add] at this
theorem con_of {l : Launch} {ad : Nat → Nat} {cA : Nat → ClassId} {DD : va_G} (hI : adI ad) {D n : Nat} {e : tE} {lw : List Nat} {q : List Nat} (hq : okM e q = true) (hok : e.1.all (okI e.2.2.2.2.2 e.2.2.2.1 e.2.1 lw) = true) (hret : e.1.all (okT e.2.2.2.2.1) = true)
    {ca : Nat → List Value → tM → tO} (hca : ∀ y as M v M', ca y as M = some (v, M') → cOK l ad cA DD D y as M v M') {as : List Value} {M : tM} {v : Option Value} {M' : tM} (h1 : (enl as).length ≤ e.2.1) (h2 : lgO lw 0 (enl as) = true)
    (hrun : runN ca e.1 n 0 (ent e.2.1 as) [] M = some (v, M')) : Con l ad cA DD (D + 1) e as M v M' := by
  have hpl : plainName e.2.2.1.cls = true ∧ e.2.2.1.cls = e.2.2.2.2.2 := by
    unfold okM at hq
    split at hq
    · simp only [Bool.and_eq_true, decide_eq_true_eq] at hq
      exact ⟨hq.1.1.1.1.2, hq.2⟩
    · simp only [Bool.and_eq_true, decide_eq_true_eq] at hq
      exact ⟨hq.1.1.1.1.2, hq.2⟩
    · cases hq
  refine Met.ofW (cc := e.2.2.2.1) (maxL := e.2.1) (ret := e.2.2.2.2.1) hpl.1 rfl ?_
  intro p e' s m args below meth c s₁ B hml hv
  obtain ⟨rfl, hP, hK, hT⟩ := hv
  have hts0 := atoms_spec (ws := wdE e) B.pre
  have hts : ∀ w ∈ WS, w.before (as.map (cv ad)).toArray s = true := fun w hw => hts0 w (List.mem_cons_of_mem _ hw)
  have hown : s.vm.findClass e.2.2.2.2.2 = some m.cls := by rw [← hpl.2]; exact findClass_of_methodNamed B.named
  rw [lg_entry_eq]
  exact snd_run B.exec B.bytes hml hown hts hK hI (D0 := D) (Nat.le_refl _) (Nat.le_of_eq (by show 64 * D + 64 = 64 * (D + 1); omega)) (Nat.le_refl _) (Nat.le_refl _) hok hca
    (fun pc ins len an L S hm ho hd ht => snd_ret B.exec B.bytes hK B.returns B.notSynchronized ho hd (List.all_eq_true.mp hret _ hm) ht) n 0 _ [] M hrun s.heap [] _ hP va_S.rf (LR_ent h1 h2) hT
