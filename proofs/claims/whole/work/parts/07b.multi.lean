/-! TWO COUNTS AT ONCE: a row of rows, and the rows in it -/
def mkO (cA : ClassId) (n h i : Nat) : Cell := arrV cA n (fun j => if j < i then .ref (h + 1 + j) else .null)
theorem mkO_0 (cA : ClassId) (n h : Nat) : mkO cA n h 0 = arrV cA n (fun _ => .null) := by
  unfold mkO
  congr 1
theorem mkO_s (cA : ClassId) (n h i : Nat) : (mkO cA n h i).setSlot i (.ref (h + 1 + i)) = mkO cA n h (i + 1) := by
  unfold mkO
  rw [arrV_store]
  congr 1
  funext j
  simp only [updV]
  by_cases e : j = i
  · subst e
    rw [if_pos rfl, if_pos (Nat.lt_succ_self _)]
  · rw [if_neg e]
    by_cases hj : j < i
    · rw [if_pos hj, if_pos (by omega)]
    · rw [if_neg hj, if_neg (by omega)]
def mkS (T : State) (cA cB : ClassId) (n k : Nat) (dv : Value) : Nat → State
  | 0 => T.pushCell (mkO cA n T.heap.size 0)
  | i + 1 => ((mkS T cA cB n k dv i).pushCell (arrV cB k (fun _ => dv))).setCell T.heap.size (mkO cA n T.heap.size (i + 1))
theorem mkS_f (T : State) (cA cB : ClassId) (n k : Nat) (dv : Value) : ∀ i : Nat, (mkS T cA cB n k dv i).heap.size = T.heap.size + 1 + i ∧ (mkS T cA cB n k dv i).heap[T.heap.size]? = some (mkO cA n T.heap.size i) ∧ (mkS T cA cB n k dv i).vm = T.vm ∧ (mkS T cA cB n k dv i).slotsUsed = T.slotsUsed + n + i * k ∧ (∀ q : Nat, q < T.heap.size → (mkS T cA cB n k dv i).heap[q]? = T.heap[q]?) ∧ ∀ j : Nat, j < i → (mkS T cA cB n k dv i).heap[T.heap.size + 1 + j]? = some (arrV cB k (fun _ => dv))
  | 0 => ⟨by simp [mkS], by simp [mkS], rfl, by simp [mkS, mkO, arrV_size], fun q hq => State.heap_pushCell_of_lt _ _ hq, fun j hj => absurd hj (Nat.not_lt_zero j)⟩
  | i + 1 => by
    obtain ⟨f1, f2, f3, f4, f5, f6⟩ := mkS_f T cA cB n k dv i
    generalize hU : mkS T cA cB n k dv i = U at f1 f2 f3 f4 f5 f6
    have e : mkS T cA cB n k dv (i + 1) = (U.pushCell (arrV cB k (fun _ => dv))).setCell T.heap.size (mkO cA n T.heap.size (i + 1)) := by rw [← hU]; rfl
    rw [e]
    have z : (U.pushCell (arrV cB k (fun _ => dv))).heap.size = T.heap.size + 1 + i + 1 := by simp [f1]
    have hz : T.heap.size < (U.pushCell (arrV cB k (fun _ => dv))).heap.size := by omega
    have hy : ∀ q : Nat, q < T.heap.size + 1 + i → q < U.heap.size := fun q hq => by omega
    refine ⟨?_, heapAt_setCell_self _ hz, by simp [f3], ?_, fun q hq => ?_, fun j hj => ?_⟩
    · simp [State.setCell, f1]; omega
    · simp [f4, arrV_size, Nat.succ_mul]; omega
    · rw [heapAt_setCell_ne _ (Nat.ne_of_gt hq), State.heap_pushCell_of_lt _ _ (hy q (by omega))]
      exact f5 q hq
    · rw [heapAt_setCell_ne _ (show T.heap.size ≠ T.heap.size + 1 + j by omega)]
      by_cases h : j < i
      · rw [State.heap_pushCell_of_lt _ _ (hy _ (by omega))]
        exact f6 j h
      · have : j = i := by omega
        subst this
        rw [← f1]
        exact State.heap_pushCell_size _ _
theorem mkS_top (T : State) (f : JFrame) (cA cB : ClassId) (n k : Nat) (dv : Value) : ∀ i : Nat, mkS (T.setTop f) cA cB n k dv i = (mkS T cA cB n k dv i).setTop f
  | 0 => rfl
  | i + 1 => by
    show ((mkS (T.setTop f) cA cB n k dv i).pushCell _).setCell _ _ = _
    rw [mkS_top T f cA cB n k dv i]
    rfl
section MKW
variable {E : CtlPost} {e : Env} {d : Bool} {acts : List Action} {s : State}
theorem mk_fits {t : FieldType} (h : t.isReference = true) (a : Option Nat) : fits t (va_rf a) = true := by
  cases a <;> cases t <;> first | rfl | (simp [FieldType.isReference] at h)
theorem mk_in {cB cc : ClassId} {kB : Class} {ty : FieldType} {k : Int32} (hkB : s.vm.classes[cB]? = some kB) (hkd : kB.kind = .array cc ty) (hk : ¬ k < 0) (l1 : ¬ k.toNatClampNeg > e.platform.arrayLengthLimit) (l2 : ¬ k.toNatClampNeg * componentBytes ty > e.platform.maxHeapBytes) (hdf : fits ty (defaultValue ty) = true)
    (h1 : s.heap.size < e.platform.maxCells) (h2 : s.slotsUsed + k.toNatClampNeg ≤ e.platform.maxSlots) {Q : Addr → Pre} (hq : ∀ acts', Q s.heap.size d acts' (s.pushCell (arrV cB k.toNatClampNeg (fun _ => defaultValue ty)))) : wp (Op.multianewarray.make cB [k]) Q E e d acts s := by
  rw [Op.multianewarray.make]
  simp only [wp_bind', W.ite, hk, if_false, wp_pure', W.theClass, hkB, hkd, Option.some.injEq, exists_eq_left']
  refine W.newArray_of hkB hkd l1 l2 h1 h2 hdf (fun acts' => ?_)
  rw [arrV_new]
  exact hq acts'
theorem mk_out {cA cB cc : ClassId} {kA kB : Class} {t0 ty : FieldType} {n k : Int32} (hkA : s.vm.classes[cA]? = some kA) (hkdA : kA.kind = .array cB t0) (href : t0.isReference = true) (hkB : s.vm.classes[cB]? = some kB) (hkd : kB.kind = .array cc ty) (hn : ¬ n < 0) (hn0 : (n == 0) = false) (hk : ¬ k < 0)
    (l1 : ¬ n.toNatClampNeg > e.platform.arrayLengthLimit) (l2 : ¬ n.toNatClampNeg * componentBytes t0 > e.platform.maxHeapBytes) (l3 : ¬ k.toNatClampNeg > e.platform.arrayLengthLimit) (l4 : ¬ k.toNatClampNeg * componentBytes ty > e.platform.maxHeapBytes) (hdf : fits ty (defaultValue ty) = true)
    (h1 : s.heap.size + (1 + n.toNatClampNeg) ≤ e.platform.maxCells) (h2 : s.slotsUsed + (n.toNatClampNeg + n.toNatClampNeg * k.toNatClampNeg) ≤ e.platform.maxSlots) {Q : Addr → Pre}
    (hq : ∀ d' acts', Q s.heap.size d' acts' (mkS s cA cB n.toNatClampNeg k.toNatClampNeg (defaultValue ty) n.toNatClampNeg)) : wp (Op.multianewarray.make cA [n, k]) Q E e d acts s := by
  rw [Op.multianewarray.make]
  simp only [wp_bind', W.ite, hn, if_false, wp_pure', W.theClass, hkA, hkdA, Option.some.injEq, exists_eq_left']
  refine W.newArray_of hkA hkdA l1 l2 (by omega) (by omega) (mk_fits href none) (fun acts' => ?_)
  rw [arrV_new, ← mkO_0 cA n.toNatClampNeg s.heap.size]
  simp only [hn0, Bool.false_eq_true, if_false, wp_bind', wp_pure']
  rw [Std.Legacy.Range.forIn_eq_forIn_range']
  have hz : ([:n.toNatClampNeg] : Std.Legacy.Range).size = n.toNatClampNeg := by simp [Std.Legacy.Range.size]
  rw [hz]
  show wp (forIn (List.range' 0 n.toNatClampNeg 1) PUnit.unit _) _ E e d _ _
  refine wp_forIn_inv (fun r s' => ∃ i : Nat, i + r.length = n.toNatClampNeg ∧ r = List.range' i r.length ∧ s' = mkS s cA cB n.toNatClampNeg k.toNatClampNeg (defaultValue ty) i) _ _ ⟨0, by simp, by simp, rfl⟩ ?_ ?_
  · rintro x r s' d' acts2 Q' ⟨i, hi, hr, rfl⟩ hnext
    simp only [List.length_cons] at hi hr
    rw [List.range'_succ] at hr
    obtain ⟨rfl, hr⟩ := List.cons.inj hr
    obtain ⟨f1, f2, f3, f4, f5, f6⟩ := mkS_f s cA cB n.toNatClampNeg k.toNatClampNeg (defaultValue ty) x
    have hmul : x * k.toNatClampNeg + k.toNatClampNeg ≤ n.toNatClampNeg * k.toNatClampNeg := by
      have := Nat.mul_le_mul_right k.toNatClampNeg (show x + 1 ≤ n.toNatClampNeg by omega)
      rwa [Nat.succ_mul] at this
    simp only [wp_bind']
    refine mk_in (by rw [f3]; exact hkB) hkd hk l3 l4 hdf (by rw [f1]; omega) (by rw [f4]; omega) (fun acts3 => ?_)
    simp only [wp_bind', W.writeLoc, wp_pure']
    have hlt : s.heap.size < (mkS s cA cB n.toNatClampNeg k.toNatClampNeg (defaultValue ty) x).heap.size := by omega
    refine ⟨mkO cA n.toNatClampNeg s.heap.size x, by rw [State.heap_pushCell_of_lt _ _ hlt]; exact f2, by simp [mkO, arrV], by simp only [mkO, arrV_size]; omega, ?_, hnext _ _ _ ⟨x + 1, by omega, hr, ?_⟩⟩
    · have := mk_fits href (some (mkS s cA cB n.toNatClampNeg k.toNatClampNeg (defaultValue ty) x).heap.size)
      simp only [va_rf] at this
      simp [State.fitsSlot, State.slotType?, mkO, arrV, f3, hkA, hkdA, this]
    · rw [f1, mkO_s]
      rfl
  · rintro s' d' acts2 ⟨i, hi, -, rfl⟩
    simp only [List.length_nil, Nat.add_zero] at hi
    subst hi
    simp only [wp_pure']
    exact hq _ _
end MKW
section MKR
variable {p : Program} {l : Launch} {e : Env} {R : Room} {s : State} {m : MethodId} {args : Array Value} {below : List Frame} {meth : Method} {c : Code}
theorem mkS_X {T : State} {locs : List Loc} {cells slots : Nat} (X : Stand p l e R s m args below meth c T locs cells slots) (cA cB : ClassId) (n k : Nat) (dv : Value) : ∀ i : Nat, Stand p l e R s m args below meth c (mkS T cA cB n k dv i) locs (cells + 1 + i) (slots + n + i * k)
  | 0 => by
    have h := X.pushed (mkO cA n T.heap.size 0)
    simp only [mkO, arrV_size] at h
    simpa [mkS, mkO] using h
  | i + 1 => by
    obtain ⟨f1, f2, -, -, -, -⟩ := mkS_f T cA cB n k dv i
    have h := (mkS_X X cA cB n k dv i).pushed (arrV cB k (fun _ => dv))
    have hlt : T.heap.size < (mkS T cA cB n k dv i).heap.size := by omega
    have h2 := (h.stored (a := T.heap.size) (cell := mkO cA n T.heap.size i) (by rw [State.heap_pushCell_of_lt _ _ hlt]; exact f2) i (.ref (T.heap.size + 1 + i))).forget (fun y hy => by rw [List.mem_singleton.mp hy]; exact X.same.2.1)
    rw [mkO_s, arrV_size, Nat.add_assoc (slots + n) (i * k) k, ← Nat.succ_mul] at h2
    exact h2
variable {H : Heap} {locs : List Loc} {cells slots : Nat} {Q : State → Prop} {cc : ByteArray} {pc : Nat} {ls : Array Slot} {rest : List Value}
theorem W.newm (hx : p.tables.exec = Jvm.exec) (hb : c.code = cc) {own nm : String} {index : Nat} {ty : FieldType} (hown : s.vm.findClass own = some m.cls) (hnm : (FieldType.array (.array ty)).toString = nm) (hcl : (Cond.classLink own index nm).before args s = true) (hov : ∃ (cB cA : ClassId) (kA : Class), s.vm.findClass (FieldType.array ty).toString = some cB ∧ s.vm.classes[cA]? = some kA ∧ kA.kind = .array cB (.array ty) ∧ s.vm.findClass (FieldType.array (.array ty)).toString = some cA) (hac : (Cond.arrayClass ty).before args s = true)
    {n k : Int32} {N K : Nat} (hn : ¬ n < 0) (hn0 : (n == 0) = false) (hk : ¬ k < 0) (hN : n.toNatClampNeg = N) (hK : k.toNatClampNeg = K) (b1 : N * 4 ≤ 536870912) (b2 : K * componentBytes ty ≤ 536870912) (b3 : K ≤ 536870912) (hdf : fits ty (defaultValue ty) = true) (hcells : cells + (1 + N) ≤ R.cells) (hslots : slots + (N + N * K) ≤ R.slots) (hdg : decode cc pc = .ok (.multianewarray index 2, 4))
    (kk : ∀ (H1 : Heap) (cA cB : ClassId), s.vm.findClass (FieldType.array (.array ty)).toString = some cA → s.vm.findClass (FieldType.array ty).toString = some cB → H1.size = H.size + 1 + N → H1[H.size]? = some (mkO cA N H.size N) → (∀ j : Nat, j < N → H1[H.size + 1 + j]? = some (arrV cB K (fun _ => defaultValue ty))) → (∀ q : Nat, q < H.size → H1[q]? = H[q]?) →
      W p l e R s m args below meth c H1 locs (cells + (1 + N)) (slots + (N + N * K)) Q (F0 m (pc + 4) ls (.ref H.size :: rest))) : W p l e R s m args below meth c H locs cells slots Q (F0 m pc ls (.int k :: .int n :: rest)) := by
  intro T hT X
  subst hT; subst hb; subst hN; subst hK
  have hpl : e.platform.magicAccessors = ({} : Platform).magicAccessors := by rw [X.admits.platform]
  obtain ⟨cB, cA, kA, hcB, hkA, hkdA, hcA⟩ := hov
  obtain ⟨cB2, kB, cc, hcB2, hkB, hkdB⟩ := Cond.arrayClass_spec hac
  cases hcB.symm.trans hcB2
  obtain ⟨c0, hc0, hcl⟩ := Cond.classLink_spec hown hcl e.platform hpl
  rw [← hnm] at hc0
  cases hcA.symm.trans hc0
  obtain ⟨g1, w1, r1⟩ := State.classEntry (e := e) X.warmed hcl
  generalize T.vm.noted m.cls index (.cls cA) = vm1 at g1 w1 r1
  have hal : s.vm.Alike vm1 := w1.alike
  obtain ⟨kA1, hkA1, heA⟩ := hal.2.2 _ _ hkA
  obtain ⟨kB1, hkB1, heB⟩ := hal.2.2 _ _ hkB
  have hkdA1 : kA1.kind = .array cB (.array ty) := by rw [heA]; exact hkdA
  have hkdB1 : kB1.kind = .array cc ty := by rw [heB]; exact hkdB
  have X1 := mkS_X (X.noted w1) cA cB n.toNatClampNeg k.toNatClampNeg (defaultValue ty) n.toNatClampNeg
  obtain ⟨z1, z2⟩ := X.roomAbove hcells hslots
  obtain ⟨f1, f2, f3, f4, f5, f6⟩ := mkS_f (T.setVm vm1) cA cB n.toNatClampNeg k.toNatClampNeg (defaultValue ty) n.toNatClampNeg
  rw [Nat.add_assoc cells, Nat.add_assoc slots] at X1
  obtain ⟨t, a1, a2⟩ := kk _ cA cB hcA hcB f1 f2 f6 f5 _ rfl X1
  refine ⟨t, ?_, a2⟩
  have l1 : ¬ n.toNatClampNeg > e.platform.arrayLengthLimit := by rw [Launch.admits_arrayLengthLimit X.admits]; omega
  have l2 : ¬ n.toNatClampNeg * componentBytes (.array ty) > e.platform.maxHeapBytes := by
    rw [Launch.admits_maxHeapBytes X.admits]; show ¬ n.toNatClampNeg * 4 > 536870912; omega
  have l3 : ¬ k.toNatClampNeg > e.platform.arrayLengthLimit := by rw [Launch.admits_arrayLengthLimit X.admits]; omega
  have l4 : ¬ k.toNatClampNeg * componentBytes ty > e.platform.maxHeapBytes := by rw [Launch.admits_maxHeapBytes X.admits]; omega
  generalize hg : F0 m pc ls (.int k :: .int n :: rest) = g
  have e1 : g.method = m := by rw [← hg]
  have e2 : g.stack = .int k :: .int n :: rest := by rw [← hg]
  have e3 : decode c.code g.pc = .ok (.multianewarray index 2, 4) := by rw [← hg]; exact hdg
  have e4 : F0 m (pc + 4) ls (.ref T.heap.size :: rest) = { g with pc := g.pc + 4, stack := .ref T.heap.size :: rest } := by rw [← hg]
  rw [e4] at a1
  subst e1
  jvm_step X.here [hx, e3]
  simp only [Op.multianewarray.sem, wp_bind', W.resolveClassAt_links (State.method?_setTop g X.here.top) g1]
  rw [W.popN, if_neg (by decide)]
  refine ⟨g, State.topJava?_setTop' (s := T.setVm vm1) g X.here.top, [.int n, .int k], rest, rfl, e2, ?_⟩
  simp only [List.mapM_cons, List.mapM_nil, wp_bind', wp_pure']
  refine mk_out (kA := kA1) (kB := kB1) (cB := cB) (cc := cc) (t0 := .array ty) (ty := ty) hkA1 hkdA1 rfl hkB1 hkdB1 hn hn0 hk l1 l2 l3 l4 hdf (by show T.heap.size + _ ≤ _; omega) (by show T.slotsUsed + _ ≤ _; omega) (fun d' acts' => ?_)
  have eS : ((T.setTop g).setVm vm1).setTop { g with stack := rest } = (T.setVm vm1).setTop { g with stack := rest } := by
    show ((T.setVm vm1).setTop g).setTop _ = _
    rw [State.setTop_setTop]
  rw [eS, mkS_top]
  simp only [wp_bind', W.mark, W.pushRef, State.topJava?_setTop' _ X1.here.top, Option.some.injEq, exists_eq_left', State.setTop_setTop, State.heap_setTop]
  intro acts
  simp [jvm, X1.here.top]
  exact a1
end MKR
