/-! THE MAKERS, their rows -/
def mkA (ty : FieldType) (U : State) : Prop := ∃ (cB cA : ClassId) (kA : Class), U.vm.findClass (FieldType.array ty).toString = some cB ∧ U.vm.classes[cA]? = some kA ∧ kA.kind = .array cB (.array ty) ∧ U.vm.findClass (FieldType.array (.array ty)).toString = some cA
theorem mkA_of {ty : FieldType} {U : State} {a : Array Value} (h : (Cond.arrayOver (.array ty)).before a U = true) : mkA ty U := by
  obtain ⟨cB, cA, kA, h1, -, h2, h3, h4⟩ := arrayOverA_spec h
  exact ⟨cB, cA, kA, h1, h2, h3, h4⟩
theorem mkA_moved {ty : FieldType} {u U : State} (hvm : u.vm.Alike U.vm) (h : mkA ty u) : mkA ty U := by
  obtain ⟨cB, cA, kA, h1, h2, h3, h4⟩ := h
  obtain ⟨k', hk', he⟩ := hvm.2.2 _ _ h2
  exact ⟨cB, cA, k', by rw [hvm.findClass]; exact h1, hk', by rw [he]; exact h3, by rw [hvm.findClass]; exact h4⟩
/-- what the makers need of the tables besides words -/
def mkT (U : State) : Prop := mkA .int U ∧ mkA .long U ∧ ∀ q ∈ NM, va_Nw (nmc q) U
theorem mkT_warm {s U : State} (hW : s.WarmedH U.vm) (h : mkT s) : mkT U := ⟨mkA_moved hW.alike h.1, mkA_moved hW.alike h.2.1, fun q hq => va_Nw.warmM hW (h.2.2 q hq)⟩
theorem mkT_same {u U : State} (hv : U.vm = u.vm) (h : mkT u) : mkT U := by
  have ha : u.vm.Alike U.vm := by rw [hv]; exact Vm.Alike.refl _
  exact ⟨mkA_moved ha h.1, mkA_moved ha h.2.1, fun q hq => va_Nw.same rfl hv.symm (h.2.2 q hq)⟩
theorem ty_int {cA : Nat → ClassId} {c : ClassId} {DD : va_G} {s : State} (h : va_K DD classes (tysA cA ++ [(c, .int)]) s) : c = cA 0 := Option.some.inj ((show s.vm.findClass ("[" ++ (FieldType.int).toString) = some c from (h.2 6 _ rfl).2).symm.trans (h.2 0 _ rfl).2)
theorem ty_bool {cA : Nat → ClassId} {c : ClassId} {DD : va_G} {s : State} (h : va_K DD classes (tysA cA ++ [(c, .boolean)]) s) : c = cA 1 := Option.some.inj ((show s.vm.findClass ("[" ++ (FieldType.boolean).toString) = some c from (h.2 6 _ rfl).2).symm.trans (h.2 1 _ rfl).2)
theorem ty_long {cA : Nat → ClassId} {c : ClassId} {DD : va_G} {s : State} (h : va_K DD classes (tysA cA ++ [(c, .long)]) s) : c = cA 2 := Option.some.inj ((show s.vm.findClass ("[" ++ (FieldType.long).toString) = some c from (h.2 6 _ rfl).2).symm.trans (h.2 2 _ rfl).2)
theorem ty_str {cA : Nat → ClassId} {c : ClassId} {DD : va_G} {s : State} (h : va_K DD classes (tysA cA ++ [(c, .object RJ0)]) s) : c = cA 5 := by
  obtain ⟨k1, p1, -, -, -, q1⟩ := (h.2 6 _ rfl).2
  obtain ⟨k2, p2, -, -, -, q2⟩ := (h.2 5 _ rfl).2
  exact Option.some.inj (q1.symm.trans q2)
abbrev cI (h : Nat) (cA : Nat → ClassId) (n : Nat) : Nat × va_E := (h, .inl (cA 0, n, .inl (fun _ => 0)))
abbrev cZ (h : Nat) (cA : Nat → ClassId) (n : Nat) : Nat × va_E := (h, .inl (cA 1, n, .inl (fun _ => 0)))
abbrev cJ (h : Nat) (cA : Nat → ClassId) (n : Nat) : Nat × va_E := (h, .inl (cA 2, n, .inr (.inl (fun _ => 0))))
section MKV
variable {p : Program} {l : Launch} {e : Env} {R : Room} {s : State} {m : MethodId} {args : Array Value} {below : List Frame} {meth : Method} {c : Code} {H : Heap} {locs : List Loc} {cells slots : Nat} {Q : State → Prop}
variable {cc : ByteArray} {pc : Nat} {ls : Array Slot} {rest : List Value} {D : va_G} {cl : List vw_C} {A : Nat → Prop} {a : Nat} {tys : List (ClassId × FieldType)} {ws : va_W} {H0 : Heap}
theorem va_newm (hx : p.tables.exec = Jvm.exec) (hb : c.code = cc) {own nm : String} {index : Nat} {ty : FieldType} (hown : s.vm.findClass own = some m.cls) (hnm : (FieldType.array (.array ty)).toString = nm) (hcl : (Cond.classLink own index nm).before args s = true) (hov : mkA ty s) (hac : (Cond.arrayClass ty).before args s = true)
    (hP : va_P D cl ws H) (hD : va_D A ws) (hS : va_S A H0 H locs) (hA : ∀ q, H0.size ≤ q → A q) {cC cD : ClassId} (hcC : s.vm.findClass (FieldType.array (.array ty)).toString = some cC) (hcD : s.vm.findClass (FieldType.array ty).toString = some cD) {a0 : vp_A}
    {n k : Int32} {N K : Nat} (ha : ∀ q : ClassId, vp_cell q a0 = arrV q K (fun _ => defaultValue ty)) (hn : ¬ n < 0) (hn0 : (n == 0) = false) (hk : ¬ k < 0) (hN : n.toNatClampNeg = N) (hK : k.toNatClampNeg = K) (b1 : N * 4 ≤ 536870912) (b2 : K * componentBytes ty ≤ 536870912) (b3 : K ≤ 536870912) (hdf : fits ty (defaultValue ty) = true) (hcells : cells + (1 + N) ≤ R.cells) (hslots : slots + (N + N * K) ≤ R.slots) (hdg : decode cc pc = .ok (.multianewarray index 2, 4))
    (kk : ∀ (h : Nat) (H1 : Heap), va_P D cl (ws ++ (h, .inl (cC, N, .inr (.inr (.inr (.inr (fun j => if j < N then some (h + 1 + j) else none)))))) :: (List.range N).map (fun j => (h + 1 + j, .inl (cD, a0)))) H1 → va_D A (ws ++ (h, .inl (cC, N, .inr (.inr (.inr (.inr (fun j => if j < N then some (h + 1 + j) else none)))))) :: (List.range N).map (fun j => (h + 1 + j, .inl (cD, a0)))) → va_S A H0 H1 locs →
      W p l e R s m args below meth c H1 locs (cells + (1 + N)) (slots + (N + N * K)) Q (F0 m (pc + 4) ls (.ref h :: rest))) : W p l e R s m args below meth c H locs cells slots Q (F0 m pc ls (.int k :: .int n :: rest)) := by
  refine W.newm hx hb hown hnm hcl hov hac hn hn0 hk hN hK b1 b2 b3 hdf hcells hslots hdg (fun H1 cA cB e1 e2 z f1 f2 f3 => ?_)
  rw [show cA = cC from Option.some.inj (e1.symm.trans hcC)] at f1
  have f2 : ∀ j : Nat, j < N → H1[H.size + 1 + j]? = some (arrV cD K (fun _ => defaultValue ty)) := by
    rw [show cB = cD from Option.some.inj (e2.symm.trans hcD)] at f2; exact f2
  have hlt : ∀ (i : Nat) (q : Nat × va_E), ws[i]? = some q → q.1 < H.size := fun i q hq => (hP i q hq).lt
  have ho : ∀ (i : Nat) (q : Nat × va_E), ws[i]? = some q → H1[q.1]? = H[q.1]? := fun i q hq => f3 q.1 (hlt i q hq)
  have hnew : ∀ (i : Nat) (q : Nat × va_E), ((H.size, .inl (cC, N, .inr (.inr (.inr (.inr (fun j => if j < N then some (H.size + 1 + j) else none)))))) :: (List.range N).map (fun j => (H.size + 1 + j, (.inl (cD, a0) : va_E))) : va_W)[i]? = some q → q.1 = H.size + i ∧ i < N + 1 ∧ va_at D cl q H1 := by
    intro i q hq
    match i, hq with
    | 0, hq =>
      cases hq
      refine ⟨rfl, Nat.succ_pos N, ?_⟩
      show H1[H.size]? = some (vp_cell _ _)
      rw [vp_cell_q, f1]
      unfold mkO
      congr 2
      funext j
      by_cases hj : j < N
      · rw [if_pos hj, if_pos hj]; rfl
      · rw [if_neg hj, if_neg hj]; rfl
    | j + 1, hq =>
      rw [List.getElem?_cons_succ, List.getElem?_map] at hq
      by_cases hj : j < N
      · rw [List.getElem?_range hj] at hq
        cases hq
        refine ⟨by show H.size + 1 + j = H.size + (j + 1); omega, by omega, ?_⟩
        show H1[H.size + 1 + j]? = some (vp_cell _ _)
        rw [ha]
        exact f2 j hj
      · rw [List.getElem?_eq_none (by simpa using hj)] at hq
        cases hq
  refine kk H.size H1 ((hP.kept ho).app (fun i q hq => (hnew i q hq).2.2)) (hD.app ⟨fun i j u v hi hj he => ?_, fun i q hq => ?_⟩ (fun i j u v hi hj => ?_)) ⟨Nat.le_trans hS.1 (by omega), fun x h1 h2 => (f3 x (Nat.lt_of_lt_of_le h1 hS.1)).trans (hS.2.1 x h1 h2), hS.2.2⟩
  · have g1 := (hnew i u hi).1
    have g2 := (hnew j v hj).1
    omega
  · have g1 := (hnew i q hq).1
    have := hS.1
    exact hA _ (by omega)
  · have g1 := hlt i u hi
    have g2 := (hnew j v hj).1
    omega
theorem va_astS (hx : p.tables.exec = Jvm.exec) (hb : c.code = cc) (hK : va_K D cl tys s) (hP : va_P D cl ws H) (hD : va_D A ws) (hS : va_S A H0 H locs) (q0 t0 : Nat) {cA : ClassId} {n v : Nat} {C : String} {f : Nat → Option Nat} (ha : ws[q0]? = some (a, .inl (cA, n, .inr (.inr (.inr (.inr f)))))) (ht : tys[t0]? = some (cA, .object C)) (hv : ∃ cell : Cell, H[v]? = some cell ∧ cell.vm.isStatics = false ∧ s.vm.findClass C = some cell.cls) {i : Int32} (hin : vp_in i n) (hdg : decode cc pc = .ok (.aastore, 1))
    (kk : ∀ (H1 : Heap) (locs1 : List Loc), va_P D cl (ws.set q0 (a, .inl (cA, n, .inr (.inr (.inr (.inr (va_up f i.toNatClampNeg (some v)))))))) H1 → va_D A (ws.set q0 (a, .inl (cA, n, .inr (.inr (.inr (.inr (va_up f i.toNatClampNeg (some v)))))))) → va_S A H0 H1 locs1 → W p l e R s m args below meth c H1 locs1 cells slots Q (F0 m (pc + 1) ls rest)) : W p l e R s m args below meth c H locs cells slots Q (F0 m pc ls (.ref v :: .int i :: .ref a :: rest)) := by
  have hlt : i.toNatClampNeg < n := Nat.not_le.mp fun q => hin (Or.inr q)
  have h0 : ¬ i < 0 := fun q => hin (Or.inl q)
  obtain ⟨cellV, g1, g3, g2⟩ := hv
  obtain ⟨kA, comp, k1, k2, k3, -⟩ := (hK.2 t0 _ ht).2
  have hcomp : comp = cellV.cls := Option.some.inj (k3.symm.trans g2)
  subst hcomp
  obtain ⟨kC, hkC, -⟩ := Vm.findClass_spec k3
  refine W.aast hx hb (hP q0 _ ha) (fun q h => by cases h) (fun h => by cases h) k1 k2 rfl hkC ⟨h0, by show _ < (arrV _ _ _).slots.size; rw [arrV_size]; exact hlt⟩ g1 (fun q h => by rw [h] at g3; cases g3) hkC (va_asg _ _) rfl rfl hdg fun H1 e z oq => ?_
  refine kk H1 _ (hP.set hD ha ?_ oq) (hD.set ha) (hS.put z oq (hD.2 q0 _ ha))
  show H1[a]? = some (vp_cell _ _)
  rw [e, vp_cell_q, vp_cell_q, arrV_store]
  congr 2
  funext q
  by_cases hq : q = i.toNatClampNeg
  · subst hq
    simp [updV, va_up, va_rf]
  · simp [updV, va_up, hq]
end MKV
section MKL
variable {D : va_G} {cl : List vw_C} {A : Nat → Prop} {wr w1 : va_W} {c : Nat × va_E} {H H1 H0 : Heap} {locs : List Loc}
theorem va_lastP (h : va_P D cl (wr ++ [c]) H) : va_P D cl [c] H := fun k q hk => by
  match k, hk with
  | 0, hk => cases hk; exact h wr.length _ (by simp)
  | k + 1, hk => simp at hk
theorem va_lastD (h : va_D A (wr ++ [c])) : va_D A [c] := ⟨fun i j p q hi hj _ => by
  match i, hi, j, hj with
  | 0, _, 0, _ => rfl
  | i + 1, hi, _, _ => simp at hi
  | 0, _, j + 1, hj => simp at hj, fun k q hk => by
  match k, hk with
  | 0, hk => cases hk; exact h.2 wr.length _ (by simp)
  | k + 1, hk => simp at hk⟩
theorem va_lastF (hD : va_D A (wr ++ [c])) (hS : va_S A H0 H locs) (hA : ∀ q, H0.size ≤ q → A q) : ∀ q, va_A [c] H.size q → A q := va_free hD hS hA [wr.length] (by simp)
theorem nd_range (n : Nat) : ∀ k, va_nd (List.range' k n) = true := by
  induction n with
  | zero => intro k; rfl
  | succ n ih =>
    intro k
    rw [List.range'_succ]
    simp [va_nd, ih]
theorem va_jn (hP : va_P D cl (wr ++ [c]) H) (hD : va_D A (wr ++ [c])) (hk : ∀ q : Nat, q < H.size → ¬ va_A [c] H.size q → H1[q]? = H[q]?) (hF : ∀ q, va_A [c] H.size q → A q) (hP1 : va_P D cl w1 H1) (hD1 : va_D (va_A [c] H.size) w1) : va_P D cl (wr ++ w1) H1 ∧ va_D A (wr ++ w1) := by
  refine va_join (wc := [c]) (wr := wr) hP hD [wr.length] (List.range' 0 wr.length) (by simp) ?_ (nd_range _ _) (fun i hi => ?_) hk hF hP1 hD1
  · refine List.ext_getElem? fun i => ?_
    by_cases hi : i < wr.length
    · rw [List.getElem?_map, List.getElem?_map, List.getElem?_range' hi]
      simp [List.getElem?_append_left hi, List.getElem?_eq_getElem hi]
    · rw [List.getElem?_eq_none (by simp; omega), List.getElem?_eq_none (by simp; omega)]
  · simp at hi ⊢
    omega
end MKL
