def clT : List (Option Nat) := [some 4, none, none, none, none, none, none, none, none, none, some 4, none, none, none, none, none, none, none, none, none, some 4, none, none, none, none, none, none, none, none, none, some 8, none, none, none, none, none, none, none, none, none, none, none, some 9, none, none, none, none, none, none, none, none, none, none, none, none, none, none, some 7, none, some 0, none, none, some 3, none, none, none, none, none, none, none, none, none, none, none, none, none, none, none, none, none, some 2, none, some 6, none, none, some 1, some 5, none, some 10, none, some 11, none, none, none, none, none, none, none, none, none, none, none, none, none, none, none, none, none, none, none, none, none, none, none, none, none, none, none, none, none, none, none, none, none, none, none, none, none, none, none, some 90, some 90, some 90, some 90, some 90, some 90]
def rfT : List (List (Option Nat)) := [[none, some 1, none, some 2, some 3, some 4, some 5, none, none, some 6, some 7, some 8, some 9, none, none, none], [], [], [], [], [], [], [], [], [], [none, some 11, none, some 12, some 13, some 14, some 15, none, none, some 16, some 17, some 18, some 19, none, none, none], [], [], [], [], [], [], [], [], [], [none, some 21, none, some 22, some 23, some 24, some 25, none, none, some 26, some 27, some 28, some 29, none, none, none], [], [], [], [], [], [], [], [], [], [some 31, some 32, some 33], [], [], [], [], [], [], [], [], [], [], [], [some 43, some 44, some 45, some 46, some 47, some 48], [], [], [], [], [], [], [], [], [], [], [], [], [], [], [some 58], [], [some 60, some 61], [], [], [some 107, some 108, none, some 63], [], [], [], [], [], [], [], [], [], [], [], [], [], [], [], [], [], [some 81, none, none], [], [some 83, some 84, none, none, none, none], [], [], [none, none], [some 87, none, none, none, none], [], [some 0, some 10, some 20, some 30, some 42, some 57, some 59, some 62, some 80, some 82, some 85, some 86, some 89, none, none], [], [some 91, some 92, some 93, some 94, none, some 95, some 96, some 97, some 98, some 99, some 100, none, none, none, some 101, some 102, some 103, some 104, some 105, none, none, some 106, none, none, none, none], [], [], [], [], [], [], [], [], [], [], [], [], [], [], [], [], [], [], [], [], [], [], [], [], [], [], [], [], [], [], [], [], [], [], [], [], [], [], [], [], [], [], [], [], []]
def akT : List Nat := [9, 0, 0, 0, 0, 0, 0, 0, 0, 0, 9, 0, 0, 0, 0, 0, 0, 0, 0, 0, 9, 0, 0, 0, 0, 0, 0, 0, 0, 0, 9, 0, 0, 4, 2, 2, 2, 2, 2, 2, 2, 2, 9, 0, 1, 1, 0, 0, 3, 0, 0, 0, 0, 0, 0, 0, 0, 9, 0, 9, 0, 0, 9, 3, 0, 0, 0, 0, 0, 0, 0, 0, 0, 0, 0, 0, 0, 0, 0, 0, 9, 0, 9, 0, 0, 9, 9, 0, 9, 0, 9, 0, 0, 0, 0, 0, 0, 2, 2, 0, 5, 0, 0, 0, 0, 1, 0, 0, 0, 9, 9, 9, 9, 9, 9, 9, 9, 9, 9, 9, 6, 7, 9, 9, 9, 9, 9, 9, 9, 9, 9, 9, 9, 9, 9, 9]
def alT : List Nat := [0, 8, 16, 16, 16, 16, 5, 5, 5, 5, 0, 8, 16, 16, 16, 16, 5, 5, 5, 5, 0, 8, 16, 16, 16, 16, 5, 5, 5, 5, 0, 8, 8, 8, 160, 160, 160, 160, 160, 160, 160, 160, 0, 16, 16, 16, 8, 8, 8, 8, 8, 8, 8, 8, 8, 8, 8, 0, 2048, 0, 16, 8, 0, 16, 8, 8, 8, 8, 8, 8, 8, 8, 8, 8, 8, 8, 8, 8, 8, 8, 0, 8, 0, 160, 4, 0, 0, 20, 0, 8, 0, 8, 114, 114, 114, 8, 8, 1280, 160, 7, 6, 64, 2048, 8, 16, 8, 20, 8, 8, 0, 0, 0, 0, 0, 0, 0, 0, 0, 0, 0, 7, 0, 0, 0, 0, 0, 0, 0, 0, 0, 0, 0, 0, 0, 0, 0]
def rbT : List Nat := [0, 0, 0, 0, 0, 0, 0, 0, 0, 0, 0, 0, 0, 0, 0, 0, 0, 0, 0, 0, 0, 0, 0, 0, 0, 0, 0, 0, 0, 0, 0, 0, 0, 34, 0, 0, 0, 0, 0, 0, 0, 0, 0, 0, 0, 0, 0, 0, 49, 0, 0, 0, 0, 0, 0, 0, 0, 0, 0, 0, 0, 0, 0, 64, 0, 0, 0, 0, 0, 0, 0, 0, 0, 0, 0, 0, 0, 0, 0, 0, 0, 0, 0, 0, 0, 0, 0, 0, 0, 0, 0, 0, 0, 0, 0, 0, 0, 0, 0, 0, 130, 0, 0, 0, 0, 0, 0, 0, 0, 0, 0, 0, 0, 0, 0, 0, 0, 0, 0, 0, 0, 0, 0, 0, 0, 0, 0, 0, 0, 0, 0, 0, 0, 0, 0, 0]
/-! THE MACHINE OF FIXED CELLS: the claim's own objects at fixed numbers; what a method does to numbers in them, as a function -/
def iI (z : Int) : Int32 := Int32.ofInt z
def jJ (z : Int) : Int64 := Int64.ofInt z
abbrev tM : Type := (Nat → Nat → Int32) × (Nat → Nat → Int64)
abbrev tL : Type := List (Option Value)
abbrev tAn : Type := Nat × Nat × Int × Nat
abbrev tCode : Type := List (Nat × Instr × Nat × tAn)
abbrev tR : Type := Option ((Nat × tL × List Value × tM) ⊕ ((Nat × List Value × Nat × tL × List Value) ⊕ Option Value))
abbrev tO : Type := Option (Option Value × tM)
def irm (x y : Int32) : Int32 := x - x / y * y
def mxI (x y : Int32) : Int32 := if x < y then y else x
def mnI (x y : Int32) : Int32 := if y < x then y else x
def ius (x y : Int32) : Int32 := (x.toUInt32 >>> (y.toUInt32 &&& Int32.toUInt32 31)).toInt32
/-- writes -/
def sI (M : tM) (a k : Nat) (v : Int32) : tM := (fun x y => if x = a ∧ y = k then v else M.1 x y, M.2)
def sJ (M : tM) (a k : Nat) (v : Int64) : tM := (M.1, fun x y => if x = a ∧ y = k then v else M.2 x y)
/-- a whole row -/
def rI (M : tM) (a : Nat) (f : Nat → Int32) : tM := (fun x => if x = a then f else M.1 x, M.2)
def rJ (M : tM) (a : Nat) (f : Nat → Int64) : tM := (M.1, fun x => if x = a then f else M.2 x)
def alen (M : tM) (a : Nat) : Nat := if a = 121 then (M.1 122 0).toInt.toNat else alT.getD a 0
def akind (a : Nat) : Nat := akT.getD a 9
def rfe (a j : Nat) : Nat := rbT.getD a 0 + j
def clsO (b : Nat) : Option Nat := clT.getD b none
def reff (b k : Nat) : Option Nat := (rfT.getD b []).getD k none
def fv (M : tM) (b k : Nat) : Value := match reff b k with
  | some r => .ref r
  | none => .int (M.1 b k)
abbrev inb (i : Int32) (n : Nat) : Prop := 0 ≤ i.toInt ∧ i.toInt < (n : Int)
def nx (pc : Nat) (L : tL) (S : List Value) (M : tM) : tR := some (.inl (pc, L, S, M))
def lI (L : tL) (k pc : Nat) (S : List Value) (M : tM) : tR := match L[k]? with
  | some (some (.int x)) => nx pc L (.int x :: S) M
  | _ => none
def lJ (L : tL) (k pc : Nat) (S : List Value) (M : tM) : tR := match L[k]? with
  | some (some (.long x)) => nx pc L (.long x :: S) M
  | _ => none
def lA (L : tL) (k pc : Nat) (S : List Value) (M : tM) : tR := match L[k]? with
  | some (some (.ref x)) => nx pc L (.ref x :: S) M
  | _ => none
def wI (L : tL) (k pc : Nat) (S : List Value) (M : tM) : tR := match S with
  | .int x :: r => if k < L.length then nx pc (L.set k (some (.int x))) r M else none
  | _ => none
def wA (L : tL) (k pc : Nat) (S : List Value) (M : tM) : tR := match S with
  | .ref x :: r => if k < L.length then nx pc (L.set k (some (.ref x))) r M else none
  | _ => none
def b2 (f : Int32 → Int32 → Int32) (pc : Nat) (L : tL) (S : List Value) (M : tM) : tR := match S with
  | .int y :: .int x :: r => nx (pc + 1) L (.int (f x y) :: r) M
  | _ => none
def b2J (f : Int64 → Int64 → Int64) (pc : Nat) (L : tL) (S : List Value) (M : tM) : tR := match S with
  | .long y :: .long x :: r => nx (pc + 1) L (.long (f x y) :: r) M
  | _ => none
def u1 (f : Int32 → Int32) (pc : Nat) (L : tL) (S : List Value) (M : tM) : tR := match S with
  | .int x :: r => nx (pc + 1) L (.int (f x) :: r) M
  | _ => none
def tkn : Nat → List Value → List Value → Option (List Value × List Value)
  | 0, acc, S => some (acc, S)
  | n + 1, acc, v :: S => tkn n (v :: acc) S
  | _ + 1, _, [] => none
def tsw (pc : Nat) (dflt : Int) (L : tL) (S : List Value) (M : tM) (x : Int32) : Int → List Int → tR
  | _, [] => nx ((pc : Int) + dflt).toNat L S M
  | k, o :: r => if x = iI k then nx ((pc : Int) + o).toNat L S M else tsw pc dflt L S M x (k + 1) r
def lsw (pc : Nat) (dflt : Int) (L : tL) (S : List Value) (M : tM) (x : Int32) : List (Int × Int) → tR
  | [] => nx ((pc : Int) + dflt).toNat L S M
  | (k, o) :: r => if x = iI k then nx ((pc : Int) + o).toNat L S M else lsw pc dflt L S M x r
def brI (c : ClassFile.Cond) (x y : Int32) (A B : tR) : tR := match c with
  | .eq => if x = y then A else B
  | .ne => if ¬ x = y then A else B
  | .lt => if x < y then A else B
  | .ge => if y ≤ x then A else B
  | .gt => if y < x then A else B
  | .le => if x ≤ y then A else B
def cpy {α : Type} (f g : Nat → α) (sp dp n : Nat) : Nat → α := fun k => if dp ≤ k ∧ k < dp + n then f (sp + (k - dp)) else g k
/-- one step -/
def ta (ins : Instr) (an : tAn) (pc : Nat) (L : tL) (S : List Value) (M : tM) : tR := match ins with
  | .aload_n k => lA L k (pc + 1) S M
  | .aload k => lA L k (pc + 2) S M
  | .iload_n k => lI L k (pc + 1) S M
  | .iload k => lI L k (pc + 2) S M
  | .lload_n k => lJ L k (pc + 1) S M
  | .lload k => lJ L k (pc + 2) S M
  | .istore_n k => wI L k (pc + 1) S M
  | .istore k => wI L k (pc + 2) S M
  | .astore_n k => wA L k (pc + 1) S M
  | .astore k => wA L k (pc + 2) S M
  | .iinc k n => match L[k]? with
    | some (some (.int x)) => nx (pc + 3) (L.set k (some (.int (x + iI n)))) S M
    | _ => none
  | .iconst n => nx (pc + 1) L (.int (iI n) :: S) M
  | .bipush n => nx (pc + 2) L (.int (iI n) :: S) M
  | .sipush n => nx (pc + 3) L (.int (iI n) :: S) M
  | .lconst n => nx (pc + 1) L (.long (jJ ((n : Nat) : Int)) :: S) M
  | .ldc _ => if an.1 = 0 then nx (pc + 2) L (.int (iI an.2.2.1) :: S) M else nx (pc + 2) L (.ref an.2.1 :: S) M
  | .ldc_w _ => nx (pc + 3) L (.int (iI an.2.2.1) :: S) M
  | .ldc2_w _ => nx (pc + 3) L (.long (jJ an.2.2.1) :: S) M
  | .iadd => b2 (fun x y => x + y) pc L S M
  | .isub => b2 (fun x y => x - y) pc L S M
  | .imul => b2 (fun x y => x * y) pc L S M
  | .iand => b2 (fun x y => x &&& y) pc L S M
  | .ior => b2 (fun x y => x ||| y) pc L S M
  | .ixor => b2 (fun x y => x ^^^ y) pc L S M
  | .ishl => b2 (fun x y => x <<< (y &&& 31)) pc L S M
  | .ishr => b2 (fun x y => x >>> (y &&& 31)) pc L S M
  | .iushr => b2 ius pc L S M
  | .idiv => match S with
    | .int y :: .int x :: r => if y = iI 0 then none else nx (pc + 1) L (.int (x / y) :: r) M
    | _ => none
  | .irem => match S with
    | .int y :: .int x :: r => if y = iI 0 then none else nx (pc + 1) L (.int (irm x y) :: r) M
    | _ => none
  | .ineg => u1 (fun x => -x) pc L S M
  | .i2b => u1 (fun x => x.toInt8.toInt32) pc L S M
  | .i2s => u1 (fun x => x.toInt16.toInt32) pc L S M
  | .i2c => u1 (fun x => (x.toUInt32 % 65536).toInt32) pc L S M
  | .i2l => match S with
    | .int x :: r => nx (pc + 1) L (.long x.toInt64 :: r) M
    | _ => none
  | .l2i => match S with
    | .long x :: r => nx (pc + 1) L (.int x.toInt32 :: r) M
    | _ => none
  | .land => b2J (fun x y => x &&& y) pc L S M
  | .lor => b2J (fun x y => x ||| y) pc L S M
  | .lshl => match S with
    | .int y :: .long x :: r => nx (pc + 1) L (.long (x <<< (y.toInt64 &&& 63)) :: r) M
    | _ => none
  | .lcmp => match S with
    | .long y :: .long x :: r => nx (pc + 1) L (.int (lg_cmp x y) :: r) M
    | _ => none
  | .dup => match S with
    | .int x :: r => nx (pc + 1) L (.int x :: .int x :: r) M
    | .ref x :: r => nx (pc + 1) L (.ref x :: .ref x :: r) M
    | _ => none
  | .dup2 => match S with
    | .int y :: .ref x :: r => nx (pc + 1) L (.int y :: .ref x :: .int y :: .ref x :: r) M
    | _ => none
  | .pop => match S with
    | .int _ :: r => nx (pc + 1) L r M
    | .ref _ :: r => nx (pc + 1) L r M
    | _ => none
  | .goto _ => nx an.1 L S M
  | .ifCond c _ => match S with
    | .int x :: r => brI c x (iI 0) (nx an.1 L r M) (nx (pc + 3) L r M)
    | _ => none
  | .if_icmp c _ => match S with
    | .int y :: .int x :: r => brI c x y (nx an.1 L r M) (nx (pc + 3) L r M)
    | _ => none
  | .tableswitch dflt lo _ offs => match S with
    | .int x :: r => tsw pc dflt L r M x lo offs.toList
    | _ => none
  | .lookupswitch dflt ps => match S with
    | .int x :: r => lsw pc dflt L r M x ps.toList
    | _ => none
  | .getfield _ => match S with
    | .ref b :: r => if clsO b = some an.1 then nx (pc + 3) L (fv M b an.2.1 :: r) M else none
    | _ => none
  | .putfield _ => match S with
    | .int v :: .ref b :: r => if clsO b = some an.1 then (if an.2.2.1 = 0 then nx (pc + 3) L r (sI M b an.2.1 v) else if v = iI 0 ∨ v = iI 1 then nx (pc + 3) L r (sI M b an.2.1 v) else none) else none
    | _ => none
  | .getstatic _ => nx (pc + 3) L (.ref an.1 :: S) M
  | .iaload => match S with
    | .int i :: .ref a :: r => if (akind a = 0 ∨ akind a = 6 ∨ akind a = 7) ∧ inb i (alen M a) then nx (pc + 1) L (.int (M.1 a i.toInt.toNat) :: r) M else none
    | _ => none
  | .baload => match S with
    | .int i :: .ref a :: r => if akind a = 1 ∧ inb i (alen M a) then nx (pc + 1) L (.int (M.1 a i.toInt.toNat) :: r) M else none
    | _ => none
  | .laload => match S with
    | .int i :: .ref a :: r => if akind a = 2 ∧ inb i (alen M a) then nx (pc + 1) L (.long (M.2 a i.toInt.toNat) :: r) M else none
    | _ => none
  | .aaload => match S with
    | .int i :: .ref a :: r => if (akind a = 3 ∨ akind a = 4 ∨ akind a = 5) ∧ inb i (alen M a) then nx (pc + 1) L (.ref (rfe a i.toInt.toNat) :: r) M else none
    | _ => none
  | .iastore => match S with
    | .int x :: .int i :: .ref a :: r => if akind a = 0 ∧ inb i (alen M a) then nx (pc + 1) L r (sI M a i.toInt.toNat x) else none
    | _ => none
  | .bastore => match S with
    | .int x :: .int i :: .ref a :: r => if akind a = 1 ∧ inb i (alen M a) then (if x = iI 0 ∨ x = iI 1 then nx (pc + 1) L r (sI M a i.toInt.toNat x) else none) else none
    | _ => none
  | .lastore => match S with
    | .long x :: .int i :: .ref a :: r => if akind a = 2 ∧ inb i (alen M a) then nx (pc + 1) L r (sJ M a i.toInt.toNat x) else none
    | _ => none
  | .arraylength => match S with
    | .ref a :: r => if akind a < 9 then nx (pc + 1) L (.int (iI (alen M a : Int)) :: r) M else none
    | _ => none
  | .invokevirtual _ => match tkn an.2.1 [] S with
    | some (as, .ref b :: r) => if (r.map Value.category).sum ≤ 8 then (if clsO b = some an.2.2.1.toNat then some (.inr (.inl (an.1, .ref b :: as, pc + 3, L, r))) else none) else none
    | _ => none
  | .invokestatic _ => if an.2.2.1 = 1 then (match S with
      | [.int n, .int dp, .ref d, .int sp, .ref s] =>
        if akind s = 0 ∧ akind d = 0 ∧ 0 ≤ sp.toInt ∧ 0 ≤ dp.toInt ∧ 0 ≤ n.toInt ∧ sp.toInt + n.toInt ≤ (alen M s : Int) ∧ dp.toInt + n.toInt ≤ (alen M d : Int) then nx (pc + 3) L [] (rI M d (cpy (M.1 s) (M.1 d) sp.toInt.toNat dp.toInt.toNat n.toInt.toNat))
        else if akind s = 2 ∧ akind d = 2 ∧ 0 ≤ sp.toInt ∧ 0 ≤ dp.toInt ∧ 0 ≤ n.toInt ∧ sp.toInt + n.toInt ≤ (alen M s : Int) ∧ dp.toInt + n.toInt ≤ (alen M d : Int) then nx (pc + 3) L [] (rJ M d (cpy (M.2 s) (M.2 d) sp.toInt.toNat dp.toInt.toNat n.toInt.toNat))
        else none
      | _ => none)
    else if an.2.2.1 = 2 then (match S with
      | .int y :: .int x :: r => if (r.map Value.category).sum ≤ 8 then nx (pc + 3) L (.int (mxI x y) :: r) M else none
      | _ => none)
    else if an.2.2.1 = 3 then (match S with
      | .int y :: .int x :: r => if (r.map Value.category).sum ≤ 8 then nx (pc + 3) L (.int (mnI x y) :: r) M else none
      | _ => none)
    else match tkn an.2.1 [] S with
    | some (as, r) => if (r.map Value.category).sum ≤ 8 then some (.inr (.inl (an.1, as, pc + 3, L, r))) else none
    | none => none
  | .ireturn => match S with
    | [.int x] => if an.1 = 0 then some (.inr (.inr (some (.int x)))) else if x = iI 0 ∨ x = iI 1 then some (.inr (.inr (some (.int x)))) else none
    | _ => none
  | .lreturn => match S with
    | [.long x] => some (.inr (.inr (some (.long x))))
    | _ => none
  | .areturn => match S with
    | [.ref x] => some (.inr (.inr (some (.ref x))))
    | _ => none
  | .return_ => match S with
    | [] => some (.inr (.inr none))
    | _ => none
  | _ => none
def lk (pc : Nat) : tCode → Option (Instr × tAn)
  | [] => none
  | (q, i, _, a) :: r => if q = pc then some (i, a) else lk pc r
/-- n steps -/
def runN (ca : Nat → List Value → tM → tO) (C : tCode) : Nat → Nat → tL → List Value → tM → tO
  | 0, _, _, _, _ => none
  | n + 1, pc, L, S, M => match lk pc C with
    | none => none
    | some (ins, an) => match ta ins an pc L S M with
      | none => none
      | some (.inl (pc', L', S', M')) => runN ca C n pc' L' S' M'
      | some (.inr (.inl (y, as, pc', L', S'))) => match ca y as M with
        | none => none
        | some (v, M') => runN ca C n pc' L' (v.toList ++ S') M'
      | some (.inr (.inr v)) => some (v, M)
theorem runN_mono {ca : Nat → List Value → tM → tO} {C : tCode} : ∀ (n : Nat) {pc : Nat} {L : tL} {S : List Value} {M : tM} {r : Option Value × tM}, runN ca C n pc L S M = some r → runN ca C (n + 1) pc L S M = some r := by
  intro n
  induction n with
  | zero => intro pc L S M r h; simp [runN] at h
  | succ n ih =>
    intro pc L S M r h
    rw [runN] at h ⊢
    split at h
    · cases h
    · split at h
      · cases h
      · exact ih h
      · split at h
        · cases h
        · exact ih h
      · exact h
theorem runN_le {ca : Nat → List Value → tM → tO} {C : tCode} {pc : Nat} {L : tL} {S : List Value} {M : tM} {r : Option Value × tM} {n m : Nat} (hnm : n ≤ m) (h : runN ca C n pc L S M = some r) : runN ca C m pc L S M = some r := by
  induction hnm with
  | refl => exact h
  | step _ ih => exact runN_mono _ ih
theorem runN_one {ca : Nat → List Value → tM → tO} {C : tCode} {pc : Nat} {L : tL} {S : List Value} {M : tM} {r r' : Option Value × tM} {n m : Nat} (h : runN ca C n pc L S M = some r) (h' : runN ca C m pc L S M = some r') : r = r' := by
  have h1 := runN_le (Nat.le_max_left n m) h
  have h2 := runN_le (Nat.le_max_right n m) h'
  rw [h1] at h2
  exact Option.some.inj h2
/-- the answer, if it comes to one -/
noncomputable def rn (ca : Nat → List Value → tM → tO) (C : tCode) (pc : Nat) (L : tL) (S : List Value) (M : tM) : tO :=
  @dite _ (∃ r n, runN ca C n pc L S M = some r) (Classical.propDecidable _) (fun h => some h.choose) (fun _ => none)
theorem rn_of {ca : Nat → List Value → tM → tO} {C : tCode} {pc : Nat} {L : tL} {S : List Value} {M : tM} {r : Option Value × tM} {n : Nat} (h : runN ca C n pc L S M = some r) : rn ca C pc L S M = some r := by
  have hx : ∃ r n, runN ca C n pc L S M = some r := ⟨r, n, h⟩
  unfold rn
  rw [dif_pos hx]
  obtain ⟨k, hk⟩ := hx.choose_spec
  exact congrArg some (runN_one hk h)
theorem rn_ex {ca : Nat → List Value → tM → tO} {C : tCode} {pc : Nat} {L : tL} {S : List Value} {M : tM} {r : Option Value × tM} (h : rn ca C pc L S M = some r) : ∃ n, runN ca C n pc L S M = some r := by
  unfold rn at h
  by_cases hx : ∃ r n, runN ca C n pc L S M = some r
  · rw [dif_pos hx] at h
    obtain ⟨k, hk⟩ := hx.choose_spec
    exact ⟨k, by rw [hk]; exact h⟩
  · rw [dif_neg hx] at h
    cases h
noncomputable def rnk (ca : Nat → List Value → tM → tO) (C : tCode) (pc : Nat) (L : tL) (S : List Value) : tO → tO
  | none => none
  | some (v, M) => rn ca C pc L (v.toList ++ S) M
theorem rnk_v {ca : Nat → List Value → tM → tO} {C : tCode} {pc : Nat} {L : tL} {S : List Value} {v : Value} {M : tM} : rnk ca C pc L S (some (some v, M)) = rn ca C pc L (v :: S) M := rfl
theorem rnk_n {ca : Nat → List Value → tM → tO} {C : tCode} {pc : Nat} {L : tL} {S : List Value} {M : tM} : rnk ca C pc L S (some (none, M)) = rn ca C pc L S M := rfl
noncomputable def rnx (ca : Nat → List Value → tM → tO) (C : tCode) (M : tM) : tR → tO
  | none => none
  | some (.inl (pc, L, S, M')) => rn ca C pc L S M'
  | some (.inr (.inl (y, as, pc, L, S))) => rnk ca C pc L S (ca y as M)
  | some (.inr (.inr v)) => some (v, M)
theorem rn_at {ca : Nat → List Value → tM → tO} {C : tCode} {pc : Nat} {L : tL} {S : List Value} {M : tM} {ins : Instr} {an : tAn} (h : lk pc C = some (ins, an)) : rn ca C pc L S M = rnx ca C M (ta ins an pc L S M) := by
  have key : ∀ r : Option Value × tM, rn ca C pc L S M = some r ↔ rnx ca C M (ta ins an pc L S M) = some r := by
    intro r
    constructor
    · intro hr
      obtain ⟨n, hn⟩ := rn_ex hr
      cases n with
      | zero => simp [runN] at hn
      | succ n =>
        rw [runN, h] at hn
        dsimp only at hn
        split at hn
        · cases hn
        · rename_i e; rw [e]; exact rn_of hn
        · rename_i e
          rw [e]
          split at hn
          · cases hn
          · rename_i e2
            show rnk _ _ _ _ _ _ = _
            rw [e2]
            exact rn_of hn
        · rename_i e; rw [e]; exact hn
    · intro hr
      cases e : ta ins an pc L S M with
      | none => rw [e] at hr; cases hr
      | some x =>
        rw [e] at hr
        rcases x with ⟨pc', L', S', M'⟩ | ⟨y, as, pc', L', S'⟩ | v
        · obtain ⟨n, hn⟩ := rn_ex (show rn ca C pc' L' S' M' = some r from hr)
          exact rn_of (n := n + 1) (by rw [runN, h]; dsimp only; rw [e]; exact hn)
        · have hr2 : rnk ca C pc' L' S' (ca y as M) = some r := hr
          cases e2 : ca y as M with
          | none => rw [e2] at hr2; cases hr2
          | some q =>
            obtain ⟨v, M'⟩ := q
            rw [e2] at hr2
            obtain ⟨n, hn⟩ := rn_ex (show rn ca C pc' L' (v.toList ++ S') M' = some r from hr2)
            exact rn_of (n := n + 1) (by rw [runN, h]; dsimp only; rw [e]; dsimp only; rw [e2]; exact hn)
        · exact rn_of (n := 1) (by rw [runN, h]; dsimp only; rw [e]; exact hr)
  cases hx : rnx ca C M (ta ins an pc L S M) with
  | some r => exact (key r).mpr hx
  | none =>
    cases hy : rn ca C pc L S M with
    | none => rfl
    | some r => rw [(key r).mp hy] at hx; cases hx
theorem rnx_ite {ca : Nat → List Value → tM → tO} {C : tCode} {M : tM} {c : Prop} [Decidable c] {A B : tR} : rnx ca C M (if c then A else B) = if c then rnx ca C M A else rnx ca C M B := by
  split <;> rfl
def enl : List Value → tL
  | [] => []
  | v :: r => if v.category = 2 then some v :: none :: enl r else some v :: enl r
def ent (n : Nat) (as : List Value) : tL := enl as ++ List.replicate (n - (enl as).length) none
