/-! THE LAW, its first steps: both makers, the cells by their numbers -/
def f31 : Nat → Int32 := (upd (upd (upd (upd (upd (upd (upd (upd (fun _ => 0) (0 : Int32).toNatClampNeg (-1)) (1 : Int32).toNatClampNeg (-1)) (2 : Int32).toNatClampNeg (-1)) (3 : Int32).toNatClampNeg (-1)) (4 : Int32).toNatClampNeg (-1)) (5 : Int32).toNatClampNeg (-1)) (6 : Int32).toNatClampNeg (-1)) (7 : Int32).toNatClampNeg (-1))
def f95 : Nat → Int32 := (upd (upd (upd (upd (upd (upd (upd (upd (fun _ => 0) (0 : Int32).toNatClampNeg (-1)) (1 : Int32).toNatClampNeg (-1)) (2 : Int32).toNatClampNeg (-1)) (3 : Int32).toNatClampNeg (-1)) (4 : Int32).toNatClampNeg (-1)) (5 : Int32).toNatClampNeg (-1)) (6 : Int32).toNatClampNeg (-1)) (7 : Int32).toNatClampNeg (-1))
def f99 : Nat → Int32 := (upd (upd (upd (upd (upd (upd (upd (fun _ => 0) (0 : Int32).toNatClampNeg (-1)) (1 : Int32).toNatClampNeg 0) (2 : Int32).toNatClampNeg 1) (3 : Int32).toNatClampNeg 0) (4 : Int32).toNatClampNeg 3) (5 : Int32).toNatClampNeg 0) (6 : Int32).toNatClampNeg 2)
def m0 (xs : Nat → Int32) (L : Nat) : tM := (fun a => if a = 0 ∨ a = 10 ∨ a = 20 then (fun k => if k = 13 then 5 else if k = 15 then 1 else 0) else if a = 31 then f31 else if a = 82 then (fun k => if k = 4 then (-1) else 0) else if a = 88 then (fun k => if k = 14 then (-1) else 0) else if a = 90 then (fun k => if k = 13 then (-1) else 0) else if a = 92 then f92 else if a = 95 then f95 else if a = 99 then f99 else if a = 120 then f120 else if a = 121 then xs else if a = 122 then (fun _ => Int32.ofNat L) else (fun _ => 0), fun _ _ => 0)
def adL (AL : List Nat) (k b : Nat) (ta tb : Nat → Nat) : Nat → Nat := fun i => if i < 109 then AL.getD i 0 else if i = 120 then k else if i = 121 then b else if 130 ≤ i ∧ i < 136 then ta (i - 130) else tb (i - 140)
def plc (i : Nat) : Nat := if i < 63 then i + 1 else if i < 88 then i + 3 else if i = 88 then 0 else if i < 107 then i + 2 else i - 43
theorem plc_i {i j : Nat} (hi : i < 109) (hj : j < 109) (h : plc i = plc j) : i = j := by
  unfold plc at h
  (repeat' split at h) <;> omega
theorem nm_row {n : Nat} {f g : Nat → Option Nat} (h : ∀ j, j < n → f j = g j) : (fun j => if j < n then f j else none) = (fun j => if j < n then g j else none) := by
  funext j
  by_cases hj : j < n
  · rw [if_pos hj, if_pos hj, h j hj]
  · rw [if_neg hj, if_neg hj]
theorem nm_words (ta : Nat → Nat) : (va_up (va_up (va_up (va_up (va_up (va_up (fun _ => none) (0 : Int32).toNatClampNeg (some (ta 0))) (1 : Int32).toNatClampNeg (some (ta 1))) (2 : Int32).toNatClampNeg (some (ta 2))) (3 : Int32).toNatClampNeg (some (ta 3))) (4 : Int32).toNatClampNeg (some (ta 4))) (5 : Int32).toNatClampNeg (some (ta 5))) = (fun j => if j < 6 then some (ta j) else none) := by
  funext j
  match j with
  | 0 => rfl
  | 1 => rfl
  | 2 => rfl
  | 3 => rfl
  | 4 => rfl
  | 5 => rfl
  | j + 6 =>
    rw [if_neg (by omega)]
    simp only [va_up]
    rw [show (0 : Int32).toNatClampNeg = 0 by decide, show (1 : Int32).toNatClampNeg = 1 by decide, show (2 : Int32).toNatClampNeg = 2 by decide, show (3 : Int32).toNatClampNeg = 3 by decide, show (4 : Int32).toNatClampNeg = 4 by decide, show (5 : Int32).toNatClampNeg = 5 by decide]
    simp
abbrev aL (q0 q8 x0 x1 x2 x3 x4 x5 x6 x7 x8 x9 x10 x11 x12 x13 x14 x15 x16 x17 x18 x19 x20 x21 x22 x23 x24 x25 x26 x27 x28 x29 x30 x31 x32 x33 x34 x35 x36 x37 x38 x39 x40 x41 x42 x43 x44 x45 x46 x47 x48 x49 x50 x51 x52 x53 x54 x55 x56 x57 x58 y0 y1 y2 y3 y4 y5 y6 y7 y8 y9 y10 y11 y12 y13 y14 y15 : Nat) : List Nat := [x0, x1, x2, x3, x4, x5, x6, x7, x8, x9, x10, x11, x12, x13, x14, x15, x16, x17, x18, x19, x20, x21, x22, x23, x24, x25, x26, x27, x28, x29, x30, x31, x32, x33, (x33 + 1 + 0), (x33 + 1 + 1), (x33 + 1 + 2), (x33 + 1 + 3), (x33 + 1 + 4), (x33 + 1 + 5), (x33 + 1 + 6), (x33 + 1 + 7), x34, x35, x36, x37, x38, x39, x40, (x40 + 1 + 0), (x40 + 1 + 1), (x40 + 1 + 2), (x40 + 1 + 3), (x40 + 1 + 4), (x40 + 1 + 5), (x40 + 1 + 6), (x40 + 1 + 7), x41, x42, x43, x44, x45, x46, x49, (x49 + 1 + 0), (x49 + 1 + 1), (x49 + 1 + 2), (x49 + 1 + 3), (x49 + 1 + 4), (x49 + 1 + 5), (x49 + 1 + 6), (x49 + 1 + 7), (x49 + 1 + 8), (x49 + 1 + 9), (x49 + 1 + 10), (x49 + 1 + 11), (x49 + 1 + 12), (x49 + 1 + 13), (x49 + 1 + 14), (x49 + 1 + 15), x50, x51, x52, x53, x54, x55, x56, x57, q0, x58, q8, y0, y1, y2, y3, y4, y5, y6, y7, y8, y9, y10, y11, y12, y13, y14, y15, x47, x48]
section PCS
variable {ad ta : Nat → Nat} {cA : Nat → ClassId} {xs : Nat → Int32} {L : Nat}
abbrev cF (ad : Nat → Nat) (cA : Nat → ClassId) (xs : Nat → Int32) (L : Nat) (l : List Nat) : va_W := l.map (fun i => (ad i, cel ad cA (m0 xs L) i))
set_option maxRecDepth 100000 in
theorem pc_0 : wX4 cA (ad 0) (ad 1) (ad 2) (ad 3) (ad 4) (ad 5) (ad 6) (ad 7) (ad 8) (ad 9) = cF ad cA xs L [0, 1, 2, 3, 4, 5, 6, 7, 8, 9] := rfl
set_option maxRecDepth 100000 in
theorem pc_1 : wX4 cA (ad 10) (ad 11) (ad 12) (ad 13) (ad 14) (ad 15) (ad 16) (ad 17) (ad 18) (ad 19) = cF ad cA xs L [10, 11, 12, 13, 14, 15, 16, 17, 18, 19] := rfl
set_option maxRecDepth 100000 in
theorem pc_2 : wX4 cA (ad 20) (ad 21) (ad 22) (ad 23) (ad 24) (ad 25) (ad 26) (ad 27) (ad 28) (ad 29) = cF ad cA xs L [20, 21, 22, 23, 24, 25, 26, 27, 28, 29] := rfl
set_option maxRecDepth 100000 in
theorem pc_3 (h : ∀ j, j < 8 → ad (34 + j) = ad 33 + 1 + j) : wX8 cA (ad 30) (ad 31) (ad 32) (ad 33) = cF ad cA xs L [30, 31, 32, 33, 34, 35, 36, 37, 38, 39, 40, 41] := by
  unfold wX8
  rw [nm_row (n := 8) (f := fun j => some (ad 33 + 1 + j)) (g := fun j => some (ad (34 + j))) (fun j hj => by rw [h j hj]), ← h 7 (by omega), ← h 6 (by omega), ← h 5 (by omega), ← h 4 (by omega), ← h 3 (by omega), ← h 2 (by omega), ← h 1 (by omega), ← h 0 (by omega)]
  rfl
set_option maxRecDepth 100000 in
theorem pc_4 (h : ∀ j, j < 8 → ad (49 + j) = ad 48 + 1 + j) : wX9 cA (ad 42) (ad 43) (ad 44) (ad 45) (ad 46) (ad 47) (ad 48) = cF ad cA xs L [42, 43, 44, 45, 46, 47, 48, 49, 50, 51, 52, 53, 54, 55, 56] := by
  unfold wX9
  rw [nm_row (n := 8) (f := fun j => some (ad 48 + 1 + j)) (g := fun j => some (ad (49 + j))) (fun j hj => by rw [h j hj]), ← h 7 (by omega), ← h 6 (by omega), ← h 5 (by omega), ← h 4 (by omega), ← h 3 (by omega), ← h 2 (by omega), ← h 1 (by omega), ← h 0 (by omega)]
  rfl
set_option maxRecDepth 100000 in
theorem pc_5 : wX7 cA (ad 57) (ad 58) = cF ad cA xs L [57, 58] := rfl
set_option maxRecDepth 100000 in
theorem pc_6 : wX0 cA (ad 59) (ad 60) (ad 61) = cF ad cA xs L [59, 60, 61] := rfl
set_option maxRecDepth 100000 in
theorem pc_7 (h : ∀ j, j < 16 → ad (64 + j) = ad 63 + 1 + j) : wX3 cA (ad 62) (ad 107) (ad 108) (ad 63) = cF ad cA xs L [62, 107, 108, 63, 64, 65, 66, 67, 68, 69, 70, 71, 72, 73, 74, 75, 76, 77, 78, 79] := by
  unfold wX3
  rw [nm_row (n := 16) (f := fun j => some (ad 63 + 1 + j)) (g := fun j => some (ad (64 + j))) (fun j hj => by rw [h j hj]), ← h 15 (by omega), ← h 14 (by omega), ← h 13 (by omega), ← h 12 (by omega), ← h 11 (by omega), ← h 10 (by omega), ← h 9 (by omega), ← h 8 (by omega), ← h 7 (by omega), ← h 6 (by omega), ← h 5 (by omega), ← h 4 (by omega), ← h 3 (by omega), ← h 2 (by omega), ← h 1 (by omega), ← h 0 (by omega)]
  rfl
set_option maxRecDepth 100000 in
theorem pc_8 : wX2 cA (ad 80) (ad 81) = cF ad cA xs L [80, 81] := rfl
set_option maxRecDepth 100000 in
theorem pc_9 : wX6 cA (ad 82) (ad 83) (ad 84) = cF ad cA xs L [82, 83, 84] := rfl
set_option maxRecDepth 100000 in
theorem pc_10 : wX1 cA (ad 85) = cF ad cA xs L [85] := rfl
set_option maxRecDepth 100000 in
theorem pc_11 : wX5 cA (ad 86) (ad 87) = cF ad cA xs L [86, 87] := rfl
set_option maxRecDepth 100000 in
theorem pc_r (h : ∀ j, j < 6 → ad (130 + j) = ta j) : wX11 cA ta (ad 90) (ad 91) (ad 92) (ad 93) (ad 94) (ad 95) (ad 96) (ad 97) (ad 98) (ad 99) (ad 100) (ad 101) (ad 102) (ad 103) (ad 104) (ad 105) (ad 106) = cF ad cA xs L [90, 91, 92, 93, 94, 95, 96, 97, 98, 99, 100, 101, 102, 103, 104, 105, 106] := by
  unfold wX11
  rw [nm_words, nm_row (n := 6) (f := fun j => some (ta j)) (g := fun j => some (ad (130 + j))) (fun j hj => by rw [h j hj])]
  rfl
set_option maxRecDepth 100000 in
theorem pc_all (h34 : ∀ j, j < 8 → ad (34 + j) = ad 33 + 1 + j) (h49 : ∀ j, j < 8 → ad (49 + j) = ad 48 + 1 + j) (h64 : ∀ j, j < 16 → ad (64 + j) = ad 63 + 1 + j) : wX10 cA (ad 88) (ad 0) (ad 1) (ad 2) (ad 3) (ad 4) (ad 5) (ad 6) (ad 7) (ad 8) (ad 9) (ad 10) (ad 11) (ad 12) (ad 13) (ad 14) (ad 15) (ad 16) (ad 17) (ad 18) (ad 19) (ad 20) (ad 21) (ad 22) (ad 23) (ad 24) (ad 25) (ad 26) (ad 27) (ad 28) (ad 29) (ad 30) (ad 31) (ad 32) (ad 33) (ad 42) (ad 43) (ad 44) (ad 45) (ad 46) (ad 47) (ad 48) (ad 57) (ad 58) (ad 59) (ad 60) (ad 61) (ad 62) (ad 107) (ad 108) (ad 63) (ad 80) (ad 81) (ad 82) (ad 83) (ad 84) (ad 85) (ad 86) (ad 87) (ad 89) = cF ad cA xs L [88, 0, 1, 2, 3, 4, 5, 6, 7, 8, 9, 10, 11, 12, 13, 14, 15, 16, 17, 18, 19, 20, 21, 22, 23, 24, 25, 26, 27, 28, 29, 30, 31, 32, 33, 34, 35, 36, 37, 38, 39, 40, 41, 42, 43, 44, 45, 46, 47, 48, 49, 50, 51, 52, 53, 54, 55, 56, 57, 58, 59, 60, 61, 62, 107, 108, 63, 64, 65, 66, 67, 68, 69, 70, 71, 72, 73, 74, 75, 76, 77, 78, 79, 80, 81, 82, 83, 84, 85, 86, 87, 89] := by
  unfold wX10
  rw [pc_0 (xs := xs) (L := L), pc_1 (xs := xs) (L := L), pc_2 (xs := xs) (L := L), pc_3 h34 (xs := xs) (L := L), pc_4 h49 (xs := xs) (L := L), pc_5 (xs := xs) (L := L), pc_6 (xs := xs) (L := L), pc_7 h64 (xs := xs) (L := L), pc_8 (xs := xs) (L := L), pc_9 (xs := xs) (L := L), pc_10 (xs := xs) (L := L), pc_11 (xs := xs) (L := L)]
  rfl
theorem pc_whole (h34 : ∀ j, j < 8 → ad (34 + j) = ad 33 + 1 + j) (h49 : ∀ j, j < 8 → ad (49 + j) = ad 48 + 1 + j) (h64 : ∀ j, j < 16 → ad (64 + j) = ad 63 + 1 + j) (h : ∀ j, j < 6 → ad (130 + j) = ta j) : wX10 cA (ad 88) (ad 0) (ad 1) (ad 2) (ad 3) (ad 4) (ad 5) (ad 6) (ad 7) (ad 8) (ad 9) (ad 10) (ad 11) (ad 12) (ad 13) (ad 14) (ad 15) (ad 16) (ad 17) (ad 18) (ad 19) (ad 20) (ad 21) (ad 22) (ad 23) (ad 24) (ad 25) (ad 26) (ad 27) (ad 28) (ad 29) (ad 30) (ad 31) (ad 32) (ad 33) (ad 42) (ad 43) (ad 44) (ad 45) (ad 46) (ad 47) (ad 48) (ad 57) (ad 58) (ad 59) (ad 60) (ad 61) (ad 62) (ad 107) (ad 108) (ad 63) (ad 80) (ad 81) (ad 82) (ad 83) (ad 84) (ad 85) (ad 86) (ad 87) (ad 89) ++ wX11 cA ta (ad 90) (ad 91) (ad 92) (ad 93) (ad 94) (ad 95) (ad 96) (ad 97) (ad 98) (ad 99) (ad 100) (ad 101) (ad 102) (ad 103) (ad 104) (ad 105) (ad 106) = cF ad cA xs L ([88, 0, 1, 2, 3, 4, 5, 6, 7, 8, 9, 10, 11, 12, 13, 14, 15, 16, 17, 18, 19, 20, 21, 22, 23, 24, 25, 26, 27, 28, 29, 30, 31, 32, 33, 34, 35, 36, 37, 38, 39, 40, 41, 42, 43, 44, 45, 46, 47, 48, 49, 50, 51, 52, 53, 54, 55, 56, 57, 58, 59, 60, 61, 62, 107, 108, 63, 64, 65, 66, 67, 68, 69, 70, 71, 72, 73, 74, 75, 76, 77, 78, 79, 80, 81, 82, 83, 84, 85, 86, 87, 89] ++ [90, 91, 92, 93, 94, 95, 96, 97, 98, 99, 100, 101, 102, 103, 104, 105, 106]) := by
  unfold cF
  rw [pc_all h34 h49 h64 (xs := xs) (L := L), pc_r h (xs := xs) (L := L), List.map_append]
def plL : List Nat := [88, 0, 1, 2, 3, 4, 5, 6, 7, 8, 9, 10, 11, 12, 13, 14, 15, 16, 17, 18, 19, 20, 21, 22, 23, 24, 25, 26, 27, 28, 29, 30, 31, 32, 33, 34, 35, 36, 37, 38, 39, 40, 41, 42, 43, 44, 45, 46, 47, 48, 49, 50, 51, 52, 53, 54, 55, 56, 57, 58, 59, 60, 61, 62, 107, 108, 63, 64, 65, 66, 67, 68, 69, 70, 71, 72, 73, 74, 75, 76, 77, 78, 79, 80, 81, 82, 83, 84, 85, 86, 87, 89] ++ [90, 91, 92, 93, 94, 95, 96, 97, 98, 99, 100, 101, 102, 103, 104, 105, 106]
theorem plc_ok : ∀ i, i < 109 → plL[plc i]? = some i := by decide
theorem ge_all {i : Nat} (hi : i < 109) : (cF ad cA xs L plL)[plc i]? = some (ad i, cel ad cA (m0 xs L) i) := by
  unfold cF
  rw [List.getElem?_map, plc_ok i hi]
  rfl
end PCS
