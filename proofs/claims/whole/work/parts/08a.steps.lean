theorem k_X0_reaches_0 : lk 0 C_X0_reaches = some (.iconst 1, (0, 0, 0, 0)) := by decide +kernel
theorem s_X0_reaches_0 {ca : Nat → List Value → tM → tO} {M : tM} {L : tL} {S : List Value} : rn ca C_X0_reaches 0 L S M = rn ca C_X0_reaches 1 L (.int (iI 1) :: S) M := (rn_at k_X0_reaches_0).trans rfl
theorem k_X0_reaches_1 : lk 1 C_X0_reaches = some (.iload_n 3, (0, 0, 0, 0)) := by decide +kernel
theorem s_X0_reaches_1 {ca : Nat → List Value → tM → tO} {M : tM} {a0 a1 a2 a4 a5 a6 a7 a8 : Option Value} {x : Int32} {S : List Value} : rn ca C_X0_reaches 1 [a0, a1, a2, some (.int x), a4, a5, a6, a7, a8] S M = rn ca C_X0_reaches 2 [a0, a1, a2, some (.int x), a4, a5, a6, a7, a8] (.int x :: S) M := (rn_at k_X0_reaches_1).trans rfl
theorem k_X0_reaches_2 : lk 2 C_X0_reaches = some (.ishl, (0, 0, 0, 0)) := by decide +kernel
theorem s_X0_reaches_2 {ca : Nat → List Value → tM → tO} {M : tM} {L : tL} {x y : Int32} {S : List Value} : rn ca C_X0_reaches 2 L (.int y :: .int x :: S) M = rn ca C_X0_reaches 3 L (.int (x <<< (y &&& 31)) :: S) M := (rn_at k_X0_reaches_2).trans rfl
theorem k_X0_reaches_3 : lk 3 C_X0_reaches = some (.istore 6, (0, 0, 0, 0)) := by decide +kernel
theorem s_X0_reaches_3 {ca : Nat → List Value → tM → tO} {M : tM} {a0 a1 a2 a3 a4 a5 a6 a7 a8 : Option Value} {x : Int32} {S : List Value} : rn ca C_X0_reaches 3 [a0, a1, a2, a3, a4, a5, a6, a7, a8] (.int x :: S) M = rn ca C_X0_reaches 5 [a0, a1, a2, a3, a4, a5, some (.int x), a7, a8] S M := (rn_at k_X0_reaches_3).trans rfl
theorem k_X0_reaches_5 : lk 5 C_X0_reaches = some (.iconst 0, (0, 0, 0, 0)) := by decide +kernel
theorem s_X0_reaches_5 {ca : Nat → List Value → tM → tO} {M : tM} {L : tL} {S : List Value} : rn ca C_X0_reaches 5 L S M = rn ca C_X0_reaches 6 L (.int (iI 0) :: S) M := (rn_at k_X0_reaches_5).trans rfl
theorem k_X0_reaches_6 : lk 6 C_X0_reaches = some (.istore 7, (0, 0, 0, 0)) := by decide +kernel
theorem s_X0_reaches_6 {ca : Nat → List Value → tM → tO} {M : tM} {a0 a1 a2 a3 a4 a5 a6 a7 a8 : Option Value} {x : Int32} {S : List Value} : rn ca C_X0_reaches 6 [a0, a1, a2, a3, a4, a5, a6, a7, a8] (.int x :: S) M = rn ca C_X0_reaches 8 [a0, a1, a2, a3, a4, a5, a6, some (.int x), a8] S M := (rn_at k_X0_reaches_6).trans rfl
theorem k_X0_reaches_8 : lk 8 C_X0_reaches = some (.iload 7, (0, 0, 0, 0)) := by decide +kernel
theorem s_X0_reaches_8 {ca : Nat → List Value → tM → tO} {M : tM} {a0 a1 a2 a3 a4 a5 a6 a8 : Option Value} {x : Int32} {S : List Value} : rn ca C_X0_reaches 8 [a0, a1, a2, a3, a4, a5, a6, some (.int x), a8] S M = rn ca C_X0_reaches 10 [a0, a1, a2, a3, a4, a5, a6, some (.int x), a8] (.int x :: S) M := (rn_at k_X0_reaches_8).trans rfl
theorem k_X0_reaches_10 : lk 10 C_X0_reaches = some (.bipush 8, (0, 0, 0, 0)) := by decide +kernel
theorem s_X0_reaches_10 {ca : Nat → List Value → tM → tO} {M : tM} {L : tL} {S : List Value} : rn ca C_X0_reaches 10 L S M = rn ca C_X0_reaches 12 L (.int (iI 8) :: S) M := (rn_at k_X0_reaches_10).trans rfl
theorem k_X0_reaches_12 : lk 12 C_X0_reaches = some (.if_icmp .ge 122, (134, 0, 0, 0)) := by decide +kernel
theorem s_X0_reaches_12 {ca : Nat → List Value → tM → tO} {M : tM} {L : tL} {x y : Int32} {S : List Value} : rn ca C_X0_reaches 12 L (.int y :: .int x :: S) M = if y ≤ x then rn ca C_X0_reaches 134 L S M else rn ca C_X0_reaches 15 L S M := (rn_at k_X0_reaches_12).trans rnx_ite
theorem k_X0_reaches_15 : lk 15 C_X0_reaches = some (.iconst 0, (0, 0, 0, 0)) := by decide +kernel
theorem s_X0_reaches_15 {ca : Nat → List Value → tM → tO} {M : tM} {L : tL} {S : List Value} : rn ca C_X0_reaches 15 L S M = rn ca C_X0_reaches 16 L (.int (iI 0) :: S) M := (rn_at k_X0_reaches_15).trans rfl
theorem k_X0_reaches_16 : lk 16 C_X0_reaches = some (.istore 8, (0, 0, 0, 0)) := by decide +kernel
theorem s_X0_reaches_16 {ca : Nat → List Value → tM → tO} {M : tM} {a0 a1 a2 a3 a4 a5 a6 a7 a8 : Option Value} {x : Int32} {S : List Value} : rn ca C_X0_reaches 16 [a0, a1, a2, a3, a4, a5, a6, a7, a8] (.int x :: S) M = rn ca C_X0_reaches 18 [a0, a1, a2, a3, a4, a5, a6, a7, some (.int x)] S M := (rn_at k_X0_reaches_16).trans rfl
theorem k_X0_reaches_18 : lk 18 C_X0_reaches = some (.iload 8, (0, 0, 0, 0)) := by decide +kernel
theorem s_X0_reaches_18 {ca : Nat → List Value → tM → tO} {M : tM} {a0 a1 a2 a3 a4 a5 a6 a7 : Option Value} {x : Int32} {S : List Value} : rn ca C_X0_reaches 18 [a0, a1, a2, a3, a4, a5, a6, a7, some (.int x)] S M = rn ca C_X0_reaches 20 [a0, a1, a2, a3, a4, a5, a6, a7, some (.int x)] (.int x :: S) M := (rn_at k_X0_reaches_18).trans rfl
theorem k_X0_reaches_20 : lk 20 C_X0_reaches = some (.aload_n 1, (0, 0, 0, 0)) := by decide +kernel
theorem s_X0_reaches_20 {ca : Nat → List Value → tM → tO} {M : tM} {a0 a2 a3 a4 a5 a6 a7 a8 : Option Value} {x : Nat} {S : List Value} : rn ca C_X0_reaches 20 [a0, some (.ref x), a2, a3, a4, a5, a6, a7, a8] S M = rn ca C_X0_reaches 21 [a0, some (.ref x), a2, a3, a4, a5, a6, a7, a8] (.ref x :: S) M := (rn_at k_X0_reaches_20).trans rfl
theorem k_X0_reaches_21 : lk 21 C_X0_reaches = some (.getfield 18, (4, 2, 0, 100007)) := by decide +kernel
theorem s_X0_reaches_21 {ca : Nat → List Value → tM → tO} {M : tM} {L : tL} {b : Nat} {S : List Value} : rn ca C_X0_reaches 21 L (.ref b :: S) M = if clsO b = some 4 then rn ca C_X0_reaches 24 L (fv M b 2 :: S) M else none := (rn_at k_X0_reaches_21).trans rnx_ite
theorem k_X0_reaches_24 : lk 24 C_X0_reaches = some (.if_icmp .ge 104, (128, 0, 0, 0)) := by decide +kernel
theorem s_X0_reaches_24 {ca : Nat → List Value → tM → tO} {M : tM} {L : tL} {x y : Int32} {S : List Value} : rn ca C_X0_reaches 24 L (.int y :: .int x :: S) M = if y ≤ x then rn ca C_X0_reaches 128 L S M else rn ca C_X0_reaches 27 L S M := (rn_at k_X0_reaches_24).trans rnx_ite
theorem k_X0_reaches_27 : lk 27 C_X0_reaches = some (.iload 8, (0, 0, 0, 0)) := by decide +kernel
theorem s_X0_reaches_27 {ca : Nat → List Value → tM → tO} {M : tM} {a0 a1 a2 a3 a4 a5 a6 a7 : Option Value} {x : Int32} {S : List Value} : rn ca C_X0_reaches 27 [a0, a1, a2, a3, a4, a5, a6, a7, some (.int x)] S M = rn ca C_X0_reaches 29 [a0, a1, a2, a3, a4, a5, a6, a7, some (.int x)] (.int x :: S) M := (rn_at k_X0_reaches_27).trans rfl
theorem k_X0_reaches_29 : lk 29 C_X0_reaches = some (.bipush 16, (0, 0, 0, 0)) := by decide +kernel
theorem s_X0_reaches_29 {ca : Nat → List Value → tM → tO} {M : tM} {L : tL} {S : List Value} : rn ca C_X0_reaches 29 L S M = rn ca C_X0_reaches 31 L (.int (iI 16) :: S) M := (rn_at k_X0_reaches_29).trans rfl
theorem k_X0_reaches_31 : lk 31 C_X0_reaches = some (.if_icmp .ge 97, (128, 0, 0, 0)) := by decide +kernel
theorem s_X0_reaches_31 {ca : Nat → List Value → tM → tO} {M : tM} {L : tL} {x y : Int32} {S : List Value} : rn ca C_X0_reaches 31 L (.int y :: .int x :: S) M = if y ≤ x then rn ca C_X0_reaches 128 L S M else rn ca C_X0_reaches 34 L S M := (rn_at k_X0_reaches_31).trans rnx_ite
theorem k_X0_reaches_34 : lk 34 C_X0_reaches = some (.iload 8, (0, 0, 0, 0)) := by decide +kernel
theorem s_X0_reaches_34 {ca : Nat → List Value → tM → tO} {M : tM} {a0 a1 a2 a3 a4 a5 a6 a7 : Option Value} {x : Int32} {S : List Value} : rn ca C_X0_reaches 34 [a0, a1, a2, a3, a4, a5, a6, a7, some (.int x)] S M = rn ca C_X0_reaches 36 [a0, a1, a2, a3, a4, a5, a6, a7, some (.int x)] (.int x :: S) M := (rn_at k_X0_reaches_34).trans rfl
theorem k_X0_reaches_36 : lk 36 C_X0_reaches = some (.iload 5, (0, 0, 0, 0)) := by decide +kernel
theorem s_X0_reaches_36 {ca : Nat → List Value → tM → tO} {M : tM} {a0 a1 a2 a3 a4 a6 a7 a8 : Option Value} {x : Int32} {S : List Value} : rn ca C_X0_reaches 36 [a0, a1, a2, a3, a4, some (.int x), a6, a7, a8] S M = rn ca C_X0_reaches 38 [a0, a1, a2, a3, a4, some (.int x), a6, a7, a8] (.int x :: S) M := (rn_at k_X0_reaches_36).trans rfl
theorem k_X0_reaches_38 : lk 38 C_X0_reaches = some (.if_icmp .ne 6, (44, 0, 0, 0)) := by decide +kernel
theorem s_X0_reaches_38 {ca : Nat → List Value → tM → tO} {M : tM} {L : tL} {x y : Int32} {S : List Value} : rn ca C_X0_reaches 38 L (.int y :: .int x :: S) M = if ¬ x = y then rn ca C_X0_reaches 44 L S M else rn ca C_X0_reaches 41 L S M := (rn_at k_X0_reaches_38).trans rnx_ite
theorem k_X0_reaches_41 : lk 41 C_X0_reaches = some (.goto 81, (122, 0, 0, 0)) := by decide +kernel
theorem s_X0_reaches_41 {ca : Nat → List Value → tM → tO} {M : tM} {L : tL} {S : List Value} : rn ca C_X0_reaches 41 L S M = rn ca C_X0_reaches 122 L S M := (rn_at k_X0_reaches_41).trans rfl
theorem k_X0_reaches_44 : lk 44 C_X0_reaches = some (.aload_n 2, (0, 0, 0, 0)) := by decide +kernel
theorem s_X0_reaches_44 {ca : Nat → List Value → tM → tO} {M : tM} {a0 a1 a3 a4 a5 a6 a7 a8 : Option Value} {x : Nat} {S : List Value} : rn ca C_X0_reaches 44 [a0, a1, some (.ref x), a3, a4, a5, a6, a7, a8] S M = rn ca C_X0_reaches 45 [a0, a1, some (.ref x), a3, a4, a5, a6, a7, a8] (.ref x :: S) M := (rn_at k_X0_reaches_44).trans rfl
theorem k_X0_reaches_45 : lk 45 C_X0_reaches = some (.getfield 24, (9, 1, 0, 100038)) := by decide +kernel
theorem s_X0_reaches_45 {ca : Nat → List Value → tM → tO} {M : tM} {L : tL} {b : Nat} {S : List Value} : rn ca C_X0_reaches 45 L (.ref b :: S) M = if clsO b = some 9 then rn ca C_X0_reaches 48 L (fv M b 1 :: S) M else none := (rn_at k_X0_reaches_45).trans rnx_ite
theorem k_X0_reaches_48 : lk 48 C_X0_reaches = some (.iload 8, (0, 0, 0, 0)) := by decide +kernel
theorem s_X0_reaches_48 {ca : Nat → List Value → tM → tO} {M : tM} {a0 a1 a2 a3 a4 a5 a6 a7 : Option Value} {x : Int32} {S : List Value} : rn ca C_X0_reaches 48 [a0, a1, a2, a3, a4, a5, a6, a7, some (.int x)] S M = rn ca C_X0_reaches 50 [a0, a1, a2, a3, a4, a5, a6, a7, some (.int x)] (.int x :: S) M := (rn_at k_X0_reaches_48).trans rfl
theorem k_X0_reaches_50 : lk 50 C_X0_reaches = some (.baload, (0, 0, 0, 0)) := by decide +kernel
theorem s_X0_reaches_50 {ca : Nat → List Value → tM → tO} {M : tM} {L : tL} {a : Nat} {i : Int32} {S : List Value} : rn ca C_X0_reaches 50 L (.int i :: .ref a :: S) M = if akind a = 1 ∧ inb i (alen M a) then rn ca C_X0_reaches 51 L (.int (M.1 a i.toInt.toNat) :: S) M else none := (rn_at k_X0_reaches_50).trans rnx_ite
theorem k_X0_reaches_51 : lk 51 C_X0_reaches = some (.ifCond .eq 32, (83, 0, 0, 0)) := by decide +kernel
theorem s_X0_reaches_51 {ca : Nat → List Value → tM → tO} {M : tM} {L : tL} {x : Int32} {S : List Value} : rn ca C_X0_reaches 51 L (.int x :: S) M = if x = iI 0 then rn ca C_X0_reaches 83 L S M else rn ca C_X0_reaches 54 L S M := (rn_at k_X0_reaches_51).trans rnx_ite
theorem k_X0_reaches_54 : lk 54 C_X0_reaches = some (.iload 6, (0, 0, 0, 0)) := by decide +kernel
theorem s_X0_reaches_54 {ca : Nat → List Value → tM → tO} {M : tM} {a0 a1 a2 a3 a4 a5 a7 a8 : Option Value} {x : Int32} {S : List Value} : rn ca C_X0_reaches 54 [a0, a1, a2, a3, a4, a5, some (.int x), a7, a8] S M = rn ca C_X0_reaches 56 [a0, a1, a2, a3, a4, a5, some (.int x), a7, a8] (.int x :: S) M := (rn_at k_X0_reaches_54).trans rfl
theorem k_X0_reaches_56 : lk 56 C_X0_reaches = some (.iconst 1, (0, 0, 0, 0)) := by decide +kernel
theorem s_X0_reaches_56 {ca : Nat → List Value → tM → tO} {M : tM} {L : tL} {S : List Value} : rn ca C_X0_reaches 56 L S M = rn ca C_X0_reaches 57 L (.int (iI 1) :: S) M := (rn_at k_X0_reaches_56).trans rfl
theorem k_X0_reaches_57 : lk 57 C_X0_reaches = some (.aload_n 1, (0, 0, 0, 0)) := by decide +kernel
theorem s_X0_reaches_57 {ca : Nat → List Value → tM → tO} {M : tM} {a0 a2 a3 a4 a5 a6 a7 a8 : Option Value} {x : Nat} {S : List Value} : rn ca C_X0_reaches 57 [a0, some (.ref x), a2, a3, a4, a5, a6, a7, a8] S M = rn ca C_X0_reaches 58 [a0, some (.ref x), a2, a3, a4, a5, a6, a7, a8] (.ref x :: S) M := (rn_at k_X0_reaches_57).trans rfl
theorem k_X0_reaches_58 : lk 58 C_X0_reaches = some (.getfield 30, (4, 3, 0, 100011)) := by decide +kernel
theorem s_X0_reaches_58 {ca : Nat → List Value → tM → tO} {M : tM} {L : tL} {b : Nat} {S : List Value} : rn ca C_X0_reaches 58 L (.ref b :: S) M = if clsO b = some 4 then rn ca C_X0_reaches 61 L (fv M b 3 :: S) M else none := (rn_at k_X0_reaches_58).trans rnx_ite
theorem k_X0_reaches_61 : lk 61 C_X0_reaches = some (.iload 8, (0, 0, 0, 0)) := by decide +kernel
theorem s_X0_reaches_61 {ca : Nat → List Value → tM → tO} {M : tM} {a0 a1 a2 a3 a4 a5 a6 a7 : Option Value} {x : Int32} {S : List Value} : rn ca C_X0_reaches 61 [a0, a1, a2, a3, a4, a5, a6, a7, some (.int x)] S M = rn ca C_X0_reaches 63 [a0, a1, a2, a3, a4, a5, a6, a7, some (.int x)] (.int x :: S) M := (rn_at k_X0_reaches_61).trans rfl
theorem k_X0_reaches_63 : lk 63 C_X0_reaches = some (.iaload, (0, 0, 0, 0)) := by decide +kernel
theorem s_X0_reaches_63 {ca : Nat → List Value → tM → tO} {M : tM} {L : tL} {a : Nat} {i : Int32} {S : List Value} : rn ca C_X0_reaches 63 L (.int i :: .ref a :: S) M = if (akind a = 0 ∨ akind a = 6 ∨ akind a = 7) ∧ inb i (alen M a) then rn ca C_X0_reaches 64 L (.int (M.1 a i.toInt.toNat) :: S) M else none := (rn_at k_X0_reaches_63).trans rnx_ite
theorem k_X0_reaches_64 : lk 64 C_X0_reaches = some (.ishl, (0, 0, 0, 0)) := by decide +kernel
theorem s_X0_reaches_64 {ca : Nat → List Value → tM → tO} {M : tM} {L : tL} {x y : Int32} {S : List Value} : rn ca C_X0_reaches 64 L (.int y :: .int x :: S) M = rn ca C_X0_reaches 65 L (.int (x <<< (y &&& 31)) :: S) M := (rn_at k_X0_reaches_64).trans rfl
theorem k_X0_reaches_65 : lk 65 C_X0_reaches = some (.iand, (0, 0, 0, 0)) := by decide +kernel
theorem s_X0_reaches_65 {ca : Nat → List Value → tM → tO} {M : tM} {L : tL} {x y : Int32} {S : List Value} : rn ca C_X0_reaches 65 L (.int y :: .int x :: S) M = rn ca C_X0_reaches 66 L (.int (x &&& y) :: S) M := (rn_at k_X0_reaches_65).trans rfl
theorem k_X0_reaches_66 : lk 66 C_X0_reaches = some (.ifCond .eq 17, (83, 0, 0, 0)) := by decide +kernel
theorem s_X0_reaches_66 {ca : Nat → List Value → tM → tO} {M : tM} {L : tL} {x : Int32} {S : List Value} : rn ca C_X0_reaches 66 L (.int x :: S) M = if x = iI 0 then rn ca C_X0_reaches 83 L S M else rn ca C_X0_reaches 69 L S M := (rn_at k_X0_reaches_66).trans rnx_ite
theorem k_X0_reaches_69 : lk 69 C_X0_reaches = some (.iload 6, (0, 0, 0, 0)) := by decide +kernel
theorem s_X0_reaches_69 {ca : Nat → List Value → tM → tO} {M : tM} {a0 a1 a2 a3 a4 a5 a7 a8 : Option Value} {x : Int32} {S : List Value} : rn ca C_X0_reaches 69 [a0, a1, a2, a3, a4, a5, some (.int x), a7, a8] S M = rn ca C_X0_reaches 71 [a0, a1, a2, a3, a4, a5, some (.int x), a7, a8] (.int x :: S) M := (rn_at k_X0_reaches_69).trans rfl
theorem k_X0_reaches_71 : lk 71 C_X0_reaches = some (.iconst 1, (0, 0, 0, 0)) := by decide +kernel
theorem s_X0_reaches_71 {ca : Nat → List Value → tM → tO} {M : tM} {L : tL} {S : List Value} : rn ca C_X0_reaches 71 L S M = rn ca C_X0_reaches 72 L (.int (iI 1) :: S) M := (rn_at k_X0_reaches_71).trans rfl
theorem k_X0_reaches_72 : lk 72 C_X0_reaches = some (.aload_n 1, (0, 0, 0, 0)) := by decide +kernel
theorem s_X0_reaches_72 {ca : Nat → List Value → tM → tO} {M : tM} {a0 a2 a3 a4 a5 a6 a7 a8 : Option Value} {x : Nat} {S : List Value} : rn ca C_X0_reaches 72 [a0, some (.ref x), a2, a3, a4, a5, a6, a7, a8] S M = rn ca C_X0_reaches 73 [a0, some (.ref x), a2, a3, a4, a5, a6, a7, a8] (.ref x :: S) M := (rn_at k_X0_reaches_72).trans rfl
theorem k_X0_reaches_73 : lk 73 C_X0_reaches = some (.getfield 33, (4, 4, 0, 100016)) := by decide +kernel
theorem s_X0_reaches_73 {ca : Nat → List Value → tM → tO} {M : tM} {L : tL} {b : Nat} {S : List Value} : rn ca C_X0_reaches 73 L (.ref b :: S) M = if clsO b = some 4 then rn ca C_X0_reaches 76 L (fv M b 4 :: S) M else none := (rn_at k_X0_reaches_73).trans rnx_ite
theorem k_X0_reaches_76 : lk 76 C_X0_reaches = some (.iload 8, (0, 0, 0, 0)) := by decide +kernel
theorem s_X0_reaches_76 {ca : Nat → List Value → tM → tO} {M : tM} {a0 a1 a2 a3 a4 a5 a6 a7 : Option Value} {x : Int32} {S : List Value} : rn ca C_X0_reaches 76 [a0, a1, a2, a3, a4, a5, a6, a7, some (.int x)] S M = rn ca C_X0_reaches 78 [a0, a1, a2, a3, a4, a5, a6, a7, some (.int x)] (.int x :: S) M := (rn_at k_X0_reaches_76).trans rfl
theorem k_X0_reaches_78 : lk 78 C_X0_reaches = some (.iaload, (0, 0, 0, 0)) := by decide +kernel
theorem s_X0_reaches_78 {ca : Nat → List Value → tM → tO} {M : tM} {L : tL} {a : Nat} {i : Int32} {S : List Value} : rn ca C_X0_reaches 78 L (.int i :: .ref a :: S) M = if (akind a = 0 ∨ akind a = 6 ∨ akind a = 7) ∧ inb i (alen M a) then rn ca C_X0_reaches 79 L (.int (M.1 a i.toInt.toNat) :: S) M else none := (rn_at k_X0_reaches_78).trans rnx_ite
theorem k_X0_reaches_79 : lk 79 C_X0_reaches = some (.ishl, (0, 0, 0, 0)) := by decide +kernel
theorem s_X0_reaches_79 {ca : Nat → List Value → tM → tO} {M : tM} {L : tL} {x y : Int32} {S : List Value} : rn ca C_X0_reaches 79 L (.int y :: .int x :: S) M = rn ca C_X0_reaches 80 L (.int (x <<< (y &&& 31)) :: S) M := (rn_at k_X0_reaches_79).trans rfl
theorem k_X0_reaches_80 : lk 80 C_X0_reaches = some (.ior, (0, 0, 0, 0)) := by decide +kernel
theorem s_X0_reaches_80 {ca : Nat → List Value → tM → tO} {M : tM} {L : tL} {x y : Int32} {S : List Value} : rn ca C_X0_reaches 80 L (.int y :: .int x :: S) M = rn ca C_X0_reaches 81 L (.int (x ||| y) :: S) M := (rn_at k_X0_reaches_80).trans rfl
theorem k_X0_reaches_81 : lk 81 C_X0_reaches = some (.istore 6, (0, 0, 0, 0)) := by decide +kernel
theorem s_X0_reaches_81 {ca : Nat → List Value → tM → tO} {M : tM} {a0 a1 a2 a3 a4 a5 a6 a7 a8 : Option Value} {x : Int32} {S : List Value} : rn ca C_X0_reaches 81 [a0, a1, a2, a3, a4, a5, a6, a7, a8] (.int x :: S) M = rn ca C_X0_reaches 83 [a0, a1, a2, a3, a4, a5, some (.int x), a7, a8] S M := (rn_at k_X0_reaches_81).trans rfl
theorem k_X0_reaches_83 : lk 83 C_X0_reaches = some (.aload_n 2, (0, 0, 0, 0)) := by decide +kernel
theorem s_X0_reaches_83 {ca : Nat → List Value → tM → tO} {M : tM} {a0 a1 a3 a4 a5 a6 a7 a8 : Option Value} {x : Nat} {S : List Value} : rn ca C_X0_reaches 83 [a0, a1, some (.ref x), a3, a4, a5, a6, a7, a8] S M = rn ca C_X0_reaches 84 [a0, a1, some (.ref x), a3, a4, a5, a6, a7, a8] (.ref x :: S) M := (rn_at k_X0_reaches_83).trans rfl
theorem k_X0_reaches_84 : lk 84 C_X0_reaches = some (.getfield 36, (9, 2, 0, 100039)) := by decide +kernel
theorem s_X0_reaches_84 {ca : Nat → List Value → tM → tO} {M : tM} {L : tL} {b : Nat} {S : List Value} : rn ca C_X0_reaches 84 L (.ref b :: S) M = if clsO b = some 9 then rn ca C_X0_reaches 87 L (fv M b 2 :: S) M else none := (rn_at k_X0_reaches_84).trans rnx_ite
theorem k_X0_reaches_87 : lk 87 C_X0_reaches = some (.iload 8, (0, 0, 0, 0)) := by decide +kernel
theorem s_X0_reaches_87 {ca : Nat → List Value → tM → tO} {M : tM} {a0 a1 a2 a3 a4 a5 a6 a7 : Option Value} {x : Int32} {S : List Value} : rn ca C_X0_reaches 87 [a0, a1, a2, a3, a4, a5, a6, a7, some (.int x)] S M = rn ca C_X0_reaches 89 [a0, a1, a2, a3, a4, a5, a6, a7, some (.int x)] (.int x :: S) M := (rn_at k_X0_reaches_87).trans rfl
theorem k_X0_reaches_89 : lk 89 C_X0_reaches = some (.baload, (0, 0, 0, 0)) := by decide +kernel
theorem s_X0_reaches_89 {ca : Nat → List Value → tM → tO} {M : tM} {L : tL} {a : Nat} {i : Int32} {S : List Value} : rn ca C_X0_reaches 89 L (.int i :: .ref a :: S) M = if akind a = 1 ∧ inb i (alen M a) then rn ca C_X0_reaches 90 L (.int (M.1 a i.toInt.toNat) :: S) M else none := (rn_at k_X0_reaches_89).trans rnx_ite
theorem k_X0_reaches_90 : lk 90 C_X0_reaches = some (.ifCond .eq 32, (122, 0, 0, 0)) := by decide +kernel
theorem s_X0_reaches_90 {ca : Nat → List Value → tM → tO} {M : tM} {L : tL} {x : Int32} {S : List Value} : rn ca C_X0_reaches 90 L (.int x :: S) M = if x = iI 0 then rn ca C_X0_reaches 122 L S M else rn ca C_X0_reaches 93 L S M := (rn_at k_X0_reaches_90).trans rnx_ite
theorem k_X0_reaches_93 : lk 93 C_X0_reaches = some (.iload 6, (0, 0, 0, 0)) := by decide +kernel
theorem s_X0_reaches_93 {ca : Nat → List Value → tM → tO} {M : tM} {a0 a1 a2 a3 a4 a5 a7 a8 : Option Value} {x : Int32} {S : List Value} : rn ca C_X0_reaches 93 [a0, a1, a2, a3, a4, a5, some (.int x), a7, a8] S M = rn ca C_X0_reaches 95 [a0, a1, a2, a3, a4, a5, some (.int x), a7, a8] (.int x :: S) M := (rn_at k_X0_reaches_93).trans rfl
theorem k_X0_reaches_95 : lk 95 C_X0_reaches = some (.iconst 1, (0, 0, 0, 0)) := by decide +kernel
theorem s_X0_reaches_95 {ca : Nat → List Value → tM → tO} {M : tM} {L : tL} {S : List Value} : rn ca C_X0_reaches 95 L S M = rn ca C_X0_reaches 96 L (.int (iI 1) :: S) M := (rn_at k_X0_reaches_95).trans rfl
theorem k_X0_reaches_96 : lk 96 C_X0_reaches = some (.aload_n 1, (0, 0, 0, 0)) := by decide +kernel
theorem s_X0_reaches_96 {ca : Nat → List Value → tM → tO} {M : tM} {a0 a2 a3 a4 a5 a6 a7 a8 : Option Value} {x : Nat} {S : List Value} : rn ca C_X0_reaches 96 [a0, some (.ref x), a2, a3, a4, a5, a6, a7, a8] S M = rn ca C_X0_reaches 97 [a0, some (.ref x), a2, a3, a4, a5, a6, a7, a8] (.ref x :: S) M := (rn_at k_X0_reaches_96).trans rfl
theorem k_X0_reaches_97 : lk 97 C_X0_reaches = some (.getfield 33, (4, 4, 0, 100016)) := by decide +kernel
theorem s_X0_reaches_97 {ca : Nat → List Value → tM → tO} {M : tM} {L : tL} {b : Nat} {S : List Value} : rn ca C_X0_reaches 97 L (.ref b :: S) M = if clsO b = some 4 then rn ca C_X0_reaches 100 L (fv M b 4 :: S) M else none := (rn_at k_X0_reaches_97).trans rnx_ite
theorem k_X0_reaches_100 : lk 100 C_X0_reaches = some (.iload 8, (0, 0, 0, 0)) := by decide +kernel
theorem s_X0_reaches_100 {ca : Nat → List Value → tM → tO} {M : tM} {a0 a1 a2 a3 a4 a5 a6 a7 : Option Value} {x : Int32} {S : List Value} : rn ca C_X0_reaches 100 [a0, a1, a2, a3, a4, a5, a6, a7, some (.int x)] S M = rn ca C_X0_reaches 102 [a0, a1, a2, a3, a4, a5, a6, a7, some (.int x)] (.int x :: S) M := (rn_at k_X0_reaches_100).trans rfl
theorem k_X0_reaches_102 : lk 102 C_X0_reaches = some (.iaload, (0, 0, 0, 0)) := by decide +kernel
theorem s_X0_reaches_102 {ca : Nat → List Value → tM → tO} {M : tM} {L : tL} {a : Nat} {i : Int32} {S : List Value} : rn ca C_X0_reaches 102 L (.int i :: .ref a :: S) M = if (akind a = 0 ∨ akind a = 6 ∨ akind a = 7) ∧ inb i (alen M a) then rn ca C_X0_reaches 103 L (.int (M.1 a i.toInt.toNat) :: S) M else none := (rn_at k_X0_reaches_102).trans rnx_ite
theorem k_X0_reaches_103 : lk 103 C_X0_reaches = some (.ishl, (0, 0, 0, 0)) := by decide +kernel
theorem s_X0_reaches_103 {ca : Nat → List Value → tM → tO} {M : tM} {L : tL} {x y : Int32} {S : List Value} : rn ca C_X0_reaches 103 L (.int y :: .int x :: S) M = rn ca C_X0_reaches 104 L (.int (x <<< (y &&& 31)) :: S) M := (rn_at k_X0_reaches_103).trans rfl
theorem k_X0_reaches_104 : lk 104 C_X0_reaches = some (.iand, (0, 0, 0, 0)) := by decide +kernel
theorem s_X0_reaches_104 {ca : Nat → List Value → tM → tO} {M : tM} {L : tL} {x y : Int32} {S : List Value} : rn ca C_X0_reaches 104 L (.int y :: .int x :: S) M = rn ca C_X0_reaches 105 L (.int (x &&& y) :: S) M := (rn_at k_X0_reaches_104).trans rfl
theorem k_X0_reaches_105 : lk 105 C_X0_reaches = some (.ifCond .eq 17, (122, 0, 0, 0)) := by decide +kernel
theorem s_X0_reaches_105 {ca : Nat → List Value → tM → tO} {M : tM} {L : tL} {x : Int32} {S : List Value} : rn ca C_X0_reaches 105 L (.int x :: S) M = if x = iI 0 then rn ca C_X0_reaches 122 L S M else rn ca C_X0_reaches 108 L S M := (rn_at k_X0_reaches_105).trans rnx_ite
theorem k_X0_reaches_108 : lk 108 C_X0_reaches = some (.iload 6, (0, 0, 0, 0)) := by decide +kernel
theorem s_X0_reaches_108 {ca : Nat → List Value → tM → tO} {M : tM} {a0 a1 a2 a3 a4 a5 a7 a8 : Option Value} {x : Int32} {S : List Value} : rn ca C_X0_reaches 108 [a0, a1, a2, a3, a4, a5, some (.int x), a7, a8] S M = rn ca C_X0_reaches 110 [a0, a1, a2, a3, a4, a5, some (.int x), a7, a8] (.int x :: S) M := (rn_at k_X0_reaches_108).trans rfl
theorem k_X0_reaches_110 : lk 110 C_X0_reaches = some (.iconst 1, (0, 0, 0, 0)) := by decide +kernel
theorem s_X0_reaches_110 {ca : Nat → List Value → tM → tO} {M : tM} {L : tL} {S : List Value} : rn ca C_X0_reaches 110 L S M = rn ca C_X0_reaches 111 L (.int (iI 1) :: S) M := (rn_at k_X0_reaches_110).trans rfl
theorem k_X0_reaches_111 : lk 111 C_X0_reaches = some (.aload_n 1, (0, 0, 0, 0)) := by decide +kernel
theorem s_X0_reaches_111 {ca : Nat → List Value → tM → tO} {M : tM} {a0 a2 a3 a4 a5 a6 a7 a8 : Option Value} {x : Nat} {S : List Value} : rn ca C_X0_reaches 111 [a0, some (.ref x), a2, a3, a4, a5, a6, a7, a8] S M = rn ca C_X0_reaches 112 [a0, some (.ref x), a2, a3, a4, a5, a6, a7, a8] (.ref x :: S) M := (rn_at k_X0_reaches_111).trans rfl
theorem k_X0_reaches_112 : lk 112 C_X0_reaches = some (.getfield 30, (4, 3, 0, 100011)) := by decide +kernel
theorem s_X0_reaches_112 {ca : Nat → List Value → tM → tO} {M : tM} {L : tL} {b : Nat} {S : List Value} : rn ca C_X0_reaches 112 L (.ref b :: S) M = if clsO b = some 4 then rn ca C_X0_reaches 115 L (fv M b 3 :: S) M else none := (rn_at k_X0_reaches_112).trans rnx_ite
theorem k_X0_reaches_115 : lk 115 C_X0_reaches = some (.iload 8, (0, 0, 0, 0)) := by decide +kernel
theorem s_X0_reaches_115 {ca : Nat → List Value → tM → tO} {M : tM} {a0 a1 a2 a3 a4 a5 a6 a7 : Option Value} {x : Int32} {S : List Value} : rn ca C_X0_reaches 115 [a0, a1, a2, a3, a4, a5, a6, a7, some (.int x)] S M = rn ca C_X0_reaches 117 [a0, a1, a2, a3, a4, a5, a6, a7, some (.int x)] (.int x :: S) M := (rn_at k_X0_reaches_115).trans rfl
theorem k_X0_reaches_117 : lk 117 C_X0_reaches = some (.iaload, (0, 0, 0, 0)) := by decide +kernel
theorem s_X0_reaches_117 {ca : Nat → List Value → tM → tO} {M : tM} {L : tL} {a : Nat} {i : Int32} {S : List Value} : rn ca C_X0_reaches 117 L (.int i :: .ref a :: S) M = if (akind a = 0 ∨ akind a = 6 ∨ akind a = 7) ∧ inb i (alen M a) then rn ca C_X0_reaches 118 L (.int (M.1 a i.toInt.toNat) :: S) M else none := (rn_at k_X0_reaches_117).trans rnx_ite
theorem k_X0_reaches_118 : lk 118 C_X0_reaches = some (.ishl, (0, 0, 0, 0)) := by decide +kernel
theorem s_X0_reaches_118 {ca : Nat → List Value → tM → tO} {M : tM} {L : tL} {x y : Int32} {S : List Value} : rn ca C_X0_reaches 118 L (.int y :: .int x :: S) M = rn ca C_X0_reaches 119 L (.int (x <<< (y &&& 31)) :: S) M := (rn_at k_X0_reaches_118).trans rfl
theorem k_X0_reaches_119 : lk 119 C_X0_reaches = some (.ior, (0, 0, 0, 0)) := by decide +kernel
theorem s_X0_reaches_119 {ca : Nat → List Value → tM → tO} {M : tM} {L : tL} {x y : Int32} {S : List Value} : rn ca C_X0_reaches 119 L (.int y :: .int x :: S) M = rn ca C_X0_reaches 120 L (.int (x ||| y) :: S) M := (rn_at k_X0_reaches_119).trans rfl
theorem k_X0_reaches_120 : lk 120 C_X0_reaches = some (.istore 6, (0, 0, 0, 0)) := by decide +kernel
theorem s_X0_reaches_120 {ca : Nat → List Value → tM → tO} {M : tM} {a0 a1 a2 a3 a4 a5 a6 a7 a8 : Option Value} {x : Int32} {S : List Value} : rn ca C_X0_reaches 120 [a0, a1, a2, a3, a4, a5, a6, a7, a8] (.int x :: S) M = rn ca C_X0_reaches 122 [a0, a1, a2, a3, a4, a5, some (.int x), a7, a8] S M := (rn_at k_X0_reaches_120).trans rfl
theorem k_X0_reaches_122 : lk 122 C_X0_reaches = some (.iinc 8 1, (0, 0, 0, 0)) := by decide +kernel
theorem s_X0_reaches_122 {ca : Nat → List Value → tM → tO} {M : tM} {a0 a1 a2 a3 a4 a5 a6 a7 : Option Value} {x : Int32} {S : List Value} : rn ca C_X0_reaches 122 [a0, a1, a2, a3, a4, a5, a6, a7, some (.int x)] S M = rn ca C_X0_reaches 125 [a0, a1, a2, a3, a4, a5, a6, a7, some (.int (x + iI 1))] S M := (rn_at k_X0_reaches_122).trans rfl
theorem k_X0_reaches_125 : lk 125 C_X0_reaches = some (.goto (-107), (18, 0, 0, 0)) := by decide +kernel
theorem s_X0_reaches_125 {ca : Nat → List Value → tM → tO} {M : tM} {L : tL} {S : List Value} : rn ca C_X0_reaches 125 L S M = rn ca C_X0_reaches 18 L S M := (rn_at k_X0_reaches_125).trans rfl
theorem k_X0_reaches_128 : lk 128 C_X0_reaches = some (.iinc 7 1, (0, 0, 0, 0)) := by decide +kernel
theorem s_X0_reaches_128 {ca : Nat → List Value → tM → tO} {M : tM} {a0 a1 a2 a3 a4 a5 a6 a8 : Option Value} {x : Int32} {S : List Value} : rn ca C_X0_reaches 128 [a0, a1, a2, a3, a4, a5, a6, some (.int x), a8] S M = rn ca C_X0_reaches 131 [a0, a1, a2, a3, a4, a5, a6, some (.int (x + iI 1)), a8] S M := (rn_at k_X0_reaches_128).trans rfl
theorem k_X0_reaches_131 : lk 131 C_X0_reaches = some (.goto (-123), (8, 0, 0, 0)) := by decide +kernel
theorem s_X0_reaches_131 {ca : Nat → List Value → tM → tO} {M : tM} {L : tL} {S : List Value} : rn ca C_X0_reaches 131 L S M = rn ca C_X0_reaches 8 L S M := (rn_at k_X0_reaches_131).trans rfl
theorem k_X0_reaches_134 : lk 134 C_X0_reaches = some (.iload 6, (0, 0, 0, 0)) := by decide +kernel
theorem s_X0_reaches_134 {ca : Nat → List Value → tM → tO} {M : tM} {a0 a1 a2 a3 a4 a5 a7 a8 : Option Value} {x : Int32} {S : List Value} : rn ca C_X0_reaches 134 [a0, a1, a2, a3, a4, a5, some (.int x), a7, a8] S M = rn ca C_X0_reaches 136 [a0, a1, a2, a3, a4, a5, some (.int x), a7, a8] (.int x :: S) M := (rn_at k_X0_reaches_134).trans rfl
theorem k_X0_reaches_136 : lk 136 C_X0_reaches = some (.iconst 1, (0, 0, 0, 0)) := by decide +kernel
theorem s_X0_reaches_136 {ca : Nat → List Value → tM → tO} {M : tM} {L : tL} {S : List Value} : rn ca C_X0_reaches 136 L S M = rn ca C_X0_reaches 137 L (.int (iI 1) :: S) M := (rn_at k_X0_reaches_136).trans rfl
theorem k_X0_reaches_137 : lk 137 C_X0_reaches = some (.iload 4, (0, 0, 0, 0)) := by decide +kernel
theorem s_X0_reaches_137 {ca : Nat → List Value → tM → tO} {M : tM} {a0 a1 a2 a3 a5 a6 a7 a8 : Option Value} {x : Int32} {S : List Value} : rn ca C_X0_reaches 137 [a0, a1, a2, a3, some (.int x), a5, a6, a7, a8] S M = rn ca C_X0_reaches 139 [a0, a1, a2, a3, some (.int x), a5, a6, a7, a8] (.int x :: S) M := (rn_at k_X0_reaches_137).trans rfl
theorem k_X0_reaches_139 : lk 139 C_X0_reaches = some (.ishl, (0, 0, 0, 0)) := by decide +kernel
theorem s_X0_reaches_139 {ca : Nat → List Value → tM → tO} {M : tM} {L : tL} {x y : Int32} {S : List Value} : rn ca C_X0_reaches 139 L (.int y :: .int x :: S) M = rn ca C_X0_reaches 140 L (.int (x <<< (y &&& 31)) :: S) M := (rn_at k_X0_reaches_139).trans rfl
theorem k_X0_reaches_140 : lk 140 C_X0_reaches = some (.iand, (0, 0, 0, 0)) := by decide +kernel
theorem s_X0_reaches_140 {ca : Nat → List Value → tM → tO} {M : tM} {L : tL} {x y : Int32} {S : List Value} : rn ca C_X0_reaches 140 L (.int y :: .int x :: S) M = rn ca C_X0_reaches 141 L (.int (x &&& y) :: S) M := (rn_at k_X0_reaches_140).trans rfl
theorem k_X0_reaches_141 : lk 141 C_X0_reaches = some (.ifCond .eq 7, (148, 0, 0, 0)) := by decide +kernel
theorem s_X0_reaches_141 {ca : Nat → List Value → tM → tO} {M : tM} {L : tL} {x : Int32} {S : List Value} : rn ca C_X0_reaches 141 L (.int x :: S) M = if x = iI 0 then rn ca C_X0_reaches 148 L S M else rn ca C_X0_reaches 144 L S M := (rn_at k_X0_reaches_141).trans rnx_ite
theorem k_X0_reaches_144 : lk 144 C_X0_reaches = some (.iconst 1, (0, 0, 0, 0)) := by decide +kernel
theorem s_X0_reaches_144 {ca : Nat → List Value → tM → tO} {M : tM} {L : tL} {S : List Value} : rn ca C_X0_reaches 144 L S M = rn ca C_X0_reaches 145 L (.int (iI 1) :: S) M := (rn_at k_X0_reaches_144).trans rfl
theorem k_X0_reaches_145 : lk 145 C_X0_reaches = some (.goto 4, (149, 0, 0, 0)) := by decide +kernel
theorem s_X0_reaches_145 {ca : Nat → List Value → tM → tO} {M : tM} {L : tL} {S : List Value} : rn ca C_X0_reaches 145 L S M = rn ca C_X0_reaches 149 L S M := (rn_at k_X0_reaches_145).trans rfl
theorem k_X0_reaches_148 : lk 148 C_X0_reaches = some (.iconst 0, (0, 0, 0, 0)) := by decide +kernel
theorem s_X0_reaches_148 {ca : Nat → List Value → tM → tO} {M : tM} {L : tL} {S : List Value} : rn ca C_X0_reaches 148 L S M = rn ca C_X0_reaches 149 L (.int (iI 0) :: S) M := (rn_at k_X0_reaches_148).trans rfl
theorem k_X0_reaches_149 : lk 149 C_X0_reaches = some (.ireturn, (1, 0, 0, 0)) := by decide +kernel
theorem s_X0_reaches_149 {ca : Nat → List Value → tM → tO} {M : tM} {L : tL} {x : Int32} : rn ca C_X0_reaches 149 L [.int x] M = if x = iI 0 ∨ x = iI 1 then some (some (.int x), M) else none := (rn_at k_X0_reaches_149).trans rnx_ite
theorem k_X0_neededTubes_0 : lk 0 C_X0_neededTubes = some (.iconst 0, (0, 0, 0, 0)) := by decide +kernel
theorem s_X0_neededTubes_0 {ca : Nat → List Value → tM → tO} {M : tM} {L : tL} {S : List Value} : rn ca C_X0_neededTubes 0 L S M = rn ca C_X0_neededTubes 1 L (.int (iI 0) :: S) M := (rn_at k_X0_neededTubes_0).trans rfl
theorem k_X0_neededTubes_1 : lk 1 C_X0_neededTubes = some (.istore 5, (0, 0, 0, 0)) := by decide +kernel
theorem s_X0_neededTubes_1 {ca : Nat → List Value → tM → tO} {M : tM} {a0 a1 a2 a3 a4 a5 a6 : Option Value} {x : Int32} {S : List Value} : rn ca C_X0_neededTubes 1 [a0, a1, a2, a3, a4, a5, a6] (.int x :: S) M = rn ca C_X0_neededTubes 3 [a0, a1, a2, a3, a4, some (.int x), a6] S M := (rn_at k_X0_neededTubes_1).trans rfl
theorem k_X0_neededTubes_3 : lk 3 C_X0_neededTubes = some (.iconst 0, (0, 0, 0, 0)) := by decide +kernel
theorem s_X0_neededTubes_3 {ca : Nat → List Value → tM → tO} {M : tM} {L : tL} {S : List Value} : rn ca C_X0_neededTubes 3 L S M = rn ca C_X0_neededTubes 4 L (.int (iI 0) :: S) M := (rn_at k_X0_neededTubes_3).trans rfl
theorem k_X0_neededTubes_4 : lk 4 C_X0_neededTubes = some (.istore 6, (0, 0, 0, 0)) := by decide +kernel
theorem s_X0_neededTubes_4 {ca : Nat → List Value → tM → tO} {M : tM} {a0 a1 a2 a3 a4 a5 a6 : Option Value} {x : Int32} {S : List Value} : rn ca C_X0_neededTubes 4 [a0, a1, a2, a3, a4, a5, a6] (.int x :: S) M = rn ca C_X0_neededTubes 6 [a0, a1, a2, a3, a4, a5, some (.int x)] S M := (rn_at k_X0_neededTubes_4).trans rfl
theorem k_X0_neededTubes_6 : lk 6 C_X0_neededTubes = some (.iload 6, (0, 0, 0, 0)) := by decide +kernel
theorem s_X0_neededTubes_6 {ca : Nat → List Value → tM → tO} {M : tM} {a0 a1 a2 a3 a4 a5 : Option Value} {x : Int32} {S : List Value} : rn ca C_X0_neededTubes 6 [a0, a1, a2, a3, a4, a5, some (.int x)] S M = rn ca C_X0_neededTubes 8 [a0, a1, a2, a3, a4, a5, some (.int x)] (.int x :: S) M := (rn_at k_X0_neededTubes_6).trans rfl
theorem k_X0_neededTubes_8 : lk 8 C_X0_neededTubes = some (.aload_n 1, (0, 0, 0, 0)) := by decide +kernel
theorem s_X0_neededTubes_8 {ca : Nat → List Value → tM → tO} {M : tM} {a0 a2 a3 a4 a5 a6 : Option Value} {x : Nat} {S : List Value} : rn ca C_X0_neededTubes 8 [a0, some (.ref x), a2, a3, a4, a5, a6] S M = rn ca C_X0_neededTubes 9 [a0, some (.ref x), a2, a3, a4, a5, a6] (.ref x :: S) M := (rn_at k_X0_neededTubes_8).trans rfl
theorem k_X0_neededTubes_9 : lk 9 C_X0_neededTubes = some (.getfield 18, (4, 2, 0, 100007)) := by decide +kernel
theorem s_X0_neededTubes_9 {ca : Nat → List Value → tM → tO} {M : tM} {L : tL} {b : Nat} {S : List Value} : rn ca C_X0_neededTubes 9 L (.ref b :: S) M = if clsO b = some 4 then rn ca C_X0_neededTubes 12 L (fv M b 2 :: S) M else none := (rn_at k_X0_neededTubes_9).trans rnx_ite
theorem k_X0_neededTubes_12 : lk 12 C_X0_neededTubes = some (.if_icmp .ge 39, (51, 0, 0, 0)) := by decide +kernel
theorem s_X0_neededTubes_12 {ca : Nat → List Value → tM → tO} {M : tM} {L : tL} {x y : Int32} {S : List Value} : rn ca C_X0_neededTubes 12 L (.int y :: .int x :: S) M = if y ≤ x then rn ca C_X0_neededTubes 51 L S M else rn ca C_X0_neededTubes 15 L S M := (rn_at k_X0_neededTubes_12).trans rnx_ite
theorem k_X0_neededTubes_15 : lk 15 C_X0_neededTubes = some (.iload 6, (0, 0, 0, 0)) := by decide +kernel
theorem s_X0_neededTubes_15 {ca : Nat → List Value → tM → tO} {M : tM} {a0 a1 a2 a3 a4 a5 : Option Value} {x : Int32} {S : List Value} : rn ca C_X0_neededTubes 15 [a0, a1, a2, a3, a4, a5, some (.int x)] S M = rn ca C_X0_neededTubes 17 [a0, a1, a2, a3, a4, a5, some (.int x)] (.int x :: S) M := (rn_at k_X0_neededTubes_15).trans rfl
theorem k_X0_neededTubes_17 : lk 17 C_X0_neededTubes = some (.bipush 16, (0, 0, 0, 0)) := by decide +kernel
theorem s_X0_neededTubes_17 {ca : Nat → List Value → tM → tO} {M : tM} {L : tL} {S : List Value} : rn ca C_X0_neededTubes 17 L S M = rn ca C_X0_neededTubes 19 L (.int (iI 16) :: S) M := (rn_at k_X0_neededTubes_17).trans rfl
theorem k_X0_neededTubes_19 : lk 19 C_X0_neededTubes = some (.if_icmp .ge 32, (51, 0, 0, 0)) := by decide +kernel
theorem s_X0_neededTubes_19 {ca : Nat → List Value → tM → tO} {M : tM} {L : tL} {x y : Int32} {S : List Value} : rn ca C_X0_neededTubes 19 L (.int y :: .int x :: S) M = if y ≤ x then rn ca C_X0_neededTubes 51 L S M else rn ca C_X0_neededTubes 22 L S M := (rn_at k_X0_neededTubes_19).trans rnx_ite
theorem k_X0_neededTubes_22 : lk 22 C_X0_neededTubes = some (.aload_n 0, (0, 0, 0, 0)) := by decide +kernel
theorem s_X0_neededTubes_22 {ca : Nat → List Value → tM → tO} {M : tM} {a1 a2 a3 a4 a5 a6 : Option Value} {x : Nat} {S : List Value} : rn ca C_X0_neededTubes 22 [some (.ref x), a1, a2, a3, a4, a5, a6] S M = rn ca C_X0_neededTubes 23 [some (.ref x), a1, a2, a3, a4, a5, a6] (.ref x :: S) M := (rn_at k_X0_neededTubes_22).trans rfl
theorem k_X0_neededTubes_23 : lk 23 C_X0_neededTubes = some (.aload_n 1, (0, 0, 0, 0)) := by decide +kernel
theorem s_X0_neededTubes_23 {ca : Nat → List Value → tM → tO} {M : tM} {a0 a2 a3 a4 a5 a6 : Option Value} {x : Nat} {S : List Value} : rn ca C_X0_neededTubes 23 [a0, some (.ref x), a2, a3, a4, a5, a6] S M = rn ca C_X0_neededTubes 24 [a0, some (.ref x), a2, a3, a4, a5, a6] (.ref x :: S) M := (rn_at k_X0_neededTubes_23).trans rfl
theorem k_X0_neededTubes_24 : lk 24 C_X0_neededTubes = some (.aload_n 2, (0, 0, 0, 0)) := by decide +kernel
theorem s_X0_neededTubes_24 {ca : Nat → List Value → tM → tO} {M : tM} {a0 a1 a3 a4 a5 a6 : Option Value} {x : Nat} {S : List Value} : rn ca C_X0_neededTubes 24 [a0, a1, some (.ref x), a3, a4, a5, a6] S M = rn ca C_X0_neededTubes 25 [a0, a1, some (.ref x), a3, a4, a5, a6] (.ref x :: S) M := (rn_at k_X0_neededTubes_24).trans rfl
theorem k_X0_neededTubes_25 : lk 25 C_X0_neededTubes = some (.iload_n 3, (0, 0, 0, 0)) := by decide +kernel
theorem s_X0_neededTubes_25 {ca : Nat → List Value → tM → tO} {M : tM} {a0 a1 a2 a4 a5 a6 : Option Value} {x : Int32} {S : List Value} : rn ca C_X0_neededTubes 25 [a0, a1, a2, some (.int x), a4, a5, a6] S M = rn ca C_X0_neededTubes 26 [a0, a1, a2, some (.int x), a4, a5, a6] (.int x :: S) M := (rn_at k_X0_neededTubes_25).trans rfl
theorem k_X0_neededTubes_26 : lk 26 C_X0_neededTubes = some (.iload 4, (0, 0, 0, 0)) := by decide +kernel
theorem s_X0_neededTubes_26 {ca : Nat → List Value → tM → tO} {M : tM} {a0 a1 a2 a3 a5 a6 : Option Value} {x : Int32} {S : List Value} : rn ca C_X0_neededTubes 26 [a0, a1, a2, a3, some (.int x), a5, a6] S M = rn ca C_X0_neededTubes 28 [a0, a1, a2, a3, some (.int x), a5, a6] (.int x :: S) M := (rn_at k_X0_neededTubes_26).trans rfl
theorem k_X0_neededTubes_28 : lk 28 C_X0_neededTubes = some (.iload 6, (0, 0, 0, 0)) := by decide +kernel
theorem s_X0_neededTubes_28 {ca : Nat → List Value → tM → tO} {M : tM} {a0 a1 a2 a3 a4 a5 : Option Value} {x : Int32} {S : List Value} : rn ca C_X0_neededTubes 28 [a0, a1, a2, a3, a4, a5, some (.int x)] S M = rn ca C_X0_neededTubes 30 [a0, a1, a2, a3, a4, a5, some (.int x)] (.int x :: S) M := (rn_at k_X0_neededTubes_28).trans rfl
theorem k_X0_neededTubes_30 : lk 30 C_X0_neededTubes = some (.invokevirtual 39, (0, 5, 0, 919)) := by decide +kernel
theorem s_X0_neededTubes_30 {ca : Nat → List Value → tM → tO} {M : tM} {L : tL} {v1 v2 v3 v4 v5 : Value} {b : Nat} : rn ca C_X0_neededTubes 30 L [v5, v4, v3, v2, v1, .ref b] M = if clsO b = some 0 then rnk ca C_X0_neededTubes 33 L [] (ca m_X0_reaches [.ref b, v1, v2, v3, v4, v5] M) else none := (rn_at k_X0_neededTubes_30).trans rnx_ite
theorem k_X0_neededTubes_33 : lk 33 C_X0_neededTubes = some (.ifCond .ne 12, (45, 0, 0, 0)) := by decide +kernel
theorem s_X0_neededTubes_33 {ca : Nat → List Value → tM → tO} {M : tM} {L : tL} {x : Int32} {S : List Value} : rn ca C_X0_neededTubes 33 L (.int x :: S) M = if ¬ x = iI 0 then rn ca C_X0_neededTubes 45 L S M else rn ca C_X0_neededTubes 36 L S M := (rn_at k_X0_neededTubes_33).trans rnx_ite
theorem k_X0_neededTubes_36 : lk 36 C_X0_neededTubes = some (.iload 5, (0, 0, 0, 0)) := by decide +kernel
theorem s_X0_neededTubes_36 {ca : Nat → List Value → tM → tO} {M : tM} {a0 a1 a2 a3 a4 a6 : Option Value} {x : Int32} {S : List Value} : rn ca C_X0_neededTubes 36 [a0, a1, a2, a3, a4, some (.int x), a6] S M = rn ca C_X0_neededTubes 38 [a0, a1, a2, a3, a4, some (.int x), a6] (.int x :: S) M := (rn_at k_X0_neededTubes_36).trans rfl
theorem k_X0_neededTubes_38 : lk 38 C_X0_neededTubes = some (.iconst 1, (0, 0, 0, 0)) := by decide +kernel
theorem s_X0_neededTubes_38 {ca : Nat → List Value → tM → tO} {M : tM} {L : tL} {S : List Value} : rn ca C_X0_neededTubes 38 L S M = rn ca C_X0_neededTubes 39 L (.int (iI 1) :: S) M := (rn_at k_X0_neededTubes_38).trans rfl
theorem k_X0_neededTubes_39 : lk 39 C_X0_neededTubes = some (.iload 6, (0, 0, 0, 0)) := by decide +kernel
theorem s_X0_neededTubes_39 {ca : Nat → List Value → tM → tO} {M : tM} {a0 a1 a2 a3 a4 a5 : Option Value} {x : Int32} {S : List Value} : rn ca C_X0_neededTubes 39 [a0, a1, a2, a3, a4, a5, some (.int x)] S M = rn ca C_X0_neededTubes 41 [a0, a1, a2, a3, a4, a5, some (.int x)] (.int x :: S) M := (rn_at k_X0_neededTubes_39).trans rfl
theorem k_X0_neededTubes_41 : lk 41 C_X0_neededTubes = some (.ishl, (0, 0, 0, 0)) := by decide +kernel
theorem s_X0_neededTubes_41 {ca : Nat → List Value → tM → tO} {M : tM} {L : tL} {x y : Int32} {S : List Value} : rn ca C_X0_neededTubes 41 L (.int y :: .int x :: S) M = rn ca C_X0_neededTubes 42 L (.int (x <<< (y &&& 31)) :: S) M := (rn_at k_X0_neededTubes_41).trans rfl
theorem k_X0_neededTubes_42 : lk 42 C_X0_neededTubes = some (.ior, (0, 0, 0, 0)) := by decide +kernel
theorem s_X0_neededTubes_42 {ca : Nat → List Value → tM → tO} {M : tM} {L : tL} {x y : Int32} {S : List Value} : rn ca C_X0_neededTubes 42 L (.int y :: .int x :: S) M = rn ca C_X0_neededTubes 43 L (.int (x ||| y) :: S) M := (rn_at k_X0_neededTubes_42).trans rfl
theorem k_X0_neededTubes_43 : lk 43 C_X0_neededTubes = some (.istore 5, (0, 0, 0, 0)) := by decide +kernel
theorem s_X0_neededTubes_43 {ca : Nat → List Value → tM → tO} {M : tM} {a0 a1 a2 a3 a4 a5 a6 : Option Value} {x : Int32} {S : List Value} : rn ca C_X0_neededTubes 43 [a0, a1, a2, a3, a4, a5, a6] (.int x :: S) M = rn ca C_X0_neededTubes 45 [a0, a1, a2, a3, a4, some (.int x), a6] S M := (rn_at k_X0_neededTubes_43).trans rfl
theorem k_X0_neededTubes_45 : lk 45 C_X0_neededTubes = some (.iinc 6 1, (0, 0, 0, 0)) := by decide +kernel
theorem s_X0_neededTubes_45 {ca : Nat → List Value → tM → tO} {M : tM} {a0 a1 a2 a3 a4 a5 : Option Value} {x : Int32} {S : List Value} : rn ca C_X0_neededTubes 45 [a0, a1, a2, a3, a4, a5, some (.int x)] S M = rn ca C_X0_neededTubes 48 [a0, a1, a2, a3, a4, a5, some (.int (x + iI 1))] S M := (rn_at k_X0_neededTubes_45).trans rfl
theorem k_X0_neededTubes_48 : lk 48 C_X0_neededTubes = some (.goto (-42), (6, 0, 0, 0)) := by decide +kernel
theorem s_X0_neededTubes_48 {ca : Nat → List Value → tM → tO} {M : tM} {L : tL} {S : List Value} : rn ca C_X0_neededTubes 48 L S M = rn ca C_X0_neededTubes 6 L S M := (rn_at k_X0_neededTubes_48).trans rfl
theorem k_X0_neededTubes_51 : lk 51 C_X0_neededTubes = some (.iload 5, (0, 0, 0, 0)) := by decide +kernel
theorem s_X0_neededTubes_51 {ca : Nat → List Value → tM → tO} {M : tM} {a0 a1 a2 a3 a4 a6 : Option Value} {x : Int32} {S : List Value} : rn ca C_X0_neededTubes 51 [a0, a1, a2, a3, a4, some (.int x), a6] S M = rn ca C_X0_neededTubes 53 [a0, a1, a2, a3, a4, some (.int x), a6] (.int x :: S) M := (rn_at k_X0_neededTubes_51).trans rfl
theorem k_X0_neededTubes_53 : lk 53 C_X0_neededTubes = some (.ireturn, (0, 0, 0, 0)) := by decide +kernel
theorem s_X0_neededTubes_53 {ca : Nat → List Value → tM → tO} {M : tM} {L : tL} {x : Int32} : rn ca C_X0_neededTubes 53 L [.int x] M = some (some (.int x), M) := (rn_at k_X0_neededTubes_53).trans rfl
theorem k_X0_fewestTubes_0 : lk 0 C_X0_fewestTubes = some (.aload_n 0, (0, 0, 0, 0)) := by decide +kernel
theorem s_X0_fewestTubes_0 {ca : Nat → List Value → tM → tO} {M : tM} {a1 a2 a3 a4 a5 a6 : Option Value} {x : Nat} {S : List Value} : rn ca C_X0_fewestTubes 0 [some (.ref x), a1, a2, a3, a4, a5, a6] S M = rn ca C_X0_fewestTubes 1 [some (.ref x), a1, a2, a3, a4, a5, a6] (.ref x :: S) M := (rn_at k_X0_fewestTubes_0).trans rfl
theorem k_X0_fewestTubes_1 : lk 1 C_X0_fewestTubes = some (.getfield 9, (0, 0, 0, 104)) := by decide +kernel
theorem s_X0_fewestTubes_1 {ca : Nat → List Value → tM → tO} {M : tM} {L : tL} {b : Nat} {S : List Value} : rn ca C_X0_fewestTubes 1 L (.ref b :: S) M = if clsO b = some 0 then rn ca C_X0_fewestTubes 4 L (fv M b 0 :: S) M else none := (rn_at k_X0_fewestTubes_1).trans rnx_ite
theorem k_X0_fewestTubes_4 : lk 4 C_X0_fewestTubes = some (.iconst 0, (0, 0, 0, 0)) := by decide +kernel
theorem s_X0_fewestTubes_4 {ca : Nat → List Value → tM → tO} {M : tM} {L : tL} {S : List Value} : rn ca C_X0_fewestTubes 4 L S M = rn ca C_X0_fewestTubes 5 L (.int (iI 0) :: S) M := (rn_at k_X0_fewestTubes_4).trans rfl
theorem k_X0_fewestTubes_5 : lk 5 C_X0_fewestTubes = some (.invokestatic 43, (241, 2, 0, 901)) := by decide +kernel
theorem s_X0_fewestTubes_5 {ca : Nat → List Value → tM → tO} {M : tM} {L : tL} {v1 v2 : Value} : rn ca C_X0_fewestTubes 5 L [v2, v1] M = rnk ca C_X0_fewestTubes 8 L [] (ca m_J7_fill_53178 [v1, v2] M) := (rn_at k_X0_fewestTubes_5).trans rfl
theorem k_X0_fewestTubes_8 : lk 8 C_X0_fewestTubes = some (.iconst 0, (0, 0, 0, 0)) := by decide +kernel
theorem s_X0_fewestTubes_8 {ca : Nat → List Value → tM → tO} {M : tM} {L : tL} {S : List Value} : rn ca C_X0_fewestTubes 8 L S M = rn ca C_X0_fewestTubes 9 L (.int (iI 0) :: S) M := (rn_at k_X0_fewestTubes_8).trans rfl
theorem k_X0_fewestTubes_9 : lk 9 C_X0_fewestTubes = some (.istore 5, (0, 0, 0, 0)) := by decide +kernel
theorem s_X0_fewestTubes_9 {ca : Nat → List Value → tM → tO} {M : tM} {a0 a1 a2 a3 a4 a5 a6 : Option Value} {x : Int32} {S : List Value} : rn ca C_X0_fewestTubes 9 [a0, a1, a2, a3, a4, a5, a6] (.int x :: S) M = rn ca C_X0_fewestTubes 11 [a0, a1, a2, a3, a4, some (.int x), a6] S M := (rn_at k_X0_fewestTubes_9).trans rfl
theorem k_X0_fewestTubes_11 : lk 11 C_X0_fewestTubes = some (.iconst 0, (0, 0, 0, 0)) := by decide +kernel
theorem s_X0_fewestTubes_11 {ca : Nat → List Value → tM → tO} {M : tM} {L : tL} {S : List Value} : rn ca C_X0_fewestTubes 11 L S M = rn ca C_X0_fewestTubes 12 L (.int (iI 0) :: S) M := (rn_at k_X0_fewestTubes_11).trans rfl
theorem k_X0_fewestTubes_12 : lk 12 C_X0_fewestTubes = some (.istore 6, (0, 0, 0, 0)) := by decide +kernel
theorem s_X0_fewestTubes_12 {ca : Nat → List Value → tM → tO} {M : tM} {a0 a1 a2 a3 a4 a5 a6 : Option Value} {x : Int32} {S : List Value} : rn ca C_X0_fewestTubes 12 [a0, a1, a2, a3, a4, a5, a6] (.int x :: S) M = rn ca C_X0_fewestTubes 14 [a0, a1, a2, a3, a4, a5, some (.int x)] S M := (rn_at k_X0_fewestTubes_12).trans rfl
theorem k_X0_fewestTubes_14 : lk 14 C_X0_fewestTubes = some (.iload 6, (0, 0, 0, 0)) := by decide +kernel
theorem s_X0_fewestTubes_14 {ca : Nat → List Value → tM → tO} {M : tM} {a0 a1 a2 a3 a4 a5 : Option Value} {x : Int32} {S : List Value} : rn ca C_X0_fewestTubes 14 [a0, a1, a2, a3, a4, a5, some (.int x)] S M = rn ca C_X0_fewestTubes 16 [a0, a1, a2, a3, a4, a5, some (.int x)] (.int x :: S) M := (rn_at k_X0_fewestTubes_14).trans rfl
theorem k_X0_fewestTubes_16 : lk 16 C_X0_fewestTubes = some (.bipush 16, (0, 0, 0, 0)) := by decide +kernel
theorem s_X0_fewestTubes_16 {ca : Nat → List Value → tM → tO} {M : tM} {L : tL} {S : List Value} : rn ca C_X0_fewestTubes 16 L S M = rn ca C_X0_fewestTubes 18 L (.int (iI 16) :: S) M := (rn_at k_X0_fewestTubes_16).trans rfl
theorem k_X0_fewestTubes_18 : lk 18 C_X0_fewestTubes = some (.if_icmp .ge 35, (53, 0, 0, 0)) := by decide +kernel
theorem s_X0_fewestTubes_18 {ca : Nat → List Value → tM → tO} {M : tM} {L : tL} {x y : Int32} {S : List Value} : rn ca C_X0_fewestTubes 18 L (.int y :: .int x :: S) M = if y ≤ x then rn ca C_X0_fewestTubes 53 L S M else rn ca C_X0_fewestTubes 21 L S M := (rn_at k_X0_fewestTubes_18).trans rnx_ite
theorem k_X0_fewestTubes_21 : lk 21 C_X0_fewestTubes = some (.aload_n 0, (0, 0, 0, 0)) := by decide +kernel
theorem s_X0_fewestTubes_21 {ca : Nat → List Value → tM → tO} {M : tM} {a1 a2 a3 a4 a5 a6 : Option Value} {x : Nat} {S : List Value} : rn ca C_X0_fewestTubes 21 [some (.ref x), a1, a2, a3, a4, a5, a6] S M = rn ca C_X0_fewestTubes 22 [some (.ref x), a1, a2, a3, a4, a5, a6] (.ref x :: S) M := (rn_at k_X0_fewestTubes_21).trans rfl
theorem k_X0_fewestTubes_22 : lk 22 C_X0_fewestTubes = some (.aload_n 1, (0, 0, 0, 0)) := by decide +kernel
theorem s_X0_fewestTubes_22 {ca : Nat → List Value → tM → tO} {M : tM} {a0 a2 a3 a4 a5 a6 : Option Value} {x : Nat} {S : List Value} : rn ca C_X0_fewestTubes 22 [a0, some (.ref x), a2, a3, a4, a5, a6] S M = rn ca C_X0_fewestTubes 23 [a0, some (.ref x), a2, a3, a4, a5, a6] (.ref x :: S) M := (rn_at k_X0_fewestTubes_22).trans rfl
theorem k_X0_fewestTubes_23 : lk 23 C_X0_fewestTubes = some (.aload_n 2, (0, 0, 0, 0)) := by decide +kernel
theorem s_X0_fewestTubes_23 {ca : Nat → List Value → tM → tO} {M : tM} {a0 a1 a3 a4 a5 a6 : Option Value} {x : Nat} {S : List Value} : rn ca C_X0_fewestTubes 23 [a0, a1, some (.ref x), a3, a4, a5, a6] S M = rn ca C_X0_fewestTubes 24 [a0, a1, some (.ref x), a3, a4, a5, a6] (.ref x :: S) M := (rn_at k_X0_fewestTubes_23).trans rfl
theorem k_X0_fewestTubes_24 : lk 24 C_X0_fewestTubes = some (.iload_n 3, (0, 0, 0, 0)) := by decide +kernel
theorem s_X0_fewestTubes_24 {ca : Nat → List Value → tM → tO} {M : tM} {a0 a1 a2 a4 a5 a6 : Option Value} {x : Int32} {S : List Value} : rn ca C_X0_fewestTubes 24 [a0, a1, a2, some (.int x), a4, a5, a6] S M = rn ca C_X0_fewestTubes 25 [a0, a1, a2, some (.int x), a4, a5, a6] (.int x :: S) M := (rn_at k_X0_fewestTubes_24).trans rfl
theorem k_X0_fewestTubes_25 : lk 25 C_X0_fewestTubes = some (.iload 4, (0, 0, 0, 0)) := by decide +kernel
theorem s_X0_fewestTubes_25 {ca : Nat → List Value → tM → tO} {M : tM} {a0 a1 a2 a3 a5 a6 : Option Value} {x : Int32} {S : List Value} : rn ca C_X0_fewestTubes 25 [a0, a1, a2, a3, some (.int x), a5, a6] S M = rn ca C_X0_fewestTubes 27 [a0, a1, a2, a3, some (.int x), a5, a6] (.int x :: S) M := (rn_at k_X0_fewestTubes_25).trans rfl
theorem k_X0_fewestTubes_27 : lk 27 C_X0_fewestTubes = some (.invokevirtual 49, (3, 4, 0, 902)) := by decide +kernel
theorem s_X0_fewestTubes_27 {ca : Nat → List Value → tM → tO} {M : tM} {L : tL} {v1 v2 v3 v4 : Value} {b : Nat} : rn ca C_X0_fewestTubes 27 L [v4, v3, v2, v1, .ref b] M = if clsO b = some 0 then rnk ca C_X0_fewestTubes 30 L [] (ca m_X0_findWay [.ref b, v1, v2, v3, v4] M) else none := (rn_at k_X0_fewestTubes_27).trans rnx_ite
theorem k_X0_fewestTubes_30 : lk 30 C_X0_fewestTubes = some (.ifCond .ne 6, (36, 0, 0, 0)) := by decide +kernel
theorem s_X0_fewestTubes_30 {ca : Nat → List Value → tM → tO} {M : tM} {L : tL} {x : Int32} {S : List Value} : rn ca C_X0_fewestTubes 30 L (.int x :: S) M = if ¬ x = iI 0 then rn ca C_X0_fewestTubes 36 L S M else rn ca C_X0_fewestTubes 33 L S M := (rn_at k_X0_fewestTubes_30).trans rnx_ite
theorem k_X0_fewestTubes_33 : lk 33 C_X0_fewestTubes = some (.goto 20, (53, 0, 0, 0)) := by decide +kernel
theorem s_X0_fewestTubes_33 {ca : Nat → List Value → tM → tO} {M : tM} {L : tL} {S : List Value} : rn ca C_X0_fewestTubes 33 L S M = rn ca C_X0_fewestTubes 53 L S M := (rn_at k_X0_fewestTubes_33).trans rfl
theorem k_X0_fewestTubes_36 : lk 36 C_X0_fewestTubes = some (.aload_n 0, (0, 0, 0, 0)) := by decide +kernel
theorem s_X0_fewestTubes_36 {ca : Nat → List Value → tM → tO} {M : tM} {a1 a2 a3 a4 a5 a6 : Option Value} {x : Nat} {S : List Value} : rn ca C_X0_fewestTubes 36 [some (.ref x), a1, a2, a3, a4, a5, a6] S M = rn ca C_X0_fewestTubes 37 [some (.ref x), a1, a2, a3, a4, a5, a6] (.ref x :: S) M := (rn_at k_X0_fewestTubes_36).trans rfl
theorem k_X0_fewestTubes_37 : lk 37 C_X0_fewestTubes = some (.aload_n 1, (0, 0, 0, 0)) := by decide +kernel
theorem s_X0_fewestTubes_37 {ca : Nat → List Value → tM → tO} {M : tM} {a0 a2 a3 a4 a5 a6 : Option Value} {x : Nat} {S : List Value} : rn ca C_X0_fewestTubes 37 [a0, some (.ref x), a2, a3, a4, a5, a6] S M = rn ca C_X0_fewestTubes 38 [a0, some (.ref x), a2, a3, a4, a5, a6] (.ref x :: S) M := (rn_at k_X0_fewestTubes_37).trans rfl
theorem k_X0_fewestTubes_38 : lk 38 C_X0_fewestTubes = some (.iload_n 3, (0, 0, 0, 0)) := by decide +kernel
theorem s_X0_fewestTubes_38 {ca : Nat → List Value → tM → tO} {M : tM} {a0 a1 a2 a4 a5 a6 : Option Value} {x : Int32} {S : List Value} : rn ca C_X0_fewestTubes 38 [a0, a1, a2, some (.int x), a4, a5, a6] S M = rn ca C_X0_fewestTubes 39 [a0, a1, a2, some (.int x), a4, a5, a6] (.int x :: S) M := (rn_at k_X0_fewestTubes_38).trans rfl
theorem k_X0_fewestTubes_39 : lk 39 C_X0_fewestTubes = some (.iload 4, (0, 0, 0, 0)) := by decide +kernel
theorem s_X0_fewestTubes_39 {ca : Nat → List Value → tM → tO} {M : tM} {a0 a1 a2 a3 a5 a6 : Option Value} {x : Int32} {S : List Value} : rn ca C_X0_fewestTubes 39 [a0, a1, a2, a3, some (.int x), a5, a6] S M = rn ca C_X0_fewestTubes 41 [a0, a1, a2, a3, some (.int x), a5, a6] (.int x :: S) M := (rn_at k_X0_fewestTubes_39).trans rfl
theorem k_X0_fewestTubes_41 : lk 41 C_X0_fewestTubes = some (.invokevirtual 53, (5, 3, 0, 910)) := by decide +kernel
theorem s_X0_fewestTubes_41 {ca : Nat → List Value → tM → tO} {M : tM} {L : tL} {v1 v2 v3 : Value} {b : Nat} : rn ca C_X0_fewestTubes 41 L [v3, v2, v1, .ref b] M = if clsO b = some 0 then rnk ca C_X0_fewestTubes 44 L [] (ca m_X0_takeWay [.ref b, v1, v2, v3] M) else none := (rn_at k_X0_fewestTubes_41).trans rnx_ite
theorem k_X0_fewestTubes_44 : lk 44 C_X0_fewestTubes = some (.iinc 5 1, (0, 0, 0, 0)) := by decide +kernel
theorem s_X0_fewestTubes_44 {ca : Nat → List Value → tM → tO} {M : tM} {a0 a1 a2 a3 a4 a6 : Option Value} {x : Int32} {S : List Value} : rn ca C_X0_fewestTubes 44 [a0, a1, a2, a3, a4, some (.int x), a6] S M = rn ca C_X0_fewestTubes 47 [a0, a1, a2, a3, a4, some (.int (x + iI 1)), a6] S M := (rn_at k_X0_fewestTubes_44).trans rfl
theorem k_X0_fewestTubes_47 : lk 47 C_X0_fewestTubes = some (.iinc 6 1, (0, 0, 0, 0)) := by decide +kernel
theorem s_X0_fewestTubes_47 {ca : Nat → List Value → tM → tO} {M : tM} {a0 a1 a2 a3 a4 a5 : Option Value} {x : Int32} {S : List Value} : rn ca C_X0_fewestTubes 47 [a0, a1, a2, a3, a4, a5, some (.int x)] S M = rn ca C_X0_fewestTubes 50 [a0, a1, a2, a3, a4, a5, some (.int (x + iI 1))] S M := (rn_at k_X0_fewestTubes_47).trans rfl
theorem k_X0_fewestTubes_50 : lk 50 C_X0_fewestTubes = some (.goto (-36), (14, 0, 0, 0)) := by decide +kernel
theorem s_X0_fewestTubes_50 {ca : Nat → List Value → tM → tO} {M : tM} {L : tL} {S : List Value} : rn ca C_X0_fewestTubes 50 L S M = rn ca C_X0_fewestTubes 14 L S M := (rn_at k_X0_fewestTubes_50).trans rfl
theorem k_X0_fewestTubes_53 : lk 53 C_X0_fewestTubes = some (.iload 5, (0, 0, 0, 0)) := by decide +kernel
theorem s_X0_fewestTubes_53 {ca : Nat → List Value → tM → tO} {M : tM} {a0 a1 a2 a3 a4 a6 : Option Value} {x : Int32} {S : List Value} : rn ca C_X0_fewestTubes 53 [a0, a1, a2, a3, a4, some (.int x), a6] S M = rn ca C_X0_fewestTubes 55 [a0, a1, a2, a3, a4, some (.int x), a6] (.int x :: S) M := (rn_at k_X0_fewestTubes_53).trans rfl
theorem k_X0_fewestTubes_55 : lk 55 C_X0_fewestTubes = some (.ireturn, (0, 0, 0, 0)) := by decide +kernel
theorem s_X0_fewestTubes_55 {ca : Nat → List Value → tM → tO} {M : tM} {L : tL} {x : Int32} : rn ca C_X0_fewestTubes 55 L [.int x] M = some (some (.int x), M) := (rn_at k_X0_fewestTubes_55).trans rfl
theorem k_X0_findWay_0 : lk 0 C_X0_findWay = some (.aload_n 0, (0, 0, 0, 0)) := by decide +kernel
theorem s_X0_findWay_0 {ca : Nat → List Value → tM → tO} {M : tM} {a1 a2 a3 a4 a5 a6 a7 a8 a9 : Option Value} {x : Nat} {S : List Value} : rn ca C_X0_findWay 0 [some (.ref x), a1, a2, a3, a4, a5, a6, a7, a8, a9] S M = rn ca C_X0_findWay 1 [some (.ref x), a1, a2, a3, a4, a5, a6, a7, a8, a9] (.ref x :: S) M := (rn_at k_X0_findWay_0).trans rfl
theorem k_X0_findWay_1 : lk 1 C_X0_findWay = some (.getfield 15, (0, 1, 0, 105)) := by decide +kernel
theorem s_X0_findWay_1 {ca : Nat → List Value → tM → tO} {M : tM} {L : tL} {b : Nat} {S : List Value} : rn ca C_X0_findWay 1 L (.ref b :: S) M = if clsO b = some 0 then rn ca C_X0_findWay 4 L (fv M b 1 :: S) M else none := (rn_at k_X0_findWay_1).trans rnx_ite
theorem k_X0_findWay_4 : lk 4 C_X0_findWay = some (.iconst (-1), (0, 0, 0, 0)) := by decide +kernel
theorem s_X0_findWay_4 {ca : Nat → List Value → tM → tO} {M : tM} {L : tL} {S : List Value} : rn ca C_X0_findWay 4 L S M = rn ca C_X0_findWay 5 L (.int (iI (-1)) :: S) M := (rn_at k_X0_findWay_4).trans rfl
theorem k_X0_findWay_5 : lk 5 C_X0_findWay = some (.invokestatic 43, (241, 2, 0, 901)) := by decide +kernel
theorem s_X0_findWay_5 {ca : Nat → List Value → tM → tO} {M : tM} {L : tL} {v1 v2 : Value} : rn ca C_X0_findWay 5 L [v2, v1] M = rnk ca C_X0_findWay 8 L [] (ca m_J7_fill_53178 [v1, v2] M) := (rn_at k_X0_findWay_5).trans rfl
theorem k_X0_findWay_8 : lk 8 C_X0_findWay = some (.iconst 1, (0, 0, 0, 0)) := by decide +kernel
theorem s_X0_findWay_8 {ca : Nat → List Value → tM → tO} {M : tM} {L : tL} {S : List Value} : rn ca C_X0_findWay 8 L S M = rn ca C_X0_findWay 9 L (.int (iI 1) :: S) M := (rn_at k_X0_findWay_8).trans rfl
theorem k_X0_findWay_9 : lk 9 C_X0_findWay = some (.iload_n 3, (0, 0, 0, 0)) := by decide +kernel
theorem s_X0_findWay_9 {ca : Nat → List Value → tM → tO} {M : tM} {a0 a1 a2 a4 a5 a6 a7 a8 a9 : Option Value} {x : Int32} {S : List Value} : rn ca C_X0_findWay 9 [a0, a1, a2, some (.int x), a4, a5, a6, a7, a8, a9] S M = rn ca C_X0_findWay 10 [a0, a1, a2, some (.int x), a4, a5, a6, a7, a8, a9] (.int x :: S) M := (rn_at k_X0_findWay_9).trans rfl
theorem k_X0_findWay_10 : lk 10 C_X0_findWay = some (.ishl, (0, 0, 0, 0)) := by decide +kernel
theorem s_X0_findWay_10 {ca : Nat → List Value → tM → tO} {M : tM} {L : tL} {x y : Int32} {S : List Value} : rn ca C_X0_findWay 10 L (.int y :: .int x :: S) M = rn ca C_X0_findWay 11 L (.int (x <<< (y &&& 31)) :: S) M := (rn_at k_X0_findWay_10).trans rfl
theorem k_X0_findWay_11 : lk 11 C_X0_findWay = some (.istore 5, (0, 0, 0, 0)) := by decide +kernel
theorem s_X0_findWay_11 {ca : Nat → List Value → tM → tO} {M : tM} {a0 a1 a2 a3 a4 a5 a6 a7 a8 a9 : Option Value} {x : Int32} {S : List Value} : rn ca C_X0_findWay 11 [a0, a1, a2, a3, a4, a5, a6, a7, a8, a9] (.int x :: S) M = rn ca C_X0_findWay 13 [a0, a1, a2, a3, a4, some (.int x), a6, a7, a8, a9] S M := (rn_at k_X0_findWay_11).trans rfl
theorem k_X0_findWay_13 : lk 13 C_X0_findWay = some (.iconst 0, (0, 0, 0, 0)) := by decide +kernel
theorem s_X0_findWay_13 {ca : Nat → List Value → tM → tO} {M : tM} {L : tL} {S : List Value} : rn ca C_X0_findWay 13 L S M = rn ca C_X0_findWay 14 L (.int (iI 0) :: S) M := (rn_at k_X0_findWay_13).trans rfl
theorem k_X0_findWay_14 : lk 14 C_X0_findWay = some (.istore 6, (0, 0, 0, 0)) := by decide +kernel
theorem s_X0_findWay_14 {ca : Nat → List Value → tM → tO} {M : tM} {a0 a1 a2 a3 a4 a5 a6 a7 a8 a9 : Option Value} {x : Int32} {S : List Value} : rn ca C_X0_findWay 14 [a0, a1, a2, a3, a4, a5, a6, a7, a8, a9] (.int x :: S) M = rn ca C_X0_findWay 16 [a0, a1, a2, a3, a4, a5, some (.int x), a7, a8, a9] S M := (rn_at k_X0_findWay_14).trans rfl
theorem k_X0_findWay_16 : lk 16 C_X0_findWay = some (.iload 6, (0, 0, 0, 0)) := by decide +kernel
theorem s_X0_findWay_16 {ca : Nat → List Value → tM → tO} {M : tM} {a0 a1 a2 a3 a4 a5 a7 a8 a9 : Option Value} {x : Int32} {S : List Value} : rn ca C_X0_findWay 16 [a0, a1, a2, a3, a4, a5, some (.int x), a7, a8, a9] S M = rn ca C_X0_findWay 18 [a0, a1, a2, a3, a4, a5, some (.int x), a7, a8, a9] (.int x :: S) M := (rn_at k_X0_findWay_16).trans rfl
theorem k_X0_findWay_18 : lk 18 C_X0_findWay = some (.bipush 8, (0, 0, 0, 0)) := by decide +kernel
theorem s_X0_findWay_18 {ca : Nat → List Value → tM → tO} {M : tM} {L : tL} {S : List Value} : rn ca C_X0_findWay 18 L S M = rn ca C_X0_findWay 20 L (.int (iI 8) :: S) M := (rn_at k_X0_findWay_18).trans rfl
theorem k_X0_findWay_20 : lk 20 C_X0_findWay = some (.if_icmp .ge 188, (208, 0, 0, 0)) := by decide +kernel
theorem s_X0_findWay_20 {ca : Nat → List Value → tM → tO} {M : tM} {L : tL} {x y : Int32} {S : List Value} : rn ca C_X0_findWay 20 L (.int y :: .int x :: S) M = if y ≤ x then rn ca C_X0_findWay 208 L S M else rn ca C_X0_findWay 23 L S M := (rn_at k_X0_findWay_20).trans rnx_ite
theorem k_X0_findWay_23 : lk 23 C_X0_findWay = some (.iconst 0, (0, 0, 0, 0)) := by decide +kernel
theorem s_X0_findWay_23 {ca : Nat → List Value → tM → tO} {M : tM} {L : tL} {S : List Value} : rn ca C_X0_findWay 23 L S M = rn ca C_X0_findWay 24 L (.int (iI 0) :: S) M := (rn_at k_X0_findWay_23).trans rfl
theorem k_X0_findWay_24 : lk 24 C_X0_findWay = some (.istore 7, (0, 0, 0, 0)) := by decide +kernel
theorem s_X0_findWay_24 {ca : Nat → List Value → tM → tO} {M : tM} {a0 a1 a2 a3 a4 a5 a6 a7 a8 a9 : Option Value} {x : Int32} {S : List Value} : rn ca C_X0_findWay 24 [a0, a1, a2, a3, a4, a5, a6, a7, a8, a9] (.int x :: S) M = rn ca C_X0_findWay 26 [a0, a1, a2, a3, a4, a5, a6, some (.int x), a8, a9] S M := (rn_at k_X0_findWay_24).trans rfl
theorem k_X0_findWay_26 : lk 26 C_X0_findWay = some (.iload 7, (0, 0, 0, 0)) := by decide +kernel
theorem s_X0_findWay_26 {ca : Nat → List Value → tM → tO} {M : tM} {a0 a1 a2 a3 a4 a5 a6 a8 a9 : Option Value} {x : Int32} {S : List Value} : rn ca C_X0_findWay 26 [a0, a1, a2, a3, a4, a5, a6, some (.int x), a8, a9] S M = rn ca C_X0_findWay 28 [a0, a1, a2, a3, a4, a5, a6, some (.int x), a8, a9] (.int x :: S) M := (rn_at k_X0_findWay_26).trans rfl
theorem k_X0_findWay_28 : lk 28 C_X0_findWay = some (.aload_n 1, (0, 0, 0, 0)) := by decide +kernel
theorem s_X0_findWay_28 {ca : Nat → List Value → tM → tO} {M : tM} {a0 a2 a3 a4 a5 a6 a7 a8 a9 : Option Value} {x : Nat} {S : List Value} : rn ca C_X0_findWay 28 [a0, some (.ref x), a2, a3, a4, a5, a6, a7, a8, a9] S M = rn ca C_X0_findWay 29 [a0, some (.ref x), a2, a3, a4, a5, a6, a7, a8, a9] (.ref x :: S) M := (rn_at k_X0_findWay_28).trans rfl
theorem k_X0_findWay_29 : lk 29 C_X0_findWay = some (.getfield 18, (4, 2, 0, 100007)) := by decide +kernel
theorem s_X0_findWay_29 {ca : Nat → List Value → tM → tO} {M : tM} {L : tL} {b : Nat} {S : List Value} : rn ca C_X0_findWay 29 L (.ref b :: S) M = if clsO b = some 4 then rn ca C_X0_findWay 32 L (fv M b 2 :: S) M else none := (rn_at k_X0_findWay_29).trans rnx_ite
theorem k_X0_findWay_32 : lk 32 C_X0_findWay = some (.if_icmp .ge 170, (202, 0, 0, 0)) := by decide +kernel
theorem s_X0_findWay_32 {ca : Nat → List Value → tM → tO} {M : tM} {L : tL} {x y : Int32} {S : List Value} : rn ca C_X0_findWay 32 L (.int y :: .int x :: S) M = if y ≤ x then rn ca C_X0_findWay 202 L S M else rn ca C_X0_findWay 35 L S M := (rn_at k_X0_findWay_32).trans rnx_ite
theorem k_X0_findWay_35 : lk 35 C_X0_findWay = some (.iload 7, (0, 0, 0, 0)) := by decide +kernel
theorem s_X0_findWay_35 {ca : Nat → List Value → tM → tO} {M : tM} {a0 a1 a2 a3 a4 a5 a6 a8 a9 : Option Value} {x : Int32} {S : List Value} : rn ca C_X0_findWay 35 [a0, a1, a2, a3, a4, a5, a6, some (.int x), a8, a9] S M = rn ca C_X0_findWay 37 [a0, a1, a2, a3, a4, a5, a6, some (.int x), a8, a9] (.int x :: S) M := (rn_at k_X0_findWay_35).trans rfl
theorem k_X0_findWay_37 : lk 37 C_X0_findWay = some (.bipush 16, (0, 0, 0, 0)) := by decide +kernel
theorem s_X0_findWay_37 {ca : Nat → List Value → tM → tO} {M : tM} {L : tL} {S : List Value} : rn ca C_X0_findWay 37 L S M = rn ca C_X0_findWay 39 L (.int (iI 16) :: S) M := (rn_at k_X0_findWay_37).trans rfl
theorem k_X0_findWay_39 : lk 39 C_X0_findWay = some (.if_icmp .ge 163, (202, 0, 0, 0)) := by decide +kernel
theorem s_X0_findWay_39 {ca : Nat → List Value → tM → tO} {M : tM} {L : tL} {x y : Int32} {S : List Value} : rn ca C_X0_findWay 39 L (.int y :: .int x :: S) M = if y ≤ x then rn ca C_X0_findWay 202 L S M else rn ca C_X0_findWay 42 L S M := (rn_at k_X0_findWay_39).trans rnx_ite
theorem k_X0_findWay_42 : lk 42 C_X0_findWay = some (.iload 5, (0, 0, 0, 0)) := by decide +kernel
theorem s_X0_findWay_42 {ca : Nat → List Value → tM → tO} {M : tM} {a0 a1 a2 a3 a4 a6 a7 a8 a9 : Option Value} {x : Int32} {S : List Value} : rn ca C_X0_findWay 42 [a0, a1, a2, a3, a4, some (.int x), a6, a7, a8, a9] S M = rn ca C_X0_findWay 44 [a0, a1, a2, a3, a4, some (.int x), a6, a7, a8, a9] (.int x :: S) M := (rn_at k_X0_findWay_42).trans rfl
theorem k_X0_findWay_44 : lk 44 C_X0_findWay = some (.iconst 1, (0, 0, 0, 0)) := by decide +kernel
theorem s_X0_findWay_44 {ca : Nat → List Value → tM → tO} {M : tM} {L : tL} {S : List Value} : rn ca C_X0_findWay 44 L S M = rn ca C_X0_findWay 45 L (.int (iI 1) :: S) M := (rn_at k_X0_findWay_44).trans rfl
theorem k_X0_findWay_45 : lk 45 C_X0_findWay = some (.aload_n 1, (0, 0, 0, 0)) := by decide +kernel
theorem s_X0_findWay_45 {ca : Nat → List Value → tM → tO} {M : tM} {a0 a2 a3 a4 a5 a6 a7 a8 a9 : Option Value} {x : Nat} {S : List Value} : rn ca C_X0_findWay 45 [a0, some (.ref x), a2, a3, a4, a5, a6, a7, a8, a9] S M = rn ca C_X0_findWay 46 [a0, some (.ref x), a2, a3, a4, a5, a6, a7, a8, a9] (.ref x :: S) M := (rn_at k_X0_findWay_45).trans rfl
theorem k_X0_findWay_46 : lk 46 C_X0_findWay = some (.getfield 30, (4, 3, 0, 100011)) := by decide +kernel
theorem s_X0_findWay_46 {ca : Nat → List Value → tM → tO} {M : tM} {L : tL} {b : Nat} {S : List Value} : rn ca C_X0_findWay 46 L (.ref b :: S) M = if clsO b = some 4 then rn ca C_X0_findWay 49 L (fv M b 3 :: S) M else none := (rn_at k_X0_findWay_46).trans rnx_ite
theorem k_X0_findWay_49 : lk 49 C_X0_findWay = some (.iload 7, (0, 0, 0, 0)) := by decide +kernel
theorem s_X0_findWay_49 {ca : Nat → List Value → tM → tO} {M : tM} {a0 a1 a2 a3 a4 a5 a6 a8 a9 : Option Value} {x : Int32} {S : List Value} : rn ca C_X0_findWay 49 [a0, a1, a2, a3, a4, a5, a6, some (.int x), a8, a9] S M = rn ca C_X0_findWay 51 [a0, a1, a2, a3, a4, a5, a6, some (.int x), a8, a9] (.int x :: S) M := (rn_at k_X0_findWay_49).trans rfl
theorem k_X0_findWay_51 : lk 51 C_X0_findWay = some (.iaload, (0, 0, 0, 0)) := by decide +kernel
theorem s_X0_findWay_51 {ca : Nat → List Value → tM → tO} {M : tM} {L : tL} {a : Nat} {i : Int32} {S : List Value} : rn ca C_X0_findWay 51 L (.int i :: .ref a :: S) M = if (akind a = 0 ∨ akind a = 6 ∨ akind a = 7) ∧ inb i (alen M a) then rn ca C_X0_findWay 52 L (.int (M.1 a i.toInt.toNat) :: S) M else none := (rn_at k_X0_findWay_51).trans rnx_ite
theorem k_X0_findWay_52 : lk 52 C_X0_findWay = some (.ishl, (0, 0, 0, 0)) := by decide +kernel
theorem s_X0_findWay_52 {ca : Nat → List Value → tM → tO} {M : tM} {L : tL} {x y : Int32} {S : List Value} : rn ca C_X0_findWay 52 L (.int y :: .int x :: S) M = rn ca C_X0_findWay 53 L (.int (x <<< (y &&& 31)) :: S) M := (rn_at k_X0_findWay_52).trans rfl
theorem k_X0_findWay_53 : lk 53 C_X0_findWay = some (.iand, (0, 0, 0, 0)) := by decide +kernel
theorem s_X0_findWay_53 {ca : Nat → List Value → tM → tO} {M : tM} {L : tL} {x y : Int32} {S : List Value} : rn ca C_X0_findWay 53 L (.int y :: .int x :: S) M = rn ca C_X0_findWay 54 L (.int (x &&& y) :: S) M := (rn_at k_X0_findWay_53).trans rfl
theorem k_X0_findWay_54 : lk 54 C_X0_findWay = some (.ifCond .eq 7, (61, 0, 0, 0)) := by decide +kernel
theorem s_X0_findWay_54 {ca : Nat → List Value → tM → tO} {M : tM} {L : tL} {x : Int32} {S : List Value} : rn ca C_X0_findWay 54 L (.int x :: S) M = if x = iI 0 then rn ca C_X0_findWay 61 L S M else rn ca C_X0_findWay 57 L S M := (rn_at k_X0_findWay_54).trans rnx_ite
theorem k_X0_findWay_57 : lk 57 C_X0_findWay = some (.iconst 1, (0, 0, 0, 0)) := by decide +kernel
theorem s_X0_findWay_57 {ca : Nat → List Value → tM → tO} {M : tM} {L : tL} {S : List Value} : rn ca C_X0_findWay 57 L S M = rn ca C_X0_findWay 58 L (.int (iI 1) :: S) M := (rn_at k_X0_findWay_57).trans rfl
theorem k_X0_findWay_58 : lk 58 C_X0_findWay = some (.goto 4, (62, 0, 0, 0)) := by decide +kernel
theorem s_X0_findWay_58 {ca : Nat → List Value → tM → tO} {M : tM} {L : tL} {S : List Value} : rn ca C_X0_findWay 58 L S M = rn ca C_X0_findWay 62 L S M := (rn_at k_X0_findWay_58).trans rfl
theorem k_X0_findWay_61 : lk 61 C_X0_findWay = some (.iconst 0, (0, 0, 0, 0)) := by decide +kernel
theorem s_X0_findWay_61 {ca : Nat → List Value → tM → tO} {M : tM} {L : tL} {S : List Value} : rn ca C_X0_findWay 61 L S M = rn ca C_X0_findWay 62 L (.int (iI 0) :: S) M := (rn_at k_X0_findWay_61).trans rfl
theorem k_X0_findWay_62 : lk 62 C_X0_findWay = some (.istore 8, (0, 0, 0, 0)) := by decide +kernel
theorem s_X0_findWay_62 {ca : Nat → List Value → tM → tO} {M : tM} {a0 a1 a2 a3 a4 a5 a6 a7 a8 a9 : Option Value} {x : Int32} {S : List Value} : rn ca C_X0_findWay 62 [a0, a1, a2, a3, a4, a5, a6, a7, a8, a9] (.int x :: S) M = rn ca C_X0_findWay 64 [a0, a1, a2, a3, a4, a5, a6, a7, some (.int x), a9] S M := (rn_at k_X0_findWay_62).trans rfl
theorem k_X0_findWay_64 : lk 64 C_X0_findWay = some (.iload 5, (0, 0, 0, 0)) := by decide +kernel
theorem s_X0_findWay_64 {ca : Nat → List Value → tM → tO} {M : tM} {a0 a1 a2 a3 a4 a6 a7 a8 a9 : Option Value} {x : Int32} {S : List Value} : rn ca C_X0_findWay 64 [a0, a1, a2, a3, a4, some (.int x), a6, a7, a8, a9] S M = rn ca C_X0_findWay 66 [a0, a1, a2, a3, a4, some (.int x), a6, a7, a8, a9] (.int x :: S) M := (rn_at k_X0_findWay_64).trans rfl
theorem k_X0_findWay_66 : lk 66 C_X0_findWay = some (.iconst 1, (0, 0, 0, 0)) := by decide +kernel
theorem s_X0_findWay_66 {ca : Nat → List Value → tM → tO} {M : tM} {L : tL} {S : List Value} : rn ca C_X0_findWay 66 L S M = rn ca C_X0_findWay 67 L (.int (iI 1) :: S) M := (rn_at k_X0_findWay_66).trans rfl
theorem k_X0_findWay_67 : lk 67 C_X0_findWay = some (.aload_n 1, (0, 0, 0, 0)) := by decide +kernel
theorem s_X0_findWay_67 {ca : Nat → List Value → tM → tO} {M : tM} {a0 a2 a3 a4 a5 a6 a7 a8 a9 : Option Value} {x : Nat} {S : List Value} : rn ca C_X0_findWay 67 [a0, some (.ref x), a2, a3, a4, a5, a6, a7, a8, a9] S M = rn ca C_X0_findWay 68 [a0, some (.ref x), a2, a3, a4, a5, a6, a7, a8, a9] (.ref x :: S) M := (rn_at k_X0_findWay_67).trans rfl
theorem k_X0_findWay_68 : lk 68 C_X0_findWay = some (.getfield 33, (4, 4, 0, 100016)) := by decide +kernel
theorem s_X0_findWay_68 {ca : Nat → List Value → tM → tO} {M : tM} {L : tL} {b : Nat} {S : List Value} : rn ca C_X0_findWay 68 L (.ref b :: S) M = if clsO b = some 4 then rn ca C_X0_findWay 71 L (fv M b 4 :: S) M else none := (rn_at k_X0_findWay_68).trans rnx_ite
theorem k_X0_findWay_71 : lk 71 C_X0_findWay = some (.iload 7, (0, 0, 0, 0)) := by decide +kernel
theorem s_X0_findWay_71 {ca : Nat → List Value → tM → tO} {M : tM} {a0 a1 a2 a3 a4 a5 a6 a8 a9 : Option Value} {x : Int32} {S : List Value} : rn ca C_X0_findWay 71 [a0, a1, a2, a3, a4, a5, a6, some (.int x), a8, a9] S M = rn ca C_X0_findWay 73 [a0, a1, a2, a3, a4, a5, a6, some (.int x), a8, a9] (.int x :: S) M := (rn_at k_X0_findWay_71).trans rfl
theorem k_X0_findWay_73 : lk 73 C_X0_findWay = some (.iaload, (0, 0, 0, 0)) := by decide +kernel
theorem s_X0_findWay_73 {ca : Nat → List Value → tM → tO} {M : tM} {L : tL} {a : Nat} {i : Int32} {S : List Value} : rn ca C_X0_findWay 73 L (.int i :: .ref a :: S) M = if (akind a = 0 ∨ akind a = 6 ∨ akind a = 7) ∧ inb i (alen M a) then rn ca C_X0_findWay 74 L (.int (M.1 a i.toInt.toNat) :: S) M else none := (rn_at k_X0_findWay_73).trans rnx_ite
theorem k_X0_findWay_74 : lk 74 C_X0_findWay = some (.ishl, (0, 0, 0, 0)) := by decide +kernel
theorem s_X0_findWay_74 {ca : Nat → List Value → tM → tO} {M : tM} {L : tL} {x y : Int32} {S : List Value} : rn ca C_X0_findWay 74 L (.int y :: .int x :: S) M = rn ca C_X0_findWay 75 L (.int (x <<< (y &&& 31)) :: S) M := (rn_at k_X0_findWay_74).trans rfl
theorem k_X0_findWay_75 : lk 75 C_X0_findWay = some (.iand, (0, 0, 0, 0)) := by decide +kernel
theorem s_X0_findWay_75 {ca : Nat → List Value → tM → tO} {M : tM} {L : tL} {x y : Int32} {S : List Value} : rn ca C_X0_findWay 75 L (.int y :: .int x :: S) M = rn ca C_X0_findWay 76 L (.int (x &&& y) :: S) M := (rn_at k_X0_findWay_75).trans rfl
theorem k_X0_findWay_76 : lk 76 C_X0_findWay = some (.ifCond .eq 7, (83, 0, 0, 0)) := by decide +kernel
theorem s_X0_findWay_76 {ca : Nat → List Value → tM → tO} {M : tM} {L : tL} {x : Int32} {S : List Value} : rn ca C_X0_findWay 76 L (.int x :: S) M = if x = iI 0 then rn ca C_X0_findWay 83 L S M else rn ca C_X0_findWay 79 L S M := (rn_at k_X0_findWay_76).trans rnx_ite
theorem k_X0_findWay_79 : lk 79 C_X0_findWay = some (.iconst 1, (0, 0, 0, 0)) := by decide +kernel
theorem s_X0_findWay_79 {ca : Nat → List Value → tM → tO} {M : tM} {L : tL} {S : List Value} : rn ca C_X0_findWay 79 L S M = rn ca C_X0_findWay 80 L (.int (iI 1) :: S) M := (rn_at k_X0_findWay_79).trans rfl
theorem k_X0_findWay_80 : lk 80 C_X0_findWay = some (.goto 4, (84, 0, 0, 0)) := by decide +kernel
theorem s_X0_findWay_80 {ca : Nat → List Value → tM → tO} {M : tM} {L : tL} {S : List Value} : rn ca C_X0_findWay 80 L S M = rn ca C_X0_findWay 84 L S M := (rn_at k_X0_findWay_80).trans rfl
theorem k_X0_findWay_83 : lk 83 C_X0_findWay = some (.iconst 0, (0, 0, 0, 0)) := by decide +kernel
theorem s_X0_findWay_83 {ca : Nat → List Value → tM → tO} {M : tM} {L : tL} {S : List Value} : rn ca C_X0_findWay 83 L S M = rn ca C_X0_findWay 84 L (.int (iI 0) :: S) M := (rn_at k_X0_findWay_83).trans rfl
theorem k_X0_findWay_84 : lk 84 C_X0_findWay = some (.istore 9, (0, 0, 0, 0)) := by decide +kernel
theorem s_X0_findWay_84 {ca : Nat → List Value → tM → tO} {M : tM} {a0 a1 a2 a3 a4 a5 a6 a7 a8 a9 : Option Value} {x : Int32} {S : List Value} : rn ca C_X0_findWay 84 [a0, a1, a2, a3, a4, a5, a6, a7, a8, a9] (.int x :: S) M = rn ca C_X0_findWay 86 [a0, a1, a2, a3, a4, a5, a6, a7, a8, some (.int x)] S M := (rn_at k_X0_findWay_84).trans rfl
theorem k_X0_findWay_86 : lk 86 C_X0_findWay = some (.iload 8, (0, 0, 0, 0)) := by decide +kernel
theorem s_X0_findWay_86 {ca : Nat → List Value → tM → tO} {M : tM} {a0 a1 a2 a3 a4 a5 a6 a7 a9 : Option Value} {x : Int32} {S : List Value} : rn ca C_X0_findWay 86 [a0, a1, a2, a3, a4, a5, a6, a7, some (.int x), a9] S M = rn ca C_X0_findWay 88 [a0, a1, a2, a3, a4, a5, a6, a7, some (.int x), a9] (.int x :: S) M := (rn_at k_X0_findWay_86).trans rfl
theorem k_X0_findWay_88 : lk 88 C_X0_findWay = some (.ifCond .eq 54, (142, 0, 0, 0)) := by decide +kernel
theorem s_X0_findWay_88 {ca : Nat → List Value → tM → tO} {M : tM} {L : tL} {x : Int32} {S : List Value} : rn ca C_X0_findWay 88 L (.int x :: S) M = if x = iI 0 then rn ca C_X0_findWay 142 L S M else rn ca C_X0_findWay 91 L S M := (rn_at k_X0_findWay_88).trans rnx_ite
theorem k_X0_findWay_91 : lk 91 C_X0_findWay = some (.iload 9, (0, 0, 0, 0)) := by decide +kernel
theorem s_X0_findWay_91 {ca : Nat → List Value → tM → tO} {M : tM} {a0 a1 a2 a3 a4 a5 a6 a7 a8 : Option Value} {x : Int32} {S : List Value} : rn ca C_X0_findWay 91 [a0, a1, a2, a3, a4, a5, a6, a7, a8, some (.int x)] S M = rn ca C_X0_findWay 93 [a0, a1, a2, a3, a4, a5, a6, a7, a8, some (.int x)] (.int x :: S) M := (rn_at k_X0_findWay_91).trans rfl
theorem k_X0_findWay_93 : lk 93 C_X0_findWay = some (.ifCond .ne 49, (142, 0, 0, 0)) := by decide +kernel
theorem s_X0_findWay_93 {ca : Nat → List Value → tM → tO} {M : tM} {L : tL} {x : Int32} {S : List Value} : rn ca C_X0_findWay 93 L (.int x :: S) M = if ¬ x = iI 0 then rn ca C_X0_findWay 142 L S M else rn ca C_X0_findWay 96 L S M := (rn_at k_X0_findWay_93).trans rnx_ite
theorem k_X0_findWay_96 : lk 96 C_X0_findWay = some (.aload_n 0, (0, 0, 0, 0)) := by decide +kernel
theorem s_X0_findWay_96 {ca : Nat → List Value → tM → tO} {M : tM} {a1 a2 a3 a4 a5 a6 a7 a8 a9 : Option Value} {x : Nat} {S : List Value} : rn ca C_X0_findWay 96 [some (.ref x), a1, a2, a3, a4, a5, a6, a7, a8, a9] S M = rn ca C_X0_findWay 97 [some (.ref x), a1, a2, a3, a4, a5, a6, a7, a8, a9] (.ref x :: S) M := (rn_at k_X0_findWay_96).trans rfl
theorem k_X0_findWay_97 : lk 97 C_X0_findWay = some (.getfield 9, (0, 0, 0, 104)) := by decide +kernel
theorem s_X0_findWay_97 {ca : Nat → List Value → tM → tO} {M : tM} {L : tL} {b : Nat} {S : List Value} : rn ca C_X0_findWay 97 L (.ref b :: S) M = if clsO b = some 0 then rn ca C_X0_findWay 100 L (fv M b 0 :: S) M else none := (rn_at k_X0_findWay_97).trans rnx_ite
theorem k_X0_findWay_100 : lk 100 C_X0_findWay = some (.iload 7, (0, 0, 0, 0)) := by decide +kernel
theorem s_X0_findWay_100 {ca : Nat → List Value → tM → tO} {M : tM} {a0 a1 a2 a3 a4 a5 a6 a8 a9 : Option Value} {x : Int32} {S : List Value} : rn ca C_X0_findWay 100 [a0, a1, a2, a3, a4, a5, a6, some (.int x), a8, a9] S M = rn ca C_X0_findWay 102 [a0, a1, a2, a3, a4, a5, a6, some (.int x), a8, a9] (.int x :: S) M := (rn_at k_X0_findWay_100).trans rfl
theorem k_X0_findWay_102 : lk 102 C_X0_findWay = some (.iaload, (0, 0, 0, 0)) := by decide +kernel
theorem s_X0_findWay_102 {ca : Nat → List Value → tM → tO} {M : tM} {L : tL} {a : Nat} {i : Int32} {S : List Value} : rn ca C_X0_findWay 102 L (.int i :: .ref a :: S) M = if (akind a = 0 ∨ akind a = 6 ∨ akind a = 7) ∧ inb i (alen M a) then rn ca C_X0_findWay 103 L (.int (M.1 a i.toInt.toNat) :: S) M else none := (rn_at k_X0_findWay_102).trans rnx_ite
theorem k_X0_findWay_103 : lk 103 C_X0_findWay = some (.aload_n 2, (0, 0, 0, 0)) := by decide +kernel
theorem s_X0_findWay_103 {ca : Nat → List Value → tM → tO} {M : tM} {a0 a1 a3 a4 a5 a6 a7 a8 a9 : Option Value} {x : Nat} {S : List Value} : rn ca C_X0_findWay 103 [a0, a1, some (.ref x), a3, a4, a5, a6, a7, a8, a9] S M = rn ca C_X0_findWay 104 [a0, a1, some (.ref x), a3, a4, a5, a6, a7, a8, a9] (.ref x :: S) M := (rn_at k_X0_findWay_103).trans rfl
theorem k_X0_findWay_104 : lk 104 C_X0_findWay = some (.getfield 24, (9, 1, 0, 100038)) := by decide +kernel
theorem s_X0_findWay_104 {ca : Nat → List Value → tM → tO} {M : tM} {L : tL} {b : Nat} {S : List Value} : rn ca C_X0_findWay 104 L (.ref b :: S) M = if clsO b = some 9 then rn ca C_X0_findWay 107 L (fv M b 1 :: S) M else none := (rn_at k_X0_findWay_104).trans rnx_ite
theorem k_X0_findWay_107 : lk 107 C_X0_findWay = some (.iload 7, (0, 0, 0, 0)) := by decide +kernel
theorem s_X0_findWay_107 {ca : Nat → List Value → tM → tO} {M : tM} {a0 a1 a2 a3 a4 a5 a6 a8 a9 : Option Value} {x : Int32} {S : List Value} : rn ca C_X0_findWay 107 [a0, a1, a2, a3, a4, a5, a6, some (.int x), a8, a9] S M = rn ca C_X0_findWay 109 [a0, a1, a2, a3, a4, a5, a6, some (.int x), a8, a9] (.int x :: S) M := (rn_at k_X0_findWay_107).trans rfl
theorem k_X0_findWay_109 : lk 109 C_X0_findWay = some (.baload, (0, 0, 0, 0)) := by decide +kernel
theorem s_X0_findWay_109 {ca : Nat → List Value → tM → tO} {M : tM} {L : tL} {a : Nat} {i : Int32} {S : List Value} : rn ca C_X0_findWay 109 L (.int i :: .ref a :: S) M = if akind a = 1 ∧ inb i (alen M a) then rn ca C_X0_findWay 110 L (.int (M.1 a i.toInt.toNat) :: S) M else none := (rn_at k_X0_findWay_109).trans rnx_ite
theorem k_X0_findWay_110 : lk 110 C_X0_findWay = some (.ifCond .eq 7, (117, 0, 0, 0)) := by decide +kernel
theorem s_X0_findWay_110 {ca : Nat → List Value → tM → tO} {M : tM} {L : tL} {x : Int32} {S : List Value} : rn ca C_X0_findWay 110 L (.int x :: S) M = if x = iI 0 then rn ca C_X0_findWay 117 L S M else rn ca C_X0_findWay 113 L S M := (rn_at k_X0_findWay_110).trans rnx_ite
theorem k_X0_findWay_113 : lk 113 C_X0_findWay = some (.iconst 1, (0, 0, 0, 0)) := by decide +kernel
theorem s_X0_findWay_113 {ca : Nat → List Value → tM → tO} {M : tM} {L : tL} {S : List Value} : rn ca C_X0_findWay 113 L S M = rn ca C_X0_findWay 114 L (.int (iI 1) :: S) M := (rn_at k_X0_findWay_113).trans rfl
theorem k_X0_findWay_114 : lk 114 C_X0_findWay = some (.goto 4, (118, 0, 0, 0)) := by decide +kernel
theorem s_X0_findWay_114 {ca : Nat → List Value → tM → tO} {M : tM} {L : tL} {S : List Value} : rn ca C_X0_findWay 114 L S M = rn ca C_X0_findWay 118 L S M := (rn_at k_X0_findWay_114).trans rfl
theorem k_X0_findWay_117 : lk 117 C_X0_findWay = some (.iconst 0, (0, 0, 0, 0)) := by decide +kernel
theorem s_X0_findWay_117 {ca : Nat → List Value → tM → tO} {M : tM} {L : tL} {S : List Value} : rn ca C_X0_findWay 117 L S M = rn ca C_X0_findWay 118 L (.int (iI 0) :: S) M := (rn_at k_X0_findWay_117).trans rfl
theorem k_X0_findWay_118 : lk 118 C_X0_findWay = some (.if_icmp .ge 24, (142, 0, 0, 0)) := by decide +kernel
theorem s_X0_findWay_118 {ca : Nat → List Value → tM → tO} {M : tM} {L : tL} {x y : Int32} {S : List Value} : rn ca C_X0_findWay 118 L (.int y :: .int x :: S) M = if y ≤ x then rn ca C_X0_findWay 142 L S M else rn ca C_X0_findWay 121 L S M := (rn_at k_X0_findWay_118).trans rnx_ite
theorem k_X0_findWay_121 : lk 121 C_X0_findWay = some (.iload 5, (0, 0, 0, 0)) := by decide +kernel
theorem s_X0_findWay_121 {ca : Nat → List Value → tM → tO} {M : tM} {a0 a1 a2 a3 a4 a6 a7 a8 a9 : Option Value} {x : Int32} {S : List Value} : rn ca C_X0_findWay 121 [a0, a1, a2, a3, a4, some (.int x), a6, a7, a8, a9] S M = rn ca C_X0_findWay 123 [a0, a1, a2, a3, a4, some (.int x), a6, a7, a8, a9] (.int x :: S) M := (rn_at k_X0_findWay_121).trans rfl
theorem k_X0_findWay_123 : lk 123 C_X0_findWay = some (.aload_n 0, (0, 0, 0, 0)) := by decide +kernel
theorem s_X0_findWay_123 {ca : Nat → List Value → tM → tO} {M : tM} {a1 a2 a3 a4 a5 a6 a7 a8 a9 : Option Value} {x : Nat} {S : List Value} : rn ca C_X0_findWay 123 [some (.ref x), a1, a2, a3, a4, a5, a6, a7, a8, a9] S M = rn ca C_X0_findWay 124 [some (.ref x), a1, a2, a3, a4, a5, a6, a7, a8, a9] (.ref x :: S) M := (rn_at k_X0_findWay_123).trans rfl
theorem k_X0_findWay_124 : lk 124 C_X0_findWay = some (.iload 7, (0, 0, 0, 0)) := by decide +kernel
theorem s_X0_findWay_124 {ca : Nat → List Value → tM → tO} {M : tM} {a0 a1 a2 a3 a4 a5 a6 a8 a9 : Option Value} {x : Int32} {S : List Value} : rn ca C_X0_findWay 124 [a0, a1, a2, a3, a4, a5, a6, some (.int x), a8, a9] S M = rn ca C_X0_findWay 126 [a0, a1, a2, a3, a4, a5, a6, some (.int x), a8, a9] (.int x :: S) M := (rn_at k_X0_findWay_124).trans rfl
theorem k_X0_findWay_126 : lk 126 C_X0_findWay = some (.aload_n 1, (0, 0, 0, 0)) := by decide +kernel
theorem s_X0_findWay_126 {ca : Nat → List Value → tM → tO} {M : tM} {a0 a2 a3 a4 a5 a6 a7 a8 a9 : Option Value} {x : Nat} {S : List Value} : rn ca C_X0_findWay 126 [a0, some (.ref x), a2, a3, a4, a5, a6, a7, a8, a9] S M = rn ca C_X0_findWay 127 [a0, some (.ref x), a2, a3, a4, a5, a6, a7, a8, a9] (.ref x :: S) M := (rn_at k_X0_findWay_126).trans rfl
theorem k_X0_findWay_127 : lk 127 C_X0_findWay = some (.getfield 33, (4, 4, 0, 100016)) := by decide +kernel
theorem s_X0_findWay_127 {ca : Nat → List Value → tM → tO} {M : tM} {L : tL} {b : Nat} {S : List Value} : rn ca C_X0_findWay 127 L (.ref b :: S) M = if clsO b = some 4 then rn ca C_X0_findWay 130 L (fv M b 4 :: S) M else none := (rn_at k_X0_findWay_127).trans rnx_ite
theorem k_X0_findWay_130 : lk 130 C_X0_findWay = some (.iload 7, (0, 0, 0, 0)) := by decide +kernel
theorem s_X0_findWay_130 {ca : Nat → List Value → tM → tO} {M : tM} {a0 a1 a2 a3 a4 a5 a6 a8 a9 : Option Value} {x : Int32} {S : List Value} : rn ca C_X0_findWay 130 [a0, a1, a2, a3, a4, a5, a6, some (.int x), a8, a9] S M = rn ca C_X0_findWay 132 [a0, a1, a2, a3, a4, a5, a6, some (.int x), a8, a9] (.int x :: S) M := (rn_at k_X0_findWay_130).trans rfl
theorem k_X0_findWay_132 : lk 132 C_X0_findWay = some (.iaload, (0, 0, 0, 0)) := by decide +kernel
theorem s_X0_findWay_132 {ca : Nat → List Value → tM → tO} {M : tM} {L : tL} {a : Nat} {i : Int32} {S : List Value} : rn ca C_X0_findWay 132 L (.int i :: .ref a :: S) M = if (akind a = 0 ∨ akind a = 6 ∨ akind a = 7) ∧ inb i (alen M a) then rn ca C_X0_findWay 133 L (.int (M.1 a i.toInt.toNat) :: S) M else none := (rn_at k_X0_findWay_132).trans rnx_ite
theorem k_X0_findWay_133 : lk 133 C_X0_findWay = some (.invokevirtual 57, (4, 2, 0, 906)) := by decide +kernel
theorem s_X0_findWay_133 {ca : Nat → List Value → tM → tO} {M : tM} {L : tL} {v1 v2 : Value} {r0 : Int32} {b : Nat} : rn ca C_X0_findWay 133 L [v2, v1, .ref b, .int r0] M = if clsO b = some 0 then rnk ca C_X0_findWay 136 L [.int r0] (ca m_X0_comeBy [.ref b, v1, v2] M) else none := (rn_at k_X0_findWay_133).trans rnx_ite
theorem k_X0_findWay_136 : lk 136 C_X0_findWay = some (.ior, (0, 0, 0, 0)) := by decide +kernel
theorem s_X0_findWay_136 {ca : Nat → List Value → tM → tO} {M : tM} {L : tL} {x y : Int32} {S : List Value} : rn ca C_X0_findWay 136 L (.int y :: .int x :: S) M = rn ca C_X0_findWay 137 L (.int (x ||| y) :: S) M := (rn_at k_X0_findWay_136).trans rfl
theorem k_X0_findWay_137 : lk 137 C_X0_findWay = some (.istore 5, (0, 0, 0, 0)) := by decide +kernel
theorem s_X0_findWay_137 {ca : Nat → List Value → tM → tO} {M : tM} {a0 a1 a2 a3 a4 a5 a6 a7 a8 a9 : Option Value} {x : Int32} {S : List Value} : rn ca C_X0_findWay 137 [a0, a1, a2, a3, a4, a5, a6, a7, a8, a9] (.int x :: S) M = rn ca C_X0_findWay 139 [a0, a1, a2, a3, a4, some (.int x), a6, a7, a8, a9] S M := (rn_at k_X0_findWay_137).trans rfl
theorem k_X0_findWay_139 : lk 139 C_X0_findWay = some (.goto 57, (196, 0, 0, 0)) := by decide +kernel
theorem s_X0_findWay_139 {ca : Nat → List Value → tM → tO} {M : tM} {L : tL} {S : List Value} : rn ca C_X0_findWay 139 L S M = rn ca C_X0_findWay 196 L S M := (rn_at k_X0_findWay_139).trans rfl
theorem k_X0_findWay_142 : lk 142 C_X0_findWay = some (.iload 9, (0, 0, 0, 0)) := by decide +kernel
theorem s_X0_findWay_142 {ca : Nat → List Value → tM → tO} {M : tM} {a0 a1 a2 a3 a4 a5 a6 a7 a8 : Option Value} {x : Int32} {S : List Value} : rn ca C_X0_findWay 142 [a0, a1, a2, a3, a4, a5, a6, a7, a8, some (.int x)] S M = rn ca C_X0_findWay 144 [a0, a1, a2, a3, a4, a5, a6, a7, a8, some (.int x)] (.int x :: S) M := (rn_at k_X0_findWay_142).trans rfl
theorem k_X0_findWay_144 : lk 144 C_X0_findWay = some (.ifCond .eq 52, (196, 0, 0, 0)) := by decide +kernel
theorem s_X0_findWay_144 {ca : Nat → List Value → tM → tO} {M : tM} {L : tL} {x : Int32} {S : List Value} : rn ca C_X0_findWay 144 L (.int x :: S) M = if x = iI 0 then rn ca C_X0_findWay 196 L S M else rn ca C_X0_findWay 147 L S M := (rn_at k_X0_findWay_144).trans rnx_ite
theorem k_X0_findWay_147 : lk 147 C_X0_findWay = some (.iload 8, (0, 0, 0, 0)) := by decide +kernel
theorem s_X0_findWay_147 {ca : Nat → List Value → tM → tO} {M : tM} {a0 a1 a2 a3 a4 a5 a6 a7 a9 : Option Value} {x : Int32} {S : List Value} : rn ca C_X0_findWay 147 [a0, a1, a2, a3, a4, a5, a6, a7, some (.int x), a9] S M = rn ca C_X0_findWay 149 [a0, a1, a2, a3, a4, a5, a6, a7, some (.int x), a9] (.int x :: S) M := (rn_at k_X0_findWay_147).trans rfl
theorem k_X0_findWay_149 : lk 149 C_X0_findWay = some (.ifCond .ne 47, (196, 0, 0, 0)) := by decide +kernel
theorem s_X0_findWay_149 {ca : Nat → List Value → tM → tO} {M : tM} {L : tL} {x : Int32} {S : List Value} : rn ca C_X0_findWay 149 L (.int x :: S) M = if ¬ x = iI 0 then rn ca C_X0_findWay 196 L S M else rn ca C_X0_findWay 152 L S M := (rn_at k_X0_findWay_149).trans rnx_ite
theorem k_X0_findWay_152 : lk 152 C_X0_findWay = some (.aload_n 0, (0, 0, 0, 0)) := by decide +kernel
theorem s_X0_findWay_152 {ca : Nat → List Value → tM → tO} {M : tM} {a1 a2 a3 a4 a5 a6 a7 a8 a9 : Option Value} {x : Nat} {S : List Value} : rn ca C_X0_findWay 152 [some (.ref x), a1, a2, a3, a4, a5, a6, a7, a8, a9] S M = rn ca C_X0_findWay 153 [some (.ref x), a1, a2, a3, a4, a5, a6, a7, a8, a9] (.ref x :: S) M := (rn_at k_X0_findWay_152).trans rfl
theorem k_X0_findWay_153 : lk 153 C_X0_findWay = some (.getfield 9, (0, 0, 0, 104)) := by decide +kernel
theorem s_X0_findWay_153 {ca : Nat → List Value → tM → tO} {M : tM} {L : tL} {b : Nat} {S : List Value} : rn ca C_X0_findWay 153 L (.ref b :: S) M = if clsO b = some 0 then rn ca C_X0_findWay 156 L (fv M b 0 :: S) M else none := (rn_at k_X0_findWay_153).trans rnx_ite
theorem k_X0_findWay_156 : lk 156 C_X0_findWay = some (.iload 7, (0, 0, 0, 0)) := by decide +kernel
theorem s_X0_findWay_156 {ca : Nat → List Value → tM → tO} {M : tM} {a0 a1 a2 a3 a4 a5 a6 a8 a9 : Option Value} {x : Int32} {S : List Value} : rn ca C_X0_findWay 156 [a0, a1, a2, a3, a4, a5, a6, some (.int x), a8, a9] S M = rn ca C_X0_findWay 158 [a0, a1, a2, a3, a4, a5, a6, some (.int x), a8, a9] (.int x :: S) M := (rn_at k_X0_findWay_156).trans rfl
theorem k_X0_findWay_158 : lk 158 C_X0_findWay = some (.iaload, (0, 0, 0, 0)) := by decide +kernel
theorem s_X0_findWay_158 {ca : Nat → List Value → tM → tO} {M : tM} {L : tL} {a : Nat} {i : Int32} {S : List Value} : rn ca C_X0_findWay 158 L (.int i :: .ref a :: S) M = if (akind a = 0 ∨ akind a = 6 ∨ akind a = 7) ∧ inb i (alen M a) then rn ca C_X0_findWay 159 L (.int (M.1 a i.toInt.toNat) :: S) M else none := (rn_at k_X0_findWay_158).trans rnx_ite
theorem k_X0_findWay_159 : lk 159 C_X0_findWay = some (.ineg, (0, 0, 0, 0)) := by decide +kernel
theorem s_X0_findWay_159 {ca : Nat → List Value → tM → tO} {M : tM} {L : tL} {x : Int32} {S : List Value} : rn ca C_X0_findWay 159 L (.int x :: S) M = rn ca C_X0_findWay 160 L (.int (-x) :: S) M := (rn_at k_X0_findWay_159).trans rfl
theorem k_X0_findWay_160 : lk 160 C_X0_findWay = some (.aload_n 2, (0, 0, 0, 0)) := by decide +kernel
theorem s_X0_findWay_160 {ca : Nat → List Value → tM → tO} {M : tM} {a0 a1 a3 a4 a5 a6 a7 a8 a9 : Option Value} {x : Nat} {S : List Value} : rn ca C_X0_findWay 160 [a0, a1, some (.ref x), a3, a4, a5, a6, a7, a8, a9] S M = rn ca C_X0_findWay 161 [a0, a1, some (.ref x), a3, a4, a5, a6, a7, a8, a9] (.ref x :: S) M := (rn_at k_X0_findWay_160).trans rfl
theorem k_X0_findWay_161 : lk 161 C_X0_findWay = some (.getfield 36, (9, 2, 0, 100039)) := by decide +kernel
theorem s_X0_findWay_161 {ca : Nat → List Value → tM → tO} {M : tM} {L : tL} {b : Nat} {S : List Value} : rn ca C_X0_findWay 161 L (.ref b :: S) M = if clsO b = some 9 then rn ca C_X0_findWay 164 L (fv M b 2 :: S) M else none := (rn_at k_X0_findWay_161).trans rnx_ite
theorem k_X0_findWay_164 : lk 164 C_X0_findWay = some (.iload 7, (0, 0, 0, 0)) := by decide +kernel
theorem s_X0_findWay_164 {ca : Nat → List Value → tM → tO} {M : tM} {a0 a1 a2 a3 a4 a5 a6 a8 a9 : Option Value} {x : Int32} {S : List Value} : rn ca C_X0_findWay 164 [a0, a1, a2, a3, a4, a5, a6, some (.int x), a8, a9] S M = rn ca C_X0_findWay 166 [a0, a1, a2, a3, a4, a5, a6, some (.int x), a8, a9] (.int x :: S) M := (rn_at k_X0_findWay_164).trans rfl
theorem k_X0_findWay_166 : lk 166 C_X0_findWay = some (.baload, (0, 0, 0, 0)) := by decide +kernel
theorem s_X0_findWay_166 {ca : Nat → List Value → tM → tO} {M : tM} {L : tL} {a : Nat} {i : Int32} {S : List Value} : rn ca C_X0_findWay 166 L (.int i :: .ref a :: S) M = if akind a = 1 ∧ inb i (alen M a) then rn ca C_X0_findWay 167 L (.int (M.1 a i.toInt.toNat) :: S) M else none := (rn_at k_X0_findWay_166).trans rnx_ite
theorem k_X0_findWay_167 : lk 167 C_X0_findWay = some (.ifCond .eq 7, (174, 0, 0, 0)) := by decide +kernel
theorem s_X0_findWay_167 {ca : Nat → List Value → tM → tO} {M : tM} {L : tL} {x : Int32} {S : List Value} : rn ca C_X0_findWay 167 L (.int x :: S) M = if x = iI 0 then rn ca C_X0_findWay 174 L S M else rn ca C_X0_findWay 170 L S M := (rn_at k_X0_findWay_167).trans rnx_ite
theorem k_X0_findWay_170 : lk 170 C_X0_findWay = some (.iconst 1, (0, 0, 0, 0)) := by decide +kernel
theorem s_X0_findWay_170 {ca : Nat → List Value → tM → tO} {M : tM} {L : tL} {S : List Value} : rn ca C_X0_findWay 170 L S M = rn ca C_X0_findWay 171 L (.int (iI 1) :: S) M := (rn_at k_X0_findWay_170).trans rfl
theorem k_X0_findWay_171 : lk 171 C_X0_findWay = some (.goto 4, (175, 0, 0, 0)) := by decide +kernel
theorem s_X0_findWay_171 {ca : Nat → List Value → tM → tO} {M : tM} {L : tL} {S : List Value} : rn ca C_X0_findWay 171 L S M = rn ca C_X0_findWay 175 L S M := (rn_at k_X0_findWay_171).trans rfl
theorem k_X0_findWay_174 : lk 174 C_X0_findWay = some (.iconst 0, (0, 0, 0, 0)) := by decide +kernel
theorem s_X0_findWay_174 {ca : Nat → List Value → tM → tO} {M : tM} {L : tL} {S : List Value} : rn ca C_X0_findWay 174 L S M = rn ca C_X0_findWay 175 L (.int (iI 0) :: S) M := (rn_at k_X0_findWay_174).trans rfl
theorem k_X0_findWay_175 : lk 175 C_X0_findWay = some (.if_icmp .ge 21, (196, 0, 0, 0)) := by decide +kernel
theorem s_X0_findWay_175 {ca : Nat → List Value → tM → tO} {M : tM} {L : tL} {x y : Int32} {S : List Value} : rn ca C_X0_findWay 175 L (.int y :: .int x :: S) M = if y ≤ x then rn ca C_X0_findWay 196 L S M else rn ca C_X0_findWay 178 L S M := (rn_at k_X0_findWay_175).trans rnx_ite
theorem k_X0_findWay_178 : lk 178 C_X0_findWay = some (.iload 5, (0, 0, 0, 0)) := by decide +kernel
theorem s_X0_findWay_178 {ca : Nat → List Value → tM → tO} {M : tM} {a0 a1 a2 a3 a4 a6 a7 a8 a9 : Option Value} {x : Int32} {S : List Value} : rn ca C_X0_findWay 178 [a0, a1, a2, a3, a4, some (.int x), a6, a7, a8, a9] S M = rn ca C_X0_findWay 180 [a0, a1, a2, a3, a4, some (.int x), a6, a7, a8, a9] (.int x :: S) M := (rn_at k_X0_findWay_178).trans rfl
theorem k_X0_findWay_180 : lk 180 C_X0_findWay = some (.aload_n 0, (0, 0, 0, 0)) := by decide +kernel
theorem s_X0_findWay_180 {ca : Nat → List Value → tM → tO} {M : tM} {a1 a2 a3 a4 a5 a6 a7 a8 a9 : Option Value} {x : Nat} {S : List Value} : rn ca C_X0_findWay 180 [some (.ref x), a1, a2, a3, a4, a5, a6, a7, a8, a9] S M = rn ca C_X0_findWay 181 [some (.ref x), a1, a2, a3, a4, a5, a6, a7, a8, a9] (.ref x :: S) M := (rn_at k_X0_findWay_180).trans rfl
theorem k_X0_findWay_181 : lk 181 C_X0_findWay = some (.iload 7, (0, 0, 0, 0)) := by decide +kernel
theorem s_X0_findWay_181 {ca : Nat → List Value → tM → tO} {M : tM} {a0 a1 a2 a3 a4 a5 a6 a8 a9 : Option Value} {x : Int32} {S : List Value} : rn ca C_X0_findWay 181 [a0, a1, a2, a3, a4, a5, a6, some (.int x), a8, a9] S M = rn ca C_X0_findWay 183 [a0, a1, a2, a3, a4, a5, a6, some (.int x), a8, a9] (.int x :: S) M := (rn_at k_X0_findWay_181).trans rfl
theorem k_X0_findWay_183 : lk 183 C_X0_findWay = some (.aload_n 1, (0, 0, 0, 0)) := by decide +kernel
theorem s_X0_findWay_183 {ca : Nat → List Value → tM → tO} {M : tM} {a0 a2 a3 a4 a5 a6 a7 a8 a9 : Option Value} {x : Nat} {S : List Value} : rn ca C_X0_findWay 183 [a0, some (.ref x), a2, a3, a4, a5, a6, a7, a8, a9] S M = rn ca C_X0_findWay 184 [a0, some (.ref x), a2, a3, a4, a5, a6, a7, a8, a9] (.ref x :: S) M := (rn_at k_X0_findWay_183).trans rfl
theorem k_X0_findWay_184 : lk 184 C_X0_findWay = some (.getfield 30, (4, 3, 0, 100011)) := by decide +kernel
theorem s_X0_findWay_184 {ca : Nat → List Value → tM → tO} {M : tM} {L : tL} {b : Nat} {S : List Value} : rn ca C_X0_findWay 184 L (.ref b :: S) M = if clsO b = some 4 then rn ca C_X0_findWay 187 L (fv M b 3 :: S) M else none := (rn_at k_X0_findWay_184).trans rnx_ite
theorem k_X0_findWay_187 : lk 187 C_X0_findWay = some (.iload 7, (0, 0, 0, 0)) := by decide +kernel
theorem s_X0_findWay_187 {ca : Nat → List Value → tM → tO} {M : tM} {a0 a1 a2 a3 a4 a5 a6 a8 a9 : Option Value} {x : Int32} {S : List Value} : rn ca C_X0_findWay 187 [a0, a1, a2, a3, a4, a5, a6, some (.int x), a8, a9] S M = rn ca C_X0_findWay 189 [a0, a1, a2, a3, a4, a5, a6, some (.int x), a8, a9] (.int x :: S) M := (rn_at k_X0_findWay_187).trans rfl
theorem k_X0_findWay_189 : lk 189 C_X0_findWay = some (.iaload, (0, 0, 0, 0)) := by decide +kernel
theorem s_X0_findWay_189 {ca : Nat → List Value → tM → tO} {M : tM} {L : tL} {a : Nat} {i : Int32} {S : List Value} : rn ca C_X0_findWay 189 L (.int i :: .ref a :: S) M = if (akind a = 0 ∨ akind a = 6 ∨ akind a = 7) ∧ inb i (alen M a) then rn ca C_X0_findWay 190 L (.int (M.1 a i.toInt.toNat) :: S) M else none := (rn_at k_X0_findWay_189).trans rnx_ite
theorem k_X0_findWay_190 : lk 190 C_X0_findWay = some (.invokevirtual 57, (4, 2, 0, 906)) := by decide +kernel
theorem s_X0_findWay_190 {ca : Nat → List Value → tM → tO} {M : tM} {L : tL} {v1 v2 : Value} {r0 : Int32} {b : Nat} : rn ca C_X0_findWay 190 L [v2, v1, .ref b, .int r0] M = if clsO b = some 0 then rnk ca C_X0_findWay 193 L [.int r0] (ca m_X0_comeBy [.ref b, v1, v2] M) else none := (rn_at k_X0_findWay_190).trans rnx_ite
theorem k_X0_findWay_193 : lk 193 C_X0_findWay = some (.ior, (0, 0, 0, 0)) := by decide +kernel
theorem s_X0_findWay_193 {ca : Nat → List Value → tM → tO} {M : tM} {L : tL} {x y : Int32} {S : List Value} : rn ca C_X0_findWay 193 L (.int y :: .int x :: S) M = rn ca C_X0_findWay 194 L (.int (x ||| y) :: S) M := (rn_at k_X0_findWay_193).trans rfl
theorem k_X0_findWay_194 : lk 194 C_X0_findWay = some (.istore 5, (0, 0, 0, 0)) := by decide +kernel
theorem s_X0_findWay_194 {ca : Nat → List Value → tM → tO} {M : tM} {a0 a1 a2 a3 a4 a5 a6 a7 a8 a9 : Option Value} {x : Int32} {S : List Value} : rn ca C_X0_findWay 194 [a0, a1, a2, a3, a4, a5, a6, a7, a8, a9] (.int x :: S) M = rn ca C_X0_findWay 196 [a0, a1, a2, a3, a4, some (.int x), a6, a7, a8, a9] S M := (rn_at k_X0_findWay_194).trans rfl
theorem k_X0_findWay_196 : lk 196 C_X0_findWay = some (.iinc 7 1, (0, 0, 0, 0)) := by decide +kernel
theorem s_X0_findWay_196 {ca : Nat → List Value → tM → tO} {M : tM} {a0 a1 a2 a3 a4 a5 a6 a8 a9 : Option Value} {x : Int32} {S : List Value} : rn ca C_X0_findWay 196 [a0, a1, a2, a3, a4, a5, a6, some (.int x), a8, a9] S M = rn ca C_X0_findWay 199 [a0, a1, a2, a3, a4, a5, a6, some (.int (x + iI 1)), a8, a9] S M := (rn_at k_X0_findWay_196).trans rfl
theorem k_X0_findWay_199 : lk 199 C_X0_findWay = some (.goto (-173), (26, 0, 0, 0)) := by decide +kernel
theorem s_X0_findWay_199 {ca : Nat → List Value → tM → tO} {M : tM} {L : tL} {S : List Value} : rn ca C_X0_findWay 199 L S M = rn ca C_X0_findWay 26 L S M := (rn_at k_X0_findWay_199).trans rfl
theorem k_X0_findWay_202 : lk 202 C_X0_findWay = some (.iinc 6 1, (0, 0, 0, 0)) := by decide +kernel
theorem s_X0_findWay_202 {ca : Nat → List Value → tM → tO} {M : tM} {a0 a1 a2 a3 a4 a5 a7 a8 a9 : Option Value} {x : Int32} {S : List Value} : rn ca C_X0_findWay 202 [a0, a1, a2, a3, a4, a5, some (.int x), a7, a8, a9] S M = rn ca C_X0_findWay 205 [a0, a1, a2, a3, a4, a5, some (.int (x + iI 1)), a7, a8, a9] S M := (rn_at k_X0_findWay_202).trans rfl
theorem k_X0_findWay_205 : lk 205 C_X0_findWay = some (.goto (-189), (16, 0, 0, 0)) := by decide +kernel
theorem s_X0_findWay_205 {ca : Nat → List Value → tM → tO} {M : tM} {L : tL} {S : List Value} : rn ca C_X0_findWay 205 L S M = rn ca C_X0_findWay 16 L S M := (rn_at k_X0_findWay_205).trans rfl
theorem k_X0_findWay_208 : lk 208 C_X0_findWay = some (.iload 5, (0, 0, 0, 0)) := by decide +kernel
theorem s_X0_findWay_208 {ca : Nat → List Value → tM → tO} {M : tM} {a0 a1 a2 a3 a4 a6 a7 a8 a9 : Option Value} {x : Int32} {S : List Value} : rn ca C_X0_findWay 208 [a0, a1, a2, a3, a4, some (.int x), a6, a7, a8, a9] S M = rn ca C_X0_findWay 210 [a0, a1, a2, a3, a4, some (.int x), a6, a7, a8, a9] (.int x :: S) M := (rn_at k_X0_findWay_208).trans rfl
theorem k_X0_findWay_210 : lk 210 C_X0_findWay = some (.iconst 1, (0, 0, 0, 0)) := by decide +kernel
theorem s_X0_findWay_210 {ca : Nat → List Value → tM → tO} {M : tM} {L : tL} {S : List Value} : rn ca C_X0_findWay 210 L S M = rn ca C_X0_findWay 211 L (.int (iI 1) :: S) M := (rn_at k_X0_findWay_210).trans rfl
theorem k_X0_findWay_211 : lk 211 C_X0_findWay = some (.iload 4, (0, 0, 0, 0)) := by decide +kernel
theorem s_X0_findWay_211 {ca : Nat → List Value → tM → tO} {M : tM} {a0 a1 a2 a3 a5 a6 a7 a8 a9 : Option Value} {x : Int32} {S : List Value} : rn ca C_X0_findWay 211 [a0, a1, a2, a3, some (.int x), a5, a6, a7, a8, a9] S M = rn ca C_X0_findWay 213 [a0, a1, a2, a3, some (.int x), a5, a6, a7, a8, a9] (.int x :: S) M := (rn_at k_X0_findWay_211).trans rfl
theorem k_X0_findWay_213 : lk 213 C_X0_findWay = some (.ishl, (0, 0, 0, 0)) := by decide +kernel
theorem s_X0_findWay_213 {ca : Nat → List Value → tM → tO} {M : tM} {L : tL} {x y : Int32} {S : List Value} : rn ca C_X0_findWay 213 L (.int y :: .int x :: S) M = rn ca C_X0_findWay 214 L (.int (x <<< (y &&& 31)) :: S) M := (rn_at k_X0_findWay_213).trans rfl
theorem k_X0_findWay_214 : lk 214 C_X0_findWay = some (.iand, (0, 0, 0, 0)) := by decide +kernel
theorem s_X0_findWay_214 {ca : Nat → List Value → tM → tO} {M : tM} {L : tL} {x y : Int32} {S : List Value} : rn ca C_X0_findWay 214 L (.int y :: .int x :: S) M = rn ca C_X0_findWay 215 L (.int (x &&& y) :: S) M := (rn_at k_X0_findWay_214).trans rfl
theorem k_X0_findWay_215 : lk 215 C_X0_findWay = some (.ifCond .eq 7, (222, 0, 0, 0)) := by decide +kernel
theorem s_X0_findWay_215 {ca : Nat → List Value → tM → tO} {M : tM} {L : tL} {x : Int32} {S : List Value} : rn ca C_X0_findWay 215 L (.int x :: S) M = if x = iI 0 then rn ca C_X0_findWay 222 L S M else rn ca C_X0_findWay 218 L S M := (rn_at k_X0_findWay_215).trans rnx_ite
theorem k_X0_findWay_218 : lk 218 C_X0_findWay = some (.iconst 1, (0, 0, 0, 0)) := by decide +kernel
theorem s_X0_findWay_218 {ca : Nat → List Value → tM → tO} {M : tM} {L : tL} {S : List Value} : rn ca C_X0_findWay 218 L S M = rn ca C_X0_findWay 219 L (.int (iI 1) :: S) M := (rn_at k_X0_findWay_218).trans rfl
theorem k_X0_findWay_219 : lk 219 C_X0_findWay = some (.goto 4, (223, 0, 0, 0)) := by decide +kernel
theorem s_X0_findWay_219 {ca : Nat → List Value → tM → tO} {M : tM} {L : tL} {S : List Value} : rn ca C_X0_findWay 219 L S M = rn ca C_X0_findWay 223 L S M := (rn_at k_X0_findWay_219).trans rfl
theorem k_X0_findWay_222 : lk 222 C_X0_findWay = some (.iconst 0, (0, 0, 0, 0)) := by decide +kernel
theorem s_X0_findWay_222 {ca : Nat → List Value → tM → tO} {M : tM} {L : tL} {S : List Value} : rn ca C_X0_findWay 222 L S M = rn ca C_X0_findWay 223 L (.int (iI 0) :: S) M := (rn_at k_X0_findWay_222).trans rfl
theorem k_X0_findWay_223 : lk 223 C_X0_findWay = some (.ireturn, (1, 0, 0, 0)) := by decide +kernel
theorem s_X0_findWay_223 {ca : Nat → List Value → tM → tO} {M : tM} {L : tL} {x : Int32} : rn ca C_X0_findWay 223 L [.int x] M = if x = iI 0 ∨ x = iI 1 then some (some (.int x), M) else none := (rn_at k_X0_findWay_223).trans rnx_ite
theorem k_X0_comeBy_0 : lk 0 C_X0_comeBy = some (.iload_n 2, (0, 0, 0, 0)) := by decide +kernel
theorem s_X0_comeBy_0 {ca : Nat → List Value → tM → tO} {M : tM} {a0 a1 : Option Value} {x : Int32} {S : List Value} : rn ca C_X0_comeBy 0 [a0, a1, some (.int x)] S M = rn ca C_X0_comeBy 1 [a0, a1, some (.int x)] (.int x :: S) M := (rn_at k_X0_comeBy_0).trans rfl
theorem k_X0_comeBy_1 : lk 1 C_X0_comeBy = some (.invokestatic 61, (141, 1, 0, 100013)) := by decide +kernel
theorem s_X0_comeBy_1 {ca : Nat → List Value → tM → tO} {M : tM} {L : tL} {v1 : Value} : rn ca C_X0_comeBy 1 L [v1] M = rnk ca C_X0_comeBy 4 L [] (ca m_X10_isDeskNumber [v1] M) := (rn_at k_X0_comeBy_1).trans rfl
theorem k_X0_comeBy_4 : lk 4 C_X0_comeBy = some (.ifCond .ne 5, (9, 0, 0, 0)) := by decide +kernel
theorem s_X0_comeBy_4 {ca : Nat → List Value → tM → tO} {M : tM} {L : tL} {x : Int32} {S : List Value} : rn ca C_X0_comeBy 4 L (.int x :: S) M = if ¬ x = iI 0 then rn ca C_X0_comeBy 9 L S M else rn ca C_X0_comeBy 7 L S M := (rn_at k_X0_comeBy_4).trans rnx_ite
theorem k_X0_comeBy_7 : lk 7 C_X0_comeBy = some (.iconst 0, (0, 0, 0, 0)) := by decide +kernel
theorem s_X0_comeBy_7 {ca : Nat → List Value → tM → tO} {M : tM} {L : tL} {S : List Value} : rn ca C_X0_comeBy 7 L S M = rn ca C_X0_comeBy 8 L (.int (iI 0) :: S) M := (rn_at k_X0_comeBy_7).trans rfl
theorem k_X0_comeBy_8 : lk 8 C_X0_comeBy = some (.ireturn, (0, 0, 0, 0)) := by decide +kernel
theorem s_X0_comeBy_8 {ca : Nat → List Value → tM → tO} {M : tM} {L : tL} {x : Int32} : rn ca C_X0_comeBy 8 L [.int x] M = some (some (.int x), M) := (rn_at k_X0_comeBy_8).trans rfl
theorem k_X0_comeBy_9 : lk 9 C_X0_comeBy = some (.aload_n 0, (0, 0, 0, 0)) := by decide +kernel
theorem s_X0_comeBy_9 {ca : Nat → List Value → tM → tO} {M : tM} {a1 a2 : Option Value} {x : Nat} {S : List Value} : rn ca C_X0_comeBy 9 [some (.ref x), a1, a2] S M = rn ca C_X0_comeBy 10 [some (.ref x), a1, a2] (.ref x :: S) M := (rn_at k_X0_comeBy_9).trans rfl
theorem k_X0_comeBy_10 : lk 10 C_X0_comeBy = some (.getfield 15, (0, 1, 0, 105)) := by decide +kernel
theorem s_X0_comeBy_10 {ca : Nat → List Value → tM → tO} {M : tM} {L : tL} {b : Nat} {S : List Value} : rn ca C_X0_comeBy 10 L (.ref b :: S) M = if clsO b = some 0 then rn ca C_X0_comeBy 13 L (fv M b 1 :: S) M else none := (rn_at k_X0_comeBy_10).trans rnx_ite
theorem k_X0_comeBy_13 : lk 13 C_X0_comeBy = some (.iload_n 2, (0, 0, 0, 0)) := by decide +kernel
theorem s_X0_comeBy_13 {ca : Nat → List Value → tM → tO} {M : tM} {a0 a1 : Option Value} {x : Int32} {S : List Value} : rn ca C_X0_comeBy 13 [a0, a1, some (.int x)] S M = rn ca C_X0_comeBy 14 [a0, a1, some (.int x)] (.int x :: S) M := (rn_at k_X0_comeBy_13).trans rfl
theorem k_X0_comeBy_14 : lk 14 C_X0_comeBy = some (.iload_n 1, (0, 0, 0, 0)) := by decide +kernel
theorem s_X0_comeBy_14 {ca : Nat → List Value → tM → tO} {M : tM} {a0 a2 : Option Value} {x : Int32} {S : List Value} : rn ca C_X0_comeBy 14 [a0, some (.int x), a2] S M = rn ca C_X0_comeBy 15 [a0, some (.int x), a2] (.int x :: S) M := (rn_at k_X0_comeBy_14).trans rfl
theorem k_X0_comeBy_15 : lk 15 C_X0_comeBy = some (.iastore, (0, 0, 0, 0)) := by decide +kernel
theorem s_X0_comeBy_15 {ca : Nat → List Value → tM → tO} {M : tM} {L : tL} {a : Nat} {i x : Int32} {S : List Value} : rn ca C_X0_comeBy 15 L (.int x :: .int i :: .ref a :: S) M = if akind a = 0 ∧ inb i (alen M a) then rn ca C_X0_comeBy 16 L S (sI M a i.toInt.toNat x) else none := (rn_at k_X0_comeBy_15).trans rnx_ite
theorem k_X0_comeBy_16 : lk 16 C_X0_comeBy = some (.iconst 1, (0, 0, 0, 0)) := by decide +kernel
theorem s_X0_comeBy_16 {ca : Nat → List Value → tM → tO} {M : tM} {L : tL} {S : List Value} : rn ca C_X0_comeBy 16 L S M = rn ca C_X0_comeBy 17 L (.int (iI 1) :: S) M := (rn_at k_X0_comeBy_16).trans rfl
theorem k_X0_comeBy_17 : lk 17 C_X0_comeBy = some (.iload_n 2, (0, 0, 0, 0)) := by decide +kernel
theorem s_X0_comeBy_17 {ca : Nat → List Value → tM → tO} {M : tM} {a0 a1 : Option Value} {x : Int32} {S : List Value} : rn ca C_X0_comeBy 17 [a0, a1, some (.int x)] S M = rn ca C_X0_comeBy 18 [a0, a1, some (.int x)] (.int x :: S) M := (rn_at k_X0_comeBy_17).trans rfl
theorem k_X0_comeBy_18 : lk 18 C_X0_comeBy = some (.ishl, (0, 0, 0, 0)) := by decide +kernel
theorem s_X0_comeBy_18 {ca : Nat → List Value → tM → tO} {M : tM} {L : tL} {x y : Int32} {S : List Value} : rn ca C_X0_comeBy 18 L (.int y :: .int x :: S) M = rn ca C_X0_comeBy 19 L (.int (x <<< (y &&& 31)) :: S) M := (rn_at k_X0_comeBy_18).trans rfl
theorem k_X0_comeBy_19 : lk 19 C_X0_comeBy = some (.ireturn, (0, 0, 0, 0)) := by decide +kernel
theorem s_X0_comeBy_19 {ca : Nat → List Value → tM → tO} {M : tM} {L : tL} {x : Int32} : rn ca C_X0_comeBy 19 L [.int x] M = some (some (.int x), M) := (rn_at k_X0_comeBy_19).trans rfl
theorem k_X0_takeWay_0 : lk 0 C_X0_takeWay = some (.iload_n 3, (0, 0, 0, 0)) := by decide +kernel
theorem s_X0_takeWay_0 {ca : Nat → List Value → tM → tO} {M : tM} {a0 a1 a2 a4 a5 a6 : Option Value} {x : Int32} {S : List Value} : rn ca C_X0_takeWay 0 [a0, a1, a2, some (.int x), a4, a5, a6] S M = rn ca C_X0_takeWay 1 [a0, a1, a2, some (.int x), a4, a5, a6] (.int x :: S) M := (rn_at k_X0_takeWay_0).trans rfl
theorem k_X0_takeWay_1 : lk 1 C_X0_takeWay = some (.istore 4, (0, 0, 0, 0)) := by decide +kernel
theorem s_X0_takeWay_1 {ca : Nat → List Value → tM → tO} {M : tM} {a0 a1 a2 a3 a4 a5 a6 : Option Value} {x : Int32} {S : List Value} : rn ca C_X0_takeWay 1 [a0, a1, a2, a3, a4, a5, a6] (.int x :: S) M = rn ca C_X0_takeWay 3 [a0, a1, a2, a3, some (.int x), a5, a6] S M := (rn_at k_X0_takeWay_1).trans rfl
theorem k_X0_takeWay_3 : lk 3 C_X0_takeWay = some (.iconst 0, (0, 0, 0, 0)) := by decide +kernel
theorem s_X0_takeWay_3 {ca : Nat → List Value → tM → tO} {M : tM} {L : tL} {S : List Value} : rn ca C_X0_takeWay 3 L S M = rn ca C_X0_takeWay 4 L (.int (iI 0) :: S) M := (rn_at k_X0_takeWay_3).trans rfl
theorem k_X0_takeWay_4 : lk 4 C_X0_takeWay = some (.istore 5, (0, 0, 0, 0)) := by decide +kernel
theorem s_X0_takeWay_4 {ca : Nat → List Value → tM → tO} {M : tM} {a0 a1 a2 a3 a4 a5 a6 : Option Value} {x : Int32} {S : List Value} : rn ca C_X0_takeWay 4 [a0, a1, a2, a3, a4, a5, a6] (.int x :: S) M = rn ca C_X0_takeWay 6 [a0, a1, a2, a3, a4, some (.int x), a6] S M := (rn_at k_X0_takeWay_4).trans rfl
theorem k_X0_takeWay_6 : lk 6 C_X0_takeWay = some (.iload 5, (0, 0, 0, 0)) := by decide +kernel
theorem s_X0_takeWay_6 {ca : Nat → List Value → tM → tO} {M : tM} {a0 a1 a2 a3 a4 a6 : Option Value} {x : Int32} {S : List Value} : rn ca C_X0_takeWay 6 [a0, a1, a2, a3, a4, some (.int x), a6] S M = rn ca C_X0_takeWay 8 [a0, a1, a2, a3, a4, some (.int x), a6] (.int x :: S) M := (rn_at k_X0_takeWay_6).trans rfl
theorem k_X0_takeWay_8 : lk 8 C_X0_takeWay = some (.bipush 8, (0, 0, 0, 0)) := by decide +kernel
theorem s_X0_takeWay_8 {ca : Nat → List Value → tM → tO} {M : tM} {L : tL} {S : List Value} : rn ca C_X0_takeWay 8 L S M = rn ca C_X0_takeWay 10 L (.int (iI 8) :: S) M := (rn_at k_X0_takeWay_8).trans rfl
theorem k_X0_takeWay_10 : lk 10 C_X0_takeWay = some (.if_icmp .ge 97, (107, 0, 0, 0)) := by decide +kernel
theorem s_X0_takeWay_10 {ca : Nat → List Value → tM → tO} {M : tM} {L : tL} {x y : Int32} {S : List Value} : rn ca C_X0_takeWay 10 L (.int y :: .int x :: S) M = if y ≤ x then rn ca C_X0_takeWay 107 L S M else rn ca C_X0_takeWay 13 L S M := (rn_at k_X0_takeWay_10).trans rnx_ite
theorem k_X0_takeWay_13 : lk 13 C_X0_takeWay = some (.iload 4, (0, 0, 0, 0)) := by decide +kernel
theorem s_X0_takeWay_13 {ca : Nat → List Value → tM → tO} {M : tM} {a0 a1 a2 a3 a5 a6 : Option Value} {x : Int32} {S : List Value} : rn ca C_X0_takeWay 13 [a0, a1, a2, a3, some (.int x), a5, a6] S M = rn ca C_X0_takeWay 15 [a0, a1, a2, a3, some (.int x), a5, a6] (.int x :: S) M := (rn_at k_X0_takeWay_13).trans rfl
theorem k_X0_takeWay_15 : lk 15 C_X0_takeWay = some (.iload_n 2, (0, 0, 0, 0)) := by decide +kernel
theorem s_X0_takeWay_15 {ca : Nat → List Value → tM → tO} {M : tM} {a0 a1 a3 a4 a5 a6 : Option Value} {x : Int32} {S : List Value} : rn ca C_X0_takeWay 15 [a0, a1, some (.int x), a3, a4, a5, a6] S M = rn ca C_X0_takeWay 16 [a0, a1, some (.int x), a3, a4, a5, a6] (.int x :: S) M := (rn_at k_X0_takeWay_15).trans rfl
theorem k_X0_takeWay_16 : lk 16 C_X0_takeWay = some (.if_icmp .eq 91, (107, 0, 0, 0)) := by decide +kernel
theorem s_X0_takeWay_16 {ca : Nat → List Value → tM → tO} {M : tM} {L : tL} {x y : Int32} {S : List Value} : rn ca C_X0_takeWay 16 L (.int y :: .int x :: S) M = if x = y then rn ca C_X0_takeWay 107 L S M else rn ca C_X0_takeWay 19 L S M := (rn_at k_X0_takeWay_16).trans rnx_ite
theorem k_X0_takeWay_19 : lk 19 C_X0_takeWay = some (.iload 4, (0, 0, 0, 0)) := by decide +kernel
theorem s_X0_takeWay_19 {ca : Nat → List Value → tM → tO} {M : tM} {a0 a1 a2 a3 a5 a6 : Option Value} {x : Int32} {S : List Value} : rn ca C_X0_takeWay 19 [a0, a1, a2, a3, some (.int x), a5, a6] S M = rn ca C_X0_takeWay 21 [a0, a1, a2, a3, some (.int x), a5, a6] (.int x :: S) M := (rn_at k_X0_takeWay_19).trans rfl
theorem k_X0_takeWay_21 : lk 21 C_X0_takeWay = some (.invokestatic 61, (141, 1, 0, 100013)) := by decide +kernel
theorem s_X0_takeWay_21 {ca : Nat → List Value → tM → tO} {M : tM} {L : tL} {v1 : Value} : rn ca C_X0_takeWay 21 L [v1] M = rnk ca C_X0_takeWay 24 L [] (ca m_X10_isDeskNumber [v1] M) := (rn_at k_X0_takeWay_21).trans rfl
theorem k_X0_takeWay_24 : lk 24 C_X0_takeWay = some (.ifCond .eq 83, (107, 0, 0, 0)) := by decide +kernel
theorem s_X0_takeWay_24 {ca : Nat → List Value → tM → tO} {M : tM} {L : tL} {x : Int32} {S : List Value} : rn ca C_X0_takeWay 24 L (.int x :: S) M = if x = iI 0 then rn ca C_X0_takeWay 107 L S M else rn ca C_X0_takeWay 27 L S M := (rn_at k_X0_takeWay_24).trans rnx_ite
theorem k_X0_takeWay_27 : lk 27 C_X0_takeWay = some (.aload_n 0, (0, 0, 0, 0)) := by decide +kernel
theorem s_X0_takeWay_27 {ca : Nat → List Value → tM → tO} {M : tM} {a1 a2 a3 a4 a5 a6 : Option Value} {x : Nat} {S : List Value} : rn ca C_X0_takeWay 27 [some (.ref x), a1, a2, a3, a4, a5, a6] S M = rn ca C_X0_takeWay 28 [some (.ref x), a1, a2, a3, a4, a5, a6] (.ref x :: S) M := (rn_at k_X0_takeWay_27).trans rfl
theorem k_X0_takeWay_28 : lk 28 C_X0_takeWay = some (.getfield 15, (0, 1, 0, 105)) := by decide +kernel
theorem s_X0_takeWay_28 {ca : Nat → List Value → tM → tO} {M : tM} {L : tL} {b : Nat} {S : List Value} : rn ca C_X0_takeWay 28 L (.ref b :: S) M = if clsO b = some 0 then rn ca C_X0_takeWay 31 L (fv M b 1 :: S) M else none := (rn_at k_X0_takeWay_28).trans rnx_ite
theorem k_X0_takeWay_31 : lk 31 C_X0_takeWay = some (.iload 4, (0, 0, 0, 0)) := by decide +kernel
theorem s_X0_takeWay_31 {ca : Nat → List Value → tM → tO} {M : tM} {a0 a1 a2 a3 a5 a6 : Option Value} {x : Int32} {S : List Value} : rn ca C_X0_takeWay 31 [a0, a1, a2, a3, some (.int x), a5, a6] S M = rn ca C_X0_takeWay 33 [a0, a1, a2, a3, some (.int x), a5, a6] (.int x :: S) M := (rn_at k_X0_takeWay_31).trans rfl
theorem k_X0_takeWay_33 : lk 33 C_X0_takeWay = some (.iaload, (0, 0, 0, 0)) := by decide +kernel
theorem s_X0_takeWay_33 {ca : Nat → List Value → tM → tO} {M : tM} {L : tL} {a : Nat} {i : Int32} {S : List Value} : rn ca C_X0_takeWay 33 L (.int i :: .ref a :: S) M = if (akind a = 0 ∨ akind a = 6 ∨ akind a = 7) ∧ inb i (alen M a) then rn ca C_X0_takeWay 34 L (.int (M.1 a i.toInt.toNat) :: S) M else none := (rn_at k_X0_takeWay_33).trans rnx_ite
theorem k_X0_takeWay_34 : lk 34 C_X0_takeWay = some (.istore 6, (0, 0, 0, 0)) := by decide +kernel
theorem s_X0_takeWay_34 {ca : Nat → List Value → tM → tO} {M : tM} {a0 a1 a2 a3 a4 a5 a6 : Option Value} {x : Int32} {S : List Value} : rn ca C_X0_takeWay 34 [a0, a1, a2, a3, a4, a5, a6] (.int x :: S) M = rn ca C_X0_takeWay 36 [a0, a1, a2, a3, a4, a5, some (.int x)] S M := (rn_at k_X0_takeWay_34).trans rfl
theorem k_X0_takeWay_36 : lk 36 C_X0_takeWay = some (.aload_n 1, (0, 0, 0, 0)) := by decide +kernel
theorem s_X0_takeWay_36 {ca : Nat → List Value → tM → tO} {M : tM} {a0 a2 a3 a4 a5 a6 : Option Value} {x : Nat} {S : List Value} : rn ca C_X0_takeWay 36 [a0, some (.ref x), a2, a3, a4, a5, a6] S M = rn ca C_X0_takeWay 37 [a0, some (.ref x), a2, a3, a4, a5, a6] (.ref x :: S) M := (rn_at k_X0_takeWay_36).trans rfl
theorem k_X0_takeWay_37 : lk 37 C_X0_takeWay = some (.iload 6, (0, 0, 0, 0)) := by decide +kernel
theorem s_X0_takeWay_37 {ca : Nat → List Value → tM → tO} {M : tM} {a0 a1 a2 a3 a4 a5 : Option Value} {x : Int32} {S : List Value} : rn ca C_X0_takeWay 37 [a0, a1, a2, a3, a4, a5, some (.int x)] S M = rn ca C_X0_takeWay 39 [a0, a1, a2, a3, a4, a5, some (.int x)] (.int x :: S) M := (rn_at k_X0_takeWay_37).trans rfl
theorem k_X0_takeWay_39 : lk 39 C_X0_takeWay = some (.invokevirtual 65, (19, 1, 4, 914)) := by decide +kernel
theorem s_X0_takeWay_39 {ca : Nat → List Value → tM → tO} {M : tM} {L : tL} {v1 : Value} {b : Nat} : rn ca C_X0_takeWay 39 L [v1, .ref b] M = if clsO b = some 4 then rnk ca C_X0_takeWay 42 L [] (ca m_X4_hasTube [.ref b, v1] M) else none := (rn_at k_X0_takeWay_39).trans rnx_ite
theorem k_X0_takeWay_42 : lk 42 C_X0_takeWay = some (.ifCond .ne 4, (46, 0, 0, 0)) := by decide +kernel
theorem s_X0_takeWay_42 {ca : Nat → List Value → tM → tO} {M : tM} {L : tL} {x : Int32} {S : List Value} : rn ca C_X0_takeWay 42 L (.int x :: S) M = if ¬ x = iI 0 then rn ca C_X0_takeWay 46 L S M else rn ca C_X0_takeWay 45 L S M := (rn_at k_X0_takeWay_42).trans rnx_ite
theorem k_X0_takeWay_45 : lk 45 C_X0_takeWay = some (.return_, (0, 0, 0, 0)) := by decide +kernel
theorem s_X0_takeWay_45 {ca : Nat → List Value → tM → tO} {M : tM} {L : tL} : rn ca C_X0_takeWay 45 L [] M = some (none, M) := (rn_at k_X0_takeWay_45).trans rfl
theorem k_X0_takeWay_46 : lk 46 C_X0_takeWay = some (.aload_n 1, (0, 0, 0, 0)) := by decide +kernel
theorem s_X0_takeWay_46 {ca : Nat → List Value → tM → tO} {M : tM} {a0 a2 a3 a4 a5 a6 : Option Value} {x : Nat} {S : List Value} : rn ca C_X0_takeWay 46 [a0, some (.ref x), a2, a3, a4, a5, a6] S M = rn ca C_X0_takeWay 47 [a0, some (.ref x), a2, a3, a4, a5, a6] (.ref x :: S) M := (rn_at k_X0_takeWay_46).trans rfl
theorem k_X0_takeWay_47 : lk 47 C_X0_takeWay = some (.getfield 33, (4, 4, 0, 100016)) := by decide +kernel
theorem s_X0_takeWay_47 {ca : Nat → List Value → tM → tO} {M : tM} {L : tL} {b : Nat} {S : List Value} : rn ca C_X0_takeWay 47 L (.ref b :: S) M = if clsO b = some 4 then rn ca C_X0_takeWay 50 L (fv M b 4 :: S) M else none := (rn_at k_X0_takeWay_47).trans rnx_ite
theorem k_X0_takeWay_50 : lk 50 C_X0_takeWay = some (.iload 6, (0, 0, 0, 0)) := by decide +kernel
theorem s_X0_takeWay_50 {ca : Nat → List Value → tM → tO} {M : tM} {a0 a1 a2 a3 a4 a5 : Option Value} {x : Int32} {S : List Value} : rn ca C_X0_takeWay 50 [a0, a1, a2, a3, a4, a5, some (.int x)] S M = rn ca C_X0_takeWay 52 [a0, a1, a2, a3, a4, a5, some (.int x)] (.int x :: S) M := (rn_at k_X0_takeWay_50).trans rfl
theorem k_X0_takeWay_52 : lk 52 C_X0_takeWay = some (.iaload, (0, 0, 0, 0)) := by decide +kernel
theorem s_X0_takeWay_52 {ca : Nat → List Value → tM → tO} {M : tM} {L : tL} {a : Nat} {i : Int32} {S : List Value} : rn ca C_X0_takeWay 52 L (.int i :: .ref a :: S) M = if (akind a = 0 ∨ akind a = 6 ∨ akind a = 7) ∧ inb i (alen M a) then rn ca C_X0_takeWay 53 L (.int (M.1 a i.toInt.toNat) :: S) M else none := (rn_at k_X0_takeWay_52).trans rnx_ite
theorem k_X0_takeWay_53 : lk 53 C_X0_takeWay = some (.iload 4, (0, 0, 0, 0)) := by decide +kernel
theorem s_X0_takeWay_53 {ca : Nat → List Value → tM → tO} {M : tM} {a0 a1 a2 a3 a5 a6 : Option Value} {x : Int32} {S : List Value} : rn ca C_X0_takeWay 53 [a0, a1, a2, a3, some (.int x), a5, a6] S M = rn ca C_X0_takeWay 55 [a0, a1, a2, a3, some (.int x), a5, a6] (.int x :: S) M := (rn_at k_X0_takeWay_53).trans rfl
theorem k_X0_takeWay_55 : lk 55 C_X0_takeWay = some (.if_icmp .ne 26, (81, 0, 0, 0)) := by decide +kernel
theorem s_X0_takeWay_55 {ca : Nat → List Value → tM → tO} {M : tM} {L : tL} {x y : Int32} {S : List Value} : rn ca C_X0_takeWay 55 L (.int y :: .int x :: S) M = if ¬ x = y then rn ca C_X0_takeWay 81 L S M else rn ca C_X0_takeWay 58 L S M := (rn_at k_X0_takeWay_55).trans rnx_ite
theorem k_X0_takeWay_58 : lk 58 C_X0_takeWay = some (.aload_n 0, (0, 0, 0, 0)) := by decide +kernel
theorem s_X0_takeWay_58 {ca : Nat → List Value → tM → tO} {M : tM} {a1 a2 a3 a4 a5 a6 : Option Value} {x : Nat} {S : List Value} : rn ca C_X0_takeWay 58 [some (.ref x), a1, a2, a3, a4, a5, a6] S M = rn ca C_X0_takeWay 59 [some (.ref x), a1, a2, a3, a4, a5, a6] (.ref x :: S) M := (rn_at k_X0_takeWay_58).trans rfl
theorem k_X0_takeWay_59 : lk 59 C_X0_takeWay = some (.getfield 9, (0, 0, 0, 104)) := by decide +kernel
theorem s_X0_takeWay_59 {ca : Nat → List Value → tM → tO} {M : tM} {L : tL} {b : Nat} {S : List Value} : rn ca C_X0_takeWay 59 L (.ref b :: S) M = if clsO b = some 0 then rn ca C_X0_takeWay 62 L (fv M b 0 :: S) M else none := (rn_at k_X0_takeWay_59).trans rnx_ite
theorem k_X0_takeWay_62 : lk 62 C_X0_takeWay = some (.iload 6, (0, 0, 0, 0)) := by decide +kernel
theorem s_X0_takeWay_62 {ca : Nat → List Value → tM → tO} {M : tM} {a0 a1 a2 a3 a4 a5 : Option Value} {x : Int32} {S : List Value} : rn ca C_X0_takeWay 62 [a0, a1, a2, a3, a4, a5, some (.int x)] S M = rn ca C_X0_takeWay 64 [a0, a1, a2, a3, a4, a5, some (.int x)] (.int x :: S) M := (rn_at k_X0_takeWay_62).trans rfl
theorem k_X0_takeWay_64 : lk 64 C_X0_takeWay = some (.dup2, (0, 0, 0, 0)) := by decide +kernel
theorem s_X0_takeWay_64 {ca : Nat → List Value → tM → tO} {M : tM} {L : tL} {x : Nat} {y : Int32} {S : List Value} : rn ca C_X0_takeWay 64 L (.int y :: .ref x :: S) M = rn ca C_X0_takeWay 65 L (.int y :: .ref x :: .int y :: .ref x :: S) M := (rn_at k_X0_takeWay_64).trans rfl
theorem k_X0_takeWay_65 : lk 65 C_X0_takeWay = some (.iaload, (0, 0, 0, 0)) := by decide +kernel
theorem s_X0_takeWay_65 {ca : Nat → List Value → tM → tO} {M : tM} {L : tL} {a : Nat} {i : Int32} {S : List Value} : rn ca C_X0_takeWay 65 L (.int i :: .ref a :: S) M = if (akind a = 0 ∨ akind a = 6 ∨ akind a = 7) ∧ inb i (alen M a) then rn ca C_X0_takeWay 66 L (.int (M.1 a i.toInt.toNat) :: S) M else none := (rn_at k_X0_takeWay_65).trans rnx_ite
theorem k_X0_takeWay_66 : lk 66 C_X0_takeWay = some (.iconst 1, (0, 0, 0, 0)) := by decide +kernel
theorem s_X0_takeWay_66 {ca : Nat → List Value → tM → tO} {M : tM} {L : tL} {S : List Value} : rn ca C_X0_takeWay 66 L S M = rn ca C_X0_takeWay 67 L (.int (iI 1) :: S) M := (rn_at k_X0_takeWay_66).trans rfl
theorem k_X0_takeWay_67 : lk 67 C_X0_takeWay = some (.iadd, (0, 0, 0, 0)) := by decide +kernel
theorem s_X0_takeWay_67 {ca : Nat → List Value → tM → tO} {M : tM} {L : tL} {x y : Int32} {S : List Value} : rn ca C_X0_takeWay 67 L (.int y :: .int x :: S) M = rn ca C_X0_takeWay 68 L (.int (x + y) :: S) M := (rn_at k_X0_takeWay_67).trans rfl
theorem k_X0_takeWay_68 : lk 68 C_X0_takeWay = some (.iastore, (0, 0, 0, 0)) := by decide +kernel
theorem s_X0_takeWay_68 {ca : Nat → List Value → tM → tO} {M : tM} {L : tL} {a : Nat} {i x : Int32} {S : List Value} : rn ca C_X0_takeWay 68 L (.int x :: .int i :: .ref a :: S) M = if akind a = 0 ∧ inb i (alen M a) then rn ca C_X0_takeWay 69 L S (sI M a i.toInt.toNat x) else none := (rn_at k_X0_takeWay_68).trans rnx_ite
theorem k_X0_takeWay_69 : lk 69 C_X0_takeWay = some (.aload_n 1, (0, 0, 0, 0)) := by decide +kernel
theorem s_X0_takeWay_69 {ca : Nat → List Value → tM → tO} {M : tM} {a0 a2 a3 a4 a5 a6 : Option Value} {x : Nat} {S : List Value} : rn ca C_X0_takeWay 69 [a0, some (.ref x), a2, a3, a4, a5, a6] S M = rn ca C_X0_takeWay 70 [a0, some (.ref x), a2, a3, a4, a5, a6] (.ref x :: S) M := (rn_at k_X0_takeWay_69).trans rfl
theorem k_X0_takeWay_70 : lk 70 C_X0_takeWay = some (.getfield 30, (4, 3, 0, 100011)) := by decide +kernel
theorem s_X0_takeWay_70 {ca : Nat → List Value → tM → tO} {M : tM} {L : tL} {b : Nat} {S : List Value} : rn ca C_X0_takeWay 70 L (.ref b :: S) M = if clsO b = some 4 then rn ca C_X0_takeWay 73 L (fv M b 3 :: S) M else none := (rn_at k_X0_takeWay_70).trans rnx_ite
theorem k_X0_takeWay_73 : lk 73 C_X0_takeWay = some (.iload 6, (0, 0, 0, 0)) := by decide +kernel
theorem s_X0_takeWay_73 {ca : Nat → List Value → tM → tO} {M : tM} {a0 a1 a2 a3 a4 a5 : Option Value} {x : Int32} {S : List Value} : rn ca C_X0_takeWay 73 [a0, a1, a2, a3, a4, a5, some (.int x)] S M = rn ca C_X0_takeWay 75 [a0, a1, a2, a3, a4, a5, some (.int x)] (.int x :: S) M := (rn_at k_X0_takeWay_73).trans rfl
theorem k_X0_takeWay_75 : lk 75 C_X0_takeWay = some (.iaload, (0, 0, 0, 0)) := by decide +kernel
theorem s_X0_takeWay_75 {ca : Nat → List Value → tM → tO} {M : tM} {L : tL} {a : Nat} {i : Int32} {S : List Value} : rn ca C_X0_takeWay 75 L (.int i :: .ref a :: S) M = if (akind a = 0 ∨ akind a = 6 ∨ akind a = 7) ∧ inb i (alen M a) then rn ca C_X0_takeWay 76 L (.int (M.1 a i.toInt.toNat) :: S) M else none := (rn_at k_X0_takeWay_75).trans rnx_ite
theorem k_X0_takeWay_76 : lk 76 C_X0_takeWay = some (.istore 4, (0, 0, 0, 0)) := by decide +kernel
theorem s_X0_takeWay_76 {ca : Nat → List Value → tM → tO} {M : tM} {a0 a1 a2 a3 a4 a5 a6 : Option Value} {x : Int32} {S : List Value} : rn ca C_X0_takeWay 76 [a0, a1, a2, a3, a4, a5, a6] (.int x :: S) M = rn ca C_X0_takeWay 78 [a0, a1, a2, a3, some (.int x), a5, a6] S M := (rn_at k_X0_takeWay_76).trans rfl
theorem k_X0_takeWay_78 : lk 78 C_X0_takeWay = some (.goto 23, (101, 0, 0, 0)) := by decide +kernel
theorem s_X0_takeWay_78 {ca : Nat → List Value → tM → tO} {M : tM} {L : tL} {S : List Value} : rn ca C_X0_takeWay 78 L S M = rn ca C_X0_takeWay 101 L S M := (rn_at k_X0_takeWay_78).trans rfl
theorem k_X0_takeWay_81 : lk 81 C_X0_takeWay = some (.aload_n 0, (0, 0, 0, 0)) := by decide +kernel
theorem s_X0_takeWay_81 {ca : Nat → List Value → tM → tO} {M : tM} {a1 a2 a3 a4 a5 a6 : Option Value} {x : Nat} {S : List Value} : rn ca C_X0_takeWay 81 [some (.ref x), a1, a2, a3, a4, a5, a6] S M = rn ca C_X0_takeWay 82 [some (.ref x), a1, a2, a3, a4, a5, a6] (.ref x :: S) M := (rn_at k_X0_takeWay_81).trans rfl
theorem k_X0_takeWay_82 : lk 82 C_X0_takeWay = some (.getfield 9, (0, 0, 0, 104)) := by decide +kernel
theorem s_X0_takeWay_82 {ca : Nat → List Value → tM → tO} {M : tM} {L : tL} {b : Nat} {S : List Value} : rn ca C_X0_takeWay 82 L (.ref b :: S) M = if clsO b = some 0 then rn ca C_X0_takeWay 85 L (fv M b 0 :: S) M else none := (rn_at k_X0_takeWay_82).trans rnx_ite
theorem k_X0_takeWay_85 : lk 85 C_X0_takeWay = some (.iload 6, (0, 0, 0, 0)) := by decide +kernel
theorem s_X0_takeWay_85 {ca : Nat → List Value → tM → tO} {M : tM} {a0 a1 a2 a3 a4 a5 : Option Value} {x : Int32} {S : List Value} : rn ca C_X0_takeWay 85 [a0, a1, a2, a3, a4, a5, some (.int x)] S M = rn ca C_X0_takeWay 87 [a0, a1, a2, a3, a4, a5, some (.int x)] (.int x :: S) M := (rn_at k_X0_takeWay_85).trans rfl
theorem k_X0_takeWay_87 : lk 87 C_X0_takeWay = some (.dup2, (0, 0, 0, 0)) := by decide +kernel
theorem s_X0_takeWay_87 {ca : Nat → List Value → tM → tO} {M : tM} {L : tL} {x : Nat} {y : Int32} {S : List Value} : rn ca C_X0_takeWay 87 L (.int y :: .ref x :: S) M = rn ca C_X0_takeWay 88 L (.int y :: .ref x :: .int y :: .ref x :: S) M := (rn_at k_X0_takeWay_87).trans rfl
theorem k_X0_takeWay_88 : lk 88 C_X0_takeWay = some (.iaload, (0, 0, 0, 0)) := by decide +kernel
theorem s_X0_takeWay_88 {ca : Nat → List Value → tM → tO} {M : tM} {L : tL} {a : Nat} {i : Int32} {S : List Value} : rn ca C_X0_takeWay 88 L (.int i :: .ref a :: S) M = if (akind a = 0 ∨ akind a = 6 ∨ akind a = 7) ∧ inb i (alen M a) then rn ca C_X0_takeWay 89 L (.int (M.1 a i.toInt.toNat) :: S) M else none := (rn_at k_X0_takeWay_88).trans rnx_ite
theorem k_X0_takeWay_89 : lk 89 C_X0_takeWay = some (.iconst 1, (0, 0, 0, 0)) := by decide +kernel
theorem s_X0_takeWay_89 {ca : Nat → List Value → tM → tO} {M : tM} {L : tL} {S : List Value} : rn ca C_X0_takeWay 89 L S M = rn ca C_X0_takeWay 90 L (.int (iI 1) :: S) M := (rn_at k_X0_takeWay_89).trans rfl
theorem k_X0_takeWay_90 : lk 90 C_X0_takeWay = some (.isub, (0, 0, 0, 0)) := by decide +kernel
theorem s_X0_takeWay_90 {ca : Nat → List Value → tM → tO} {M : tM} {L : tL} {x y : Int32} {S : List Value} : rn ca C_X0_takeWay 90 L (.int y :: .int x :: S) M = rn ca C_X0_takeWay 91 L (.int (x - y) :: S) M := (rn_at k_X0_takeWay_90).trans rfl
theorem k_X0_takeWay_91 : lk 91 C_X0_takeWay = some (.iastore, (0, 0, 0, 0)) := by decide +kernel
theorem s_X0_takeWay_91 {ca : Nat → List Value → tM → tO} {M : tM} {L : tL} {a : Nat} {i x : Int32} {S : List Value} : rn ca C_X0_takeWay 91 L (.int x :: .int i :: .ref a :: S) M = if akind a = 0 ∧ inb i (alen M a) then rn ca C_X0_takeWay 92 L S (sI M a i.toInt.toNat x) else none := (rn_at k_X0_takeWay_91).trans rnx_ite
theorem k_X0_takeWay_92 : lk 92 C_X0_takeWay = some (.aload_n 1, (0, 0, 0, 0)) := by decide +kernel
theorem s_X0_takeWay_92 {ca : Nat → List Value → tM → tO} {M : tM} {a0 a2 a3 a4 a5 a6 : Option Value} {x : Nat} {S : List Value} : rn ca C_X0_takeWay 92 [a0, some (.ref x), a2, a3, a4, a5, a6] S M = rn ca C_X0_takeWay 93 [a0, some (.ref x), a2, a3, a4, a5, a6] (.ref x :: S) M := (rn_at k_X0_takeWay_92).trans rfl
theorem k_X0_takeWay_93 : lk 93 C_X0_takeWay = some (.getfield 33, (4, 4, 0, 100016)) := by decide +kernel
theorem s_X0_takeWay_93 {ca : Nat → List Value → tM → tO} {M : tM} {L : tL} {b : Nat} {S : List Value} : rn ca C_X0_takeWay 93 L (.ref b :: S) M = if clsO b = some 4 then rn ca C_X0_takeWay 96 L (fv M b 4 :: S) M else none := (rn_at k_X0_takeWay_93).trans rnx_ite
theorem k_X0_takeWay_96 : lk 96 C_X0_takeWay = some (.iload 6, (0, 0, 0, 0)) := by decide +kernel
theorem s_X0_takeWay_96 {ca : Nat → List Value → tM → tO} {M : tM} {a0 a1 a2 a3 a4 a5 : Option Value} {x : Int32} {S : List Value} : rn ca C_X0_takeWay 96 [a0, a1, a2, a3, a4, a5, some (.int x)] S M = rn ca C_X0_takeWay 98 [a0, a1, a2, a3, a4, a5, some (.int x)] (.int x :: S) M := (rn_at k_X0_takeWay_96).trans rfl
theorem k_X0_takeWay_98 : lk 98 C_X0_takeWay = some (.iaload, (0, 0, 0, 0)) := by decide +kernel
theorem s_X0_takeWay_98 {ca : Nat → List Value → tM → tO} {M : tM} {L : tL} {a : Nat} {i : Int32} {S : List Value} : rn ca C_X0_takeWay 98 L (.int i :: .ref a :: S) M = if (akind a = 0 ∨ akind a = 6 ∨ akind a = 7) ∧ inb i (alen M a) then rn ca C_X0_takeWay 99 L (.int (M.1 a i.toInt.toNat) :: S) M else none := (rn_at k_X0_takeWay_98).trans rnx_ite
theorem k_X0_takeWay_99 : lk 99 C_X0_takeWay = some (.istore 4, (0, 0, 0, 0)) := by decide +kernel
theorem s_X0_takeWay_99 {ca : Nat → List Value → tM → tO} {M : tM} {a0 a1 a2 a3 a4 a5 a6 : Option Value} {x : Int32} {S : List Value} : rn ca C_X0_takeWay 99 [a0, a1, a2, a3, a4, a5, a6] (.int x :: S) M = rn ca C_X0_takeWay 101 [a0, a1, a2, a3, some (.int x), a5, a6] S M := (rn_at k_X0_takeWay_99).trans rfl
theorem k_X0_takeWay_101 : lk 101 C_X0_takeWay = some (.iinc 5 1, (0, 0, 0, 0)) := by decide +kernel
theorem s_X0_takeWay_101 {ca : Nat → List Value → tM → tO} {M : tM} {a0 a1 a2 a3 a4 a6 : Option Value} {x : Int32} {S : List Value} : rn ca C_X0_takeWay 101 [a0, a1, a2, a3, a4, some (.int x), a6] S M = rn ca C_X0_takeWay 104 [a0, a1, a2, a3, a4, some (.int (x + iI 1)), a6] S M := (rn_at k_X0_takeWay_101).trans rfl
theorem k_X0_takeWay_104 : lk 104 C_X0_takeWay = some (.goto (-98), (6, 0, 0, 0)) := by decide +kernel
theorem s_X0_takeWay_104 {ca : Nat → List Value → tM → tO} {M : tM} {L : tL} {S : List Value} : rn ca C_X0_takeWay 104 L S M = rn ca C_X0_takeWay 6 L S M := (rn_at k_X0_takeWay_104).trans rfl
theorem k_X0_takeWay_107 : lk 107 C_X0_takeWay = some (.return_, (0, 0, 0, 0)) := by decide +kernel
theorem s_X0_takeWay_107 {ca : Nat → List Value → tM → tO} {M : tM} {L : tL} : rn ca C_X0_takeWay 107 L [] M = some (none, M) := (rn_at k_X0_takeWay_107).trans rfl
theorem k_X1_findWrong_0 : lk 0 C_X1_findWrong = some (.aload_n 0, (0, 0, 0, 0)) := by decide +kernel
theorem s_X1_findWrong_0 {ca : Nat → List Value → tM → tO} {M : tM} {a1 a2 a3 a4 a5 a6 : Option Value} {x : Nat} {S : List Value} : rn ca C_X1_findWrong 0 [some (.ref x), a1, a2, a3, a4, a5, a6] S M = rn ca C_X1_findWrong 1 [some (.ref x), a1, a2, a3, a4, a5, a6] (.ref x :: S) M := (rn_at k_X1_findWrong_0).trans rfl
theorem k_X1_findWrong_1 : lk 1 C_X1_findWrong = some (.iconst 0, (0, 0, 0, 0)) := by decide +kernel
theorem s_X1_findWrong_1 {ca : Nat → List Value → tM → tO} {M : tM} {L : tL} {S : List Value} : rn ca C_X1_findWrong 1 L S M = rn ca C_X1_findWrong 2 L (.int (iI 0) :: S) M := (rn_at k_X1_findWrong_1).trans rfl
theorem k_X1_findWrong_2 : lk 2 C_X1_findWrong = some (.putfield 9, (1, 0, 0, 132)) := by decide +kernel
theorem s_X1_findWrong_2 {ca : Nat → List Value → tM → tO} {M : tM} {L : tL} {b : Nat} {v : Int32} {S : List Value} : rn ca C_X1_findWrong 2 L (.int v :: .ref b :: S) M = if clsO b = some 1 then rn ca C_X1_findWrong 5 L S (sI M b 0 v) else none := (rn_at k_X1_findWrong_2).trans rnx_ite
theorem k_X1_findWrong_5 : lk 5 C_X1_findWrong = some (.aload_n 0, (0, 0, 0, 0)) := by decide +kernel
theorem s_X1_findWrong_5 {ca : Nat → List Value → tM → tO} {M : tM} {a1 a2 a3 a4 a5 a6 : Option Value} {x : Nat} {S : List Value} : rn ca C_X1_findWrong 5 [some (.ref x), a1, a2, a3, a4, a5, a6] S M = rn ca C_X1_findWrong 6 [some (.ref x), a1, a2, a3, a4, a5, a6] (.ref x :: S) M := (rn_at k_X1_findWrong_5).trans rfl
theorem k_X1_findWrong_6 : lk 6 C_X1_findWrong = some (.iconst 0, (0, 0, 0, 0)) := by decide +kernel
theorem s_X1_findWrong_6 {ca : Nat → List Value → tM → tO} {M : tM} {L : tL} {S : List Value} : rn ca C_X1_findWrong 6 L S M = rn ca C_X1_findWrong 7 L (.int (iI 0) :: S) M := (rn_at k_X1_findWrong_6).trans rfl
theorem k_X1_findWrong_7 : lk 7 C_X1_findWrong = some (.putfield 15, (1, 1, 0, 133)) := by decide +kernel
theorem s_X1_findWrong_7 {ca : Nat → List Value → tM → tO} {M : tM} {L : tL} {b : Nat} {v : Int32} {S : List Value} : rn ca C_X1_findWrong 7 L (.int v :: .ref b :: S) M = if clsO b = some 1 then rn ca C_X1_findWrong 10 L S (sI M b 1 v) else none := (rn_at k_X1_findWrong_7).trans rnx_ite
theorem k_X1_findWrong_10 : lk 10 C_X1_findWrong = some (.iconst 0, (0, 0, 0, 0)) := by decide +kernel
theorem s_X1_findWrong_10 {ca : Nat → List Value → tM → tO} {M : tM} {L : tL} {S : List Value} : rn ca C_X1_findWrong 10 L S M = rn ca C_X1_findWrong 11 L (.int (iI 0) :: S) M := (rn_at k_X1_findWrong_10).trans rfl
theorem k_X1_findWrong_11 : lk 11 C_X1_findWrong = some (.istore 6, (0, 0, 0, 0)) := by decide +kernel
theorem s_X1_findWrong_11 {ca : Nat → List Value → tM → tO} {M : tM} {a0 a1 a2 a3 a4 a5 a6 : Option Value} {x : Int32} {S : List Value} : rn ca C_X1_findWrong 11 [a0, a1, a2, a3, a4, a5, a6] (.int x :: S) M = rn ca C_X1_findWrong 13 [a0, a1, a2, a3, a4, a5, some (.int x)] S M := (rn_at k_X1_findWrong_11).trans rfl
theorem k_X1_findWrong_13 : lk 13 C_X1_findWrong = some (.iload 6, (0, 0, 0, 0)) := by decide +kernel
theorem s_X1_findWrong_13 {ca : Nat → List Value → tM → tO} {M : tM} {a0 a1 a2 a3 a4 a5 : Option Value} {x : Int32} {S : List Value} : rn ca C_X1_findWrong 13 [a0, a1, a2, a3, a4, a5, some (.int x)] S M = rn ca C_X1_findWrong 15 [a0, a1, a2, a3, a4, a5, some (.int x)] (.int x :: S) M := (rn_at k_X1_findWrong_13).trans rfl
theorem k_X1_findWrong_15 : lk 15 C_X1_findWrong = some (.iload 5, (0, 0, 0, 0)) := by decide +kernel
theorem s_X1_findWrong_15 {ca : Nat → List Value → tM → tO} {M : tM} {a0 a1 a2 a3 a4 a6 : Option Value} {x : Int32} {S : List Value} : rn ca C_X1_findWrong 15 [a0, a1, a2, a3, a4, some (.int x), a6] S M = rn ca C_X1_findWrong 17 [a0, a1, a2, a3, a4, some (.int x), a6] (.int x :: S) M := (rn_at k_X1_findWrong_15).trans rfl
theorem k_X1_findWrong_17 : lk 17 C_X1_findWrong = some (.if_icmp .ge 36, (53, 0, 0, 0)) := by decide +kernel
theorem s_X1_findWrong_17 {ca : Nat → List Value → tM → tO} {M : tM} {L : tL} {x y : Int32} {S : List Value} : rn ca C_X1_findWrong 17 L (.int y :: .int x :: S) M = if y ≤ x then rn ca C_X1_findWrong 53 L S M else rn ca C_X1_findWrong 20 L S M := (rn_at k_X1_findWrong_17).trans rnx_ite
theorem k_X1_findWrong_20 : lk 20 C_X1_findWrong = some (.iload 6, (0, 0, 0, 0)) := by decide +kernel
theorem s_X1_findWrong_20 {ca : Nat → List Value → tM → tO} {M : tM} {a0 a1 a2 a3 a4 a5 : Option Value} {x : Int32} {S : List Value} : rn ca C_X1_findWrong 20 [a0, a1, a2, a3, a4, a5, some (.int x)] S M = rn ca C_X1_findWrong 22 [a0, a1, a2, a3, a4, a5, some (.int x)] (.int x :: S) M := (rn_at k_X1_findWrong_20).trans rfl
theorem k_X1_findWrong_22 : lk 22 C_X1_findWrong = some (.bipush 40, (0, 0, 0, 0)) := by decide +kernel
theorem s_X1_findWrong_22 {ca : Nat → List Value → tM → tO} {M : tM} {L : tL} {S : List Value} : rn ca C_X1_findWrong 22 L S M = rn ca C_X1_findWrong 24 L (.int (iI 40) :: S) M := (rn_at k_X1_findWrong_22).trans rfl
theorem k_X1_findWrong_24 : lk 24 C_X1_findWrong = some (.if_icmp .ge 29, (53, 0, 0, 0)) := by decide +kernel
theorem s_X1_findWrong_24 {ca : Nat → List Value → tM → tO} {M : tM} {L : tL} {x y : Int32} {S : List Value} : rn ca C_X1_findWrong 24 L (.int y :: .int x :: S) M = if y ≤ x then rn ca C_X1_findWrong 53 L S M else rn ca C_X1_findWrong 27 L S M := (rn_at k_X1_findWrong_24).trans rnx_ite
theorem k_X1_findWrong_27 : lk 27 C_X1_findWrong = some (.aload_n 0, (0, 0, 0, 0)) := by decide +kernel
theorem s_X1_findWrong_27 {ca : Nat → List Value → tM → tO} {M : tM} {a1 a2 a3 a4 a5 a6 : Option Value} {x : Nat} {S : List Value} : rn ca C_X1_findWrong 27 [some (.ref x), a1, a2, a3, a4, a5, a6] S M = rn ca C_X1_findWrong 28 [some (.ref x), a1, a2, a3, a4, a5, a6] (.ref x :: S) M := (rn_at k_X1_findWrong_27).trans rfl
theorem k_X1_findWrong_28 : lk 28 C_X1_findWrong = some (.aload_n 1, (0, 0, 0, 0)) := by decide +kernel
theorem s_X1_findWrong_28 {ca : Nat → List Value → tM → tO} {M : tM} {a0 a2 a3 a4 a5 a6 : Option Value} {x : Nat} {S : List Value} : rn ca C_X1_findWrong 28 [a0, some (.ref x), a2, a3, a4, a5, a6] S M = rn ca C_X1_findWrong 29 [a0, some (.ref x), a2, a3, a4, a5, a6] (.ref x :: S) M := (rn_at k_X1_findWrong_28).trans rfl
theorem k_X1_findWrong_29 : lk 29 C_X1_findWrong = some (.aload_n 2, (0, 0, 0, 0)) := by decide +kernel
theorem s_X1_findWrong_29 {ca : Nat → List Value → tM → tO} {M : tM} {a0 a1 a3 a4 a5 a6 : Option Value} {x : Nat} {S : List Value} : rn ca C_X1_findWrong 29 [a0, a1, some (.ref x), a3, a4, a5, a6] S M = rn ca C_X1_findWrong 30 [a0, a1, some (.ref x), a3, a4, a5, a6] (.ref x :: S) M := (rn_at k_X1_findWrong_29).trans rfl
theorem k_X1_findWrong_30 : lk 30 C_X1_findWrong = some (.aload_n 3, (0, 0, 0, 0)) := by decide +kernel
theorem s_X1_findWrong_30 {ca : Nat → List Value → tM → tO} {M : tM} {a0 a1 a2 a4 a5 a6 : Option Value} {x : Nat} {S : List Value} : rn ca C_X1_findWrong 30 [a0, a1, a2, some (.ref x), a4, a5, a6] S M = rn ca C_X1_findWrong 31 [a0, a1, a2, some (.ref x), a4, a5, a6] (.ref x :: S) M := (rn_at k_X1_findWrong_30).trans rfl
theorem k_X1_findWrong_31 : lk 31 C_X1_findWrong = some (.iload 4, (0, 0, 0, 0)) := by decide +kernel
theorem s_X1_findWrong_31 {ca : Nat → List Value → tM → tO} {M : tM} {a0 a1 a2 a3 a5 a6 : Option Value} {x : Int32} {S : List Value} : rn ca C_X1_findWrong 31 [a0, a1, a2, a3, some (.int x), a5, a6] S M = rn ca C_X1_findWrong 33 [a0, a1, a2, a3, some (.int x), a5, a6] (.int x :: S) M := (rn_at k_X1_findWrong_31).trans rfl
theorem k_X1_findWrong_33 : lk 33 C_X1_findWrong = some (.iload 6, (0, 0, 0, 0)) := by decide +kernel
theorem s_X1_findWrong_33 {ca : Nat → List Value → tM → tO} {M : tM} {a0 a1 a2 a3 a4 a5 : Option Value} {x : Int32} {S : List Value} : rn ca C_X1_findWrong 33 [a0, a1, a2, a3, a4, a5, some (.int x)] S M = rn ca C_X1_findWrong 35 [a0, a1, a2, a3, a4, a5, some (.int x)] (.int x :: S) M := (rn_at k_X1_findWrong_33).trans rfl
theorem k_X1_findWrong_35 : lk 35 C_X1_findWrong = some (.invokevirtual 18, (73, 2, 8, 1068)) := by decide +kernel
theorem s_X1_findWrong_35 {ca : Nat → List Value → tM → tO} {M : tM} {L : tL} {v1 v2 : Value} {r0 : Nat} {r1 : Nat} {r2 : Nat} {b : Nat} : rn ca C_X1_findWrong 35 L [v2, v1, .ref b, .ref r0, .ref r1, .ref r2] M = if clsO b = some 8 then rnk ca C_X1_findWrong 38 L [.ref r0, .ref r1, .ref r2] (ca m_X8_intAt [.ref b, v1, v2] M) else none := (rn_at k_X1_findWrong_35).trans rnx_ite
theorem k_X1_findWrong_38 : lk 38 C_X1_findWrong = some (.invokevirtual 24, (7, 3, 1, 1069)) := by decide +kernel
theorem s_X1_findWrong_38 {ca : Nat → List Value → tM → tO} {M : tM} {L : tL} {v1 v2 v3 : Value} {b : Nat} : rn ca C_X1_findWrong 38 L [v3, v2, v1, .ref b] M = if clsO b = some 1 then rnk ca C_X1_findWrong 41 L [] (ca m_X1_takeToldLeg [.ref b, v1, v2, v3] M) else none := (rn_at k_X1_findWrong_38).trans rnx_ite
theorem k_X1_findWrong_41 : lk 41 C_X1_findWrong = some (.ifCond .ne 6, (47, 0, 0, 0)) := by decide +kernel
theorem s_X1_findWrong_41 {ca : Nat → List Value → tM → tO} {M : tM} {L : tL} {x : Int32} {S : List Value} : rn ca C_X1_findWrong 41 L (.int x :: S) M = if ¬ x = iI 0 then rn ca C_X1_findWrong 47 L S M else rn ca C_X1_findWrong 44 L S M := (rn_at k_X1_findWrong_41).trans rnx_ite
theorem k_X1_findWrong_44 : lk 44 C_X1_findWrong = some (.iload 6, (0, 0, 0, 0)) := by decide +kernel
theorem s_X1_findWrong_44 {ca : Nat → List Value → tM → tO} {M : tM} {a0 a1 a2 a3 a4 a5 : Option Value} {x : Int32} {S : List Value} : rn ca C_X1_findWrong 44 [a0, a1, a2, a3, a4, a5, some (.int x)] S M = rn ca C_X1_findWrong 46 [a0, a1, a2, a3, a4, a5, some (.int x)] (.int x :: S) M := (rn_at k_X1_findWrong_44).trans rfl
theorem k_X1_findWrong_46 : lk 46 C_X1_findWrong = some (.ireturn, (0, 0, 0, 0)) := by decide +kernel
theorem s_X1_findWrong_46 {ca : Nat → List Value → tM → tO} {M : tM} {L : tL} {x : Int32} : rn ca C_X1_findWrong 46 L [.int x] M = some (some (.int x), M) := (rn_at k_X1_findWrong_46).trans rfl
theorem k_X1_findWrong_47 : lk 47 C_X1_findWrong = some (.iinc 6 1, (0, 0, 0, 0)) := by decide +kernel
theorem s_X1_findWrong_47 {ca : Nat → List Value → tM → tO} {M : tM} {a0 a1 a2 a3 a4 a5 : Option Value} {x : Int32} {S : List Value} : rn ca C_X1_findWrong 47 [a0, a1, a2, a3, a4, a5, some (.int x)] S M = rn ca C_X1_findWrong 50 [a0, a1, a2, a3, a4, a5, some (.int (x + iI 1))] S M := (rn_at k_X1_findWrong_47).trans rfl
theorem k_X1_findWrong_50 : lk 50 C_X1_findWrong = some (.goto (-37), (13, 0, 0, 0)) := by decide +kernel
theorem s_X1_findWrong_50 {ca : Nat → List Value → tM → tO} {M : tM} {L : tL} {S : List Value} : rn ca C_X1_findWrong 50 L S M = rn ca C_X1_findWrong 13 L S M := (rn_at k_X1_findWrong_50).trans rfl
theorem k_X1_findWrong_53 : lk 53 C_X1_findWrong = some (.iconst (-1), (0, 0, 0, 0)) := by decide +kernel
theorem s_X1_findWrong_53 {ca : Nat → List Value → tM → tO} {M : tM} {L : tL} {S : List Value} : rn ca C_X1_findWrong 53 L S M = rn ca C_X1_findWrong 54 L (.int (iI (-1)) :: S) M := (rn_at k_X1_findWrong_53).trans rfl
theorem k_X1_findWrong_54 : lk 54 C_X1_findWrong = some (.ireturn, (0, 0, 0, 0)) := by decide +kernel
theorem s_X1_findWrong_54 {ca : Nat → List Value → tM → tO} {M : tM} {L : tL} {x : Int32} : rn ca C_X1_findWrong 54 L [.int x] M = some (some (.int x), M) := (rn_at k_X1_findWrong_54).trans rfl
theorem k_X1_takeToldLeg_0 : lk 0 C_X1_takeToldLeg = some (.iload_n 3, (0, 0, 0, 0)) := by decide +kernel
theorem s_X1_takeToldLeg_0 {ca : Nat → List Value → tM → tO} {M : tM} {a0 a1 a2 a4 a5 a6 a7 : Option Value} {x : Int32} {S : List Value} : rn ca C_X1_takeToldLeg 0 [a0, a1, a2, some (.int x), a4, a5, a6, a7] S M = rn ca C_X1_takeToldLeg 1 [a0, a1, a2, some (.int x), a4, a5, a6, a7] (.int x :: S) M := (rn_at k_X1_takeToldLeg_0).trans rfl
theorem k_X1_takeToldLeg_1 : lk 1 C_X1_takeToldLeg = some (.bipush 100, (0, 0, 0, 0)) := by decide +kernel
theorem s_X1_takeToldLeg_1 {ca : Nat → List Value → tM → tO} {M : tM} {L : tL} {S : List Value} : rn ca C_X1_takeToldLeg 1 L S M = rn ca C_X1_takeToldLeg 3 L (.int (iI 100) :: S) M := (rn_at k_X1_takeToldLeg_1).trans rfl
theorem k_X1_takeToldLeg_3 : lk 3 C_X1_takeToldLeg = some (.idiv, (0, 0, 0, 0)) := by decide +kernel
theorem s_X1_takeToldLeg_3 {ca : Nat → List Value → tM → tO} {M : tM} {L : tL} {x y : Int32} {S : List Value} : rn ca C_X1_takeToldLeg 3 L (.int y :: .int x :: S) M = if y = iI 0 then none else rn ca C_X1_takeToldLeg 4 L (.int (x / y) :: S) M := (rn_at k_X1_takeToldLeg_3).trans rnx_ite
theorem k_X1_takeToldLeg_4 : lk 4 C_X1_takeToldLeg = some (.istore 4, (0, 0, 0, 0)) := by decide +kernel
theorem s_X1_takeToldLeg_4 {ca : Nat → List Value → tM → tO} {M : tM} {a0 a1 a2 a3 a4 a5 a6 a7 : Option Value} {x : Int32} {S : List Value} : rn ca C_X1_takeToldLeg 4 [a0, a1, a2, a3, a4, a5, a6, a7] (.int x :: S) M = rn ca C_X1_takeToldLeg 6 [a0, a1, a2, a3, some (.int x), a5, a6, a7] S M := (rn_at k_X1_takeToldLeg_4).trans rfl
theorem k_X1_takeToldLeg_6 : lk 6 C_X1_takeToldLeg = some (.iload_n 3, (0, 0, 0, 0)) := by decide +kernel
theorem s_X1_takeToldLeg_6 {ca : Nat → List Value → tM → tO} {M : tM} {a0 a1 a2 a4 a5 a6 a7 : Option Value} {x : Int32} {S : List Value} : rn ca C_X1_takeToldLeg 6 [a0, a1, a2, some (.int x), a4, a5, a6, a7] S M = rn ca C_X1_takeToldLeg 7 [a0, a1, a2, some (.int x), a4, a5, a6, a7] (.int x :: S) M := (rn_at k_X1_takeToldLeg_6).trans rfl
theorem k_X1_takeToldLeg_7 : lk 7 C_X1_takeToldLeg = some (.bipush 10, (0, 0, 0, 0)) := by decide +kernel
theorem s_X1_takeToldLeg_7 {ca : Nat → List Value → tM → tO} {M : tM} {L : tL} {S : List Value} : rn ca C_X1_takeToldLeg 7 L S M = rn ca C_X1_takeToldLeg 9 L (.int (iI 10) :: S) M := (rn_at k_X1_takeToldLeg_7).trans rfl
theorem k_X1_takeToldLeg_9 : lk 9 C_X1_takeToldLeg = some (.idiv, (0, 0, 0, 0)) := by decide +kernel
theorem s_X1_takeToldLeg_9 {ca : Nat → List Value → tM → tO} {M : tM} {L : tL} {x y : Int32} {S : List Value} : rn ca C_X1_takeToldLeg 9 L (.int y :: .int x :: S) M = if y = iI 0 then none else rn ca C_X1_takeToldLeg 10 L (.int (x / y) :: S) M := (rn_at k_X1_takeToldLeg_9).trans rnx_ite
theorem k_X1_takeToldLeg_10 : lk 10 C_X1_takeToldLeg = some (.bipush 10, (0, 0, 0, 0)) := by decide +kernel
theorem s_X1_takeToldLeg_10 {ca : Nat → List Value → tM → tO} {M : tM} {L : tL} {S : List Value} : rn ca C_X1_takeToldLeg 10 L S M = rn ca C_X1_takeToldLeg 12 L (.int (iI 10) :: S) M := (rn_at k_X1_takeToldLeg_10).trans rfl
theorem k_X1_takeToldLeg_12 : lk 12 C_X1_takeToldLeg = some (.irem, (0, 0, 0, 0)) := by decide +kernel
theorem s_X1_takeToldLeg_12 {ca : Nat → List Value → tM → tO} {M : tM} {L : tL} {x y : Int32} {S : List Value} : rn ca C_X1_takeToldLeg 12 L (.int y :: .int x :: S) M = if y = iI 0 then none else rn ca C_X1_takeToldLeg 13 L (.int (irm x y) :: S) M := (rn_at k_X1_takeToldLeg_12).trans rnx_ite
theorem k_X1_takeToldLeg_13 : lk 13 C_X1_takeToldLeg = some (.istore 5, (0, 0, 0, 0)) := by decide +kernel
theorem s_X1_takeToldLeg_13 {ca : Nat → List Value → tM → tO} {M : tM} {a0 a1 a2 a3 a4 a5 a6 a7 : Option Value} {x : Int32} {S : List Value} : rn ca C_X1_takeToldLeg 13 [a0, a1, a2, a3, a4, a5, a6, a7] (.int x :: S) M = rn ca C_X1_takeToldLeg 15 [a0, a1, a2, a3, a4, some (.int x), a6, a7] S M := (rn_at k_X1_takeToldLeg_13).trans rfl
theorem k_X1_takeToldLeg_15 : lk 15 C_X1_takeToldLeg = some (.iload_n 3, (0, 0, 0, 0)) := by decide +kernel
theorem s_X1_takeToldLeg_15 {ca : Nat → List Value → tM → tO} {M : tM} {a0 a1 a2 a4 a5 a6 a7 : Option Value} {x : Int32} {S : List Value} : rn ca C_X1_takeToldLeg 15 [a0, a1, a2, some (.int x), a4, a5, a6, a7] S M = rn ca C_X1_takeToldLeg 16 [a0, a1, a2, some (.int x), a4, a5, a6, a7] (.int x :: S) M := (rn_at k_X1_takeToldLeg_15).trans rfl
theorem k_X1_takeToldLeg_16 : lk 16 C_X1_takeToldLeg = some (.bipush 10, (0, 0, 0, 0)) := by decide +kernel
theorem s_X1_takeToldLeg_16 {ca : Nat → List Value → tM → tO} {M : tM} {L : tL} {S : List Value} : rn ca C_X1_takeToldLeg 16 L S M = rn ca C_X1_takeToldLeg 18 L (.int (iI 10) :: S) M := (rn_at k_X1_takeToldLeg_16).trans rfl
theorem k_X1_takeToldLeg_18 : lk 18 C_X1_takeToldLeg = some (.irem, (0, 0, 0, 0)) := by decide +kernel
theorem s_X1_takeToldLeg_18 {ca : Nat → List Value → tM → tO} {M : tM} {L : tL} {x y : Int32} {S : List Value} : rn ca C_X1_takeToldLeg 18 L (.int y :: .int x :: S) M = if y = iI 0 then none else rn ca C_X1_takeToldLeg 19 L (.int (irm x y) :: S) M := (rn_at k_X1_takeToldLeg_18).trans rnx_ite
theorem k_X1_takeToldLeg_19 : lk 19 C_X1_takeToldLeg = some (.istore 6, (0, 0, 0, 0)) := by decide +kernel
theorem s_X1_takeToldLeg_19 {ca : Nat → List Value → tM → tO} {M : tM} {a0 a1 a2 a3 a4 a5 a6 a7 : Option Value} {x : Int32} {S : List Value} : rn ca C_X1_takeToldLeg 19 [a0, a1, a2, a3, a4, a5, a6, a7] (.int x :: S) M = rn ca C_X1_takeToldLeg 21 [a0, a1, a2, a3, a4, a5, some (.int x), a7] S M := (rn_at k_X1_takeToldLeg_19).trans rfl
theorem k_X1_takeToldLeg_21 : lk 21 C_X1_takeToldLeg = some (.iload_n 3, (0, 0, 0, 0)) := by decide +kernel
theorem s_X1_takeToldLeg_21 {ca : Nat → List Value → tM → tO} {M : tM} {a0 a1 a2 a4 a5 a6 a7 : Option Value} {x : Int32} {S : List Value} : rn ca C_X1_takeToldLeg 21 [a0, a1, a2, some (.int x), a4, a5, a6, a7] S M = rn ca C_X1_takeToldLeg 22 [a0, a1, a2, some (.int x), a4, a5, a6, a7] (.int x :: S) M := (rn_at k_X1_takeToldLeg_21).trans rfl
theorem k_X1_takeToldLeg_22 : lk 22 C_X1_takeToldLeg = some (.ifCond .lt 27, (49, 0, 0, 0)) := by decide +kernel
theorem s_X1_takeToldLeg_22 {ca : Nat → List Value → tM → tO} {M : tM} {L : tL} {x : Int32} {S : List Value} : rn ca C_X1_takeToldLeg 22 L (.int x :: S) M = if x < iI 0 then rn ca C_X1_takeToldLeg 49 L S M else rn ca C_X1_takeToldLeg 25 L S M := (rn_at k_X1_takeToldLeg_22).trans rnx_ite
theorem k_X1_takeToldLeg_25 : lk 25 C_X1_takeToldLeg = some (.iload 6, (0, 0, 0, 0)) := by decide +kernel
theorem s_X1_takeToldLeg_25 {ca : Nat → List Value → tM → tO} {M : tM} {a0 a1 a2 a3 a4 a5 a7 : Option Value} {x : Int32} {S : List Value} : rn ca C_X1_takeToldLeg 25 [a0, a1, a2, a3, a4, a5, some (.int x), a7] S M = rn ca C_X1_takeToldLeg 27 [a0, a1, a2, a3, a4, a5, some (.int x), a7] (.int x :: S) M := (rn_at k_X1_takeToldLeg_25).trans rfl
theorem k_X1_takeToldLeg_27 : lk 27 C_X1_takeToldLeg = some (.iconst 1, (0, 0, 0, 0)) := by decide +kernel
theorem s_X1_takeToldLeg_27 {ca : Nat → List Value → tM → tO} {M : tM} {L : tL} {S : List Value} : rn ca C_X1_takeToldLeg 27 L S M = rn ca C_X1_takeToldLeg 28 L (.int (iI 1) :: S) M := (rn_at k_X1_takeToldLeg_27).trans rfl
theorem k_X1_takeToldLeg_28 : lk 28 C_X1_takeToldLeg = some (.if_icmp .gt 21, (49, 0, 0, 0)) := by decide +kernel
theorem s_X1_takeToldLeg_28 {ca : Nat → List Value → tM → tO} {M : tM} {L : tL} {x y : Int32} {S : List Value} : rn ca C_X1_takeToldLeg 28 L (.int y :: .int x :: S) M = if y < x then rn ca C_X1_takeToldLeg 49 L S M else rn ca C_X1_takeToldLeg 31 L S M := (rn_at k_X1_takeToldLeg_28).trans rnx_ite
theorem k_X1_takeToldLeg_31 : lk 31 C_X1_takeToldLeg = some (.aload_n 1, (0, 0, 0, 0)) := by decide +kernel
theorem s_X1_takeToldLeg_31 {ca : Nat → List Value → tM → tO} {M : tM} {a0 a2 a3 a4 a5 a6 a7 : Option Value} {x : Nat} {S : List Value} : rn ca C_X1_takeToldLeg 31 [a0, some (.ref x), a2, a3, a4, a5, a6, a7] S M = rn ca C_X1_takeToldLeg 32 [a0, some (.ref x), a2, a3, a4, a5, a6, a7] (.ref x :: S) M := (rn_at k_X1_takeToldLeg_31).trans rfl
theorem k_X1_takeToldLeg_32 : lk 32 C_X1_takeToldLeg = some (.iload 4, (0, 0, 0, 0)) := by decide +kernel
theorem s_X1_takeToldLeg_32 {ca : Nat → List Value → tM → tO} {M : tM} {a0 a1 a2 a3 a5 a6 a7 : Option Value} {x : Int32} {S : List Value} : rn ca C_X1_takeToldLeg 32 [a0, a1, a2, a3, some (.int x), a5, a6, a7] S M = rn ca C_X1_takeToldLeg 34 [a0, a1, a2, a3, some (.int x), a5, a6, a7] (.int x :: S) M := (rn_at k_X1_takeToldLeg_32).trans rfl
theorem k_X1_takeToldLeg_34 : lk 34 C_X1_takeToldLeg = some (.invokevirtual 28, (20, 1, 4, 1073)) := by decide +kernel
theorem s_X1_takeToldLeg_34 {ca : Nat → List Value → tM → tO} {M : tM} {L : tL} {v1 : Value} {b : Nat} : rn ca C_X1_takeToldLeg 34 L [v1, .ref b] M = if clsO b = some 4 then rnk ca C_X1_takeToldLeg 37 L [] (ca m_X4_hasCapsule [.ref b, v1] M) else none := (rn_at k_X1_takeToldLeg_34).trans rnx_ite
theorem k_X1_takeToldLeg_37 : lk 37 C_X1_takeToldLeg = some (.ifCond .eq 12, (49, 0, 0, 0)) := by decide +kernel
theorem s_X1_takeToldLeg_37 {ca : Nat → List Value → tM → tO} {M : tM} {L : tL} {x : Int32} {S : List Value} : rn ca C_X1_takeToldLeg 37 L (.int x :: S) M = if x = iI 0 then rn ca C_X1_takeToldLeg 49 L S M else rn ca C_X1_takeToldLeg 40 L S M := (rn_at k_X1_takeToldLeg_37).trans rnx_ite
theorem k_X1_takeToldLeg_40 : lk 40 C_X1_takeToldLeg = some (.aload_n 1, (0, 0, 0, 0)) := by decide +kernel
theorem s_X1_takeToldLeg_40 {ca : Nat → List Value → tM → tO} {M : tM} {a0 a2 a3 a4 a5 a6 a7 : Option Value} {x : Nat} {S : List Value} : rn ca C_X1_takeToldLeg 40 [a0, some (.ref x), a2, a3, a4, a5, a6, a7] S M = rn ca C_X1_takeToldLeg 41 [a0, some (.ref x), a2, a3, a4, a5, a6, a7] (.ref x :: S) M := (rn_at k_X1_takeToldLeg_40).trans rfl
theorem k_X1_takeToldLeg_41 : lk 41 C_X1_takeToldLeg = some (.iload 5, (0, 0, 0, 0)) := by decide +kernel
theorem s_X1_takeToldLeg_41 {ca : Nat → List Value → tM → tO} {M : tM} {a0 a1 a2 a3 a4 a6 a7 : Option Value} {x : Int32} {S : List Value} : rn ca C_X1_takeToldLeg 41 [a0, a1, a2, a3, a4, some (.int x), a6, a7] S M = rn ca C_X1_takeToldLeg 43 [a0, a1, a2, a3, a4, some (.int x), a6, a7] (.int x :: S) M := (rn_at k_X1_takeToldLeg_41).trans rfl
theorem k_X1_takeToldLeg_43 : lk 43 C_X1_takeToldLeg = some (.invokevirtual 34, (18, 1, 4, 1074)) := by decide +kernel
theorem s_X1_takeToldLeg_43 {ca : Nat → List Value → tM → tO} {M : tM} {L : tL} {v1 : Value} {b : Nat} : rn ca C_X1_takeToldLeg 43 L [v1, .ref b] M = if clsO b = some 4 then rnk ca C_X1_takeToldLeg 46 L [] (ca m_X4_hasDesk [.ref b, v1] M) else none := (rn_at k_X1_takeToldLeg_43).trans rnx_ite
theorem k_X1_takeToldLeg_46 : lk 46 C_X1_takeToldLeg = some (.ifCond .ne 5, (51, 0, 0, 0)) := by decide +kernel
theorem s_X1_takeToldLeg_46 {ca : Nat → List Value → tM → tO} {M : tM} {L : tL} {x : Int32} {S : List Value} : rn ca C_X1_takeToldLeg 46 L (.int x :: S) M = if ¬ x = iI 0 then rn ca C_X1_takeToldLeg 51 L S M else rn ca C_X1_takeToldLeg 49 L S M := (rn_at k_X1_takeToldLeg_46).trans rnx_ite
theorem k_X1_takeToldLeg_49 : lk 49 C_X1_takeToldLeg = some (.iconst 0, (0, 0, 0, 0)) := by decide +kernel
theorem s_X1_takeToldLeg_49 {ca : Nat → List Value → tM → tO} {M : tM} {L : tL} {S : List Value} : rn ca C_X1_takeToldLeg 49 L S M = rn ca C_X1_takeToldLeg 50 L (.int (iI 0) :: S) M := (rn_at k_X1_takeToldLeg_49).trans rfl
theorem k_X1_takeToldLeg_50 : lk 50 C_X1_takeToldLeg = some (.ireturn, (1, 0, 0, 0)) := by decide +kernel
theorem s_X1_takeToldLeg_50 {ca : Nat → List Value → tM → tO} {M : tM} {L : tL} {x : Int32} : rn ca C_X1_takeToldLeg 50 L [.int x] M = if x = iI 0 ∨ x = iI 1 then some (some (.int x), M) else none := (rn_at k_X1_takeToldLeg_50).trans rnx_ite
theorem k_X1_takeToldLeg_51 : lk 51 C_X1_takeToldLeg = some (.aload_n 2, (0, 0, 0, 0)) := by decide +kernel
theorem s_X1_takeToldLeg_51 {ca : Nat → List Value → tM → tO} {M : tM} {a0 a1 a3 a4 a5 a6 a7 : Option Value} {x : Nat} {S : List Value} : rn ca C_X1_takeToldLeg 51 [a0, a1, some (.ref x), a3, a4, a5, a6, a7] S M = rn ca C_X1_takeToldLeg 52 [a0, a1, some (.ref x), a3, a4, a5, a6, a7] (.ref x :: S) M := (rn_at k_X1_takeToldLeg_51).trans rfl
theorem k_X1_takeToldLeg_52 : lk 52 C_X1_takeToldLeg = some (.aload_n 1, (0, 0, 0, 0)) := by decide +kernel
theorem s_X1_takeToldLeg_52 {ca : Nat → List Value → tM → tO} {M : tM} {a0 a2 a3 a4 a5 a6 a7 : Option Value} {x : Nat} {S : List Value} : rn ca C_X1_takeToldLeg 52 [a0, some (.ref x), a2, a3, a4, a5, a6, a7] S M = rn ca C_X1_takeToldLeg 53 [a0, some (.ref x), a2, a3, a4, a5, a6, a7] (.ref x :: S) M := (rn_at k_X1_takeToldLeg_52).trans rfl
theorem k_X1_takeToldLeg_53 : lk 53 C_X1_takeToldLeg = some (.iload 4, (0, 0, 0, 0)) := by decide +kernel
theorem s_X1_takeToldLeg_53 {ca : Nat → List Value → tM → tO} {M : tM} {a0 a1 a2 a3 a5 a6 a7 : Option Value} {x : Int32} {S : List Value} : rn ca C_X1_takeToldLeg 53 [a0, a1, a2, a3, some (.int x), a5, a6, a7] S M = rn ca C_X1_takeToldLeg 55 [a0, a1, a2, a3, some (.int x), a5, a6, a7] (.int x :: S) M := (rn_at k_X1_takeToldLeg_53).trans rfl
theorem k_X1_takeToldLeg_55 : lk 55 C_X1_takeToldLeg = some (.iload 5, (0, 0, 0, 0)) := by decide +kernel
theorem s_X1_takeToldLeg_55 {ca : Nat → List Value → tM → tO} {M : tM} {a0 a1 a2 a3 a4 a6 a7 : Option Value} {x : Int32} {S : List Value} : rn ca C_X1_takeToldLeg 55 [a0, a1, a2, a3, a4, some (.int x), a6, a7] S M = rn ca C_X1_takeToldLeg 57 [a0, a1, a2, a3, a4, some (.int x), a6, a7] (.int x :: S) M := (rn_at k_X1_takeToldLeg_55).trans rfl
theorem k_X1_takeToldLeg_57 : lk 57 C_X1_takeToldLeg = some (.aload_n 1, (0, 0, 0, 0)) := by decide +kernel
theorem s_X1_takeToldLeg_57 {ca : Nat → List Value → tM → tO} {M : tM} {a0 a2 a3 a4 a5 a6 a7 : Option Value} {x : Nat} {S : List Value} : rn ca C_X1_takeToldLeg 57 [a0, some (.ref x), a2, a3, a4, a5, a6, a7] S M = rn ca C_X1_takeToldLeg 58 [a0, some (.ref x), a2, a3, a4, a5, a6, a7] (.ref x :: S) M := (rn_at k_X1_takeToldLeg_57).trans rfl
theorem k_X1_takeToldLeg_58 : lk 58 C_X1_takeToldLeg = some (.getfield 37, (4, 13, 0, 100032)) := by decide +kernel
theorem s_X1_takeToldLeg_58 {ca : Nat → List Value → tM → tO} {M : tM} {L : tL} {b : Nat} {S : List Value} : rn ca C_X1_takeToldLeg 58 L (.ref b :: S) M = if clsO b = some 4 then rn ca C_X1_takeToldLeg 61 L (fv M b 13 :: S) M else none := (rn_at k_X1_takeToldLeg_58).trans rnx_ite
theorem k_X1_takeToldLeg_61 : lk 61 C_X1_takeToldLeg = some (.invokevirtual 40, (86, 4, 9, 1075)) := by decide +kernel
theorem s_X1_takeToldLeg_61 {ca : Nat → List Value → tM → tO} {M : tM} {L : tL} {v1 v2 v3 v4 : Value} {b : Nat} : rn ca C_X1_takeToldLeg 61 L [v4, v3, v2, v1, .ref b] M = if clsO b = some 9 then rnk ca C_X1_takeToldLeg 64 L [] (ca m_X9_minutesTo [.ref b, v1, v2, v3, v4] M) else none := (rn_at k_X1_takeToldLeg_61).trans rnx_ite
theorem k_X1_takeToldLeg_64 : lk 64 C_X1_takeToldLeg = some (.istore 7, (0, 0, 0, 0)) := by decide +kernel
theorem s_X1_takeToldLeg_64 {ca : Nat → List Value → tM → tO} {M : tM} {a0 a1 a2 a3 a4 a5 a6 a7 : Option Value} {x : Int32} {S : List Value} : rn ca C_X1_takeToldLeg 64 [a0, a1, a2, a3, a4, a5, a6, a7] (.int x :: S) M = rn ca C_X1_takeToldLeg 66 [a0, a1, a2, a3, a4, a5, a6, some (.int x)] S M := (rn_at k_X1_takeToldLeg_64).trans rfl
theorem k_X1_takeToldLeg_66 : lk 66 C_X1_takeToldLeg = some (.iload 7, (0, 0, 0, 0)) := by decide +kernel
theorem s_X1_takeToldLeg_66 {ca : Nat → List Value → tM → tO} {M : tM} {a0 a1 a2 a3 a4 a5 a6 : Option Value} {x : Int32} {S : List Value} : rn ca C_X1_takeToldLeg 66 [a0, a1, a2, a3, a4, a5, a6, some (.int x)] S M = rn ca C_X1_takeToldLeg 68 [a0, a1, a2, a3, a4, a5, a6, some (.int x)] (.int x :: S) M := (rn_at k_X1_takeToldLeg_66).trans rfl
theorem k_X1_takeToldLeg_68 : lk 68 C_X1_takeToldLeg = some (.iconst (-1), (0, 0, 0, 0)) := by decide +kernel
theorem s_X1_takeToldLeg_68 {ca : Nat → List Value → tM → tO} {M : tM} {L : tL} {S : List Value} : rn ca C_X1_takeToldLeg 68 L S M = rn ca C_X1_takeToldLeg 69 L (.int (iI (-1)) :: S) M := (rn_at k_X1_takeToldLeg_68).trans rfl
theorem k_X1_takeToldLeg_69 : lk 69 C_X1_takeToldLeg = some (.if_icmp .ne 5, (74, 0, 0, 0)) := by decide +kernel
theorem s_X1_takeToldLeg_69 {ca : Nat → List Value → tM → tO} {M : tM} {L : tL} {x y : Int32} {S : List Value} : rn ca C_X1_takeToldLeg 69 L (.int y :: .int x :: S) M = if ¬ x = y then rn ca C_X1_takeToldLeg 74 L S M else rn ca C_X1_takeToldLeg 72 L S M := (rn_at k_X1_takeToldLeg_69).trans rnx_ite
theorem k_X1_takeToldLeg_72 : lk 72 C_X1_takeToldLeg = some (.iconst 0, (0, 0, 0, 0)) := by decide +kernel
theorem s_X1_takeToldLeg_72 {ca : Nat → List Value → tM → tO} {M : tM} {L : tL} {S : List Value} : rn ca C_X1_takeToldLeg 72 L S M = rn ca C_X1_takeToldLeg 73 L (.int (iI 0) :: S) M := (rn_at k_X1_takeToldLeg_72).trans rfl
theorem k_X1_takeToldLeg_73 : lk 73 C_X1_takeToldLeg = some (.ireturn, (1, 0, 0, 0)) := by decide +kernel
theorem s_X1_takeToldLeg_73 {ca : Nat → List Value → tM → tO} {M : tM} {L : tL} {x : Int32} : rn ca C_X1_takeToldLeg 73 L [.int x] M = if x = iI 0 ∨ x = iI 1 then some (some (.int x), M) else none := (rn_at k_X1_takeToldLeg_73).trans rnx_ite
theorem k_X1_takeToldLeg_74 : lk 74 C_X1_takeToldLeg = some (.aload_n 1, (0, 0, 0, 0)) := by decide +kernel
theorem s_X1_takeToldLeg_74 {ca : Nat → List Value → tM → tO} {M : tM} {a0 a2 a3 a4 a5 a6 a7 : Option Value} {x : Nat} {S : List Value} : rn ca C_X1_takeToldLeg 74 [a0, some (.ref x), a2, a3, a4, a5, a6, a7] S M = rn ca C_X1_takeToldLeg 75 [a0, some (.ref x), a2, a3, a4, a5, a6, a7] (.ref x :: S) M := (rn_at k_X1_takeToldLeg_74).trans rfl
theorem k_X1_takeToldLeg_75 : lk 75 C_X1_takeToldLeg = some (.iload 4, (0, 0, 0, 0)) := by decide +kernel
theorem s_X1_takeToldLeg_75 {ca : Nat → List Value → tM → tO} {M : tM} {a0 a1 a2 a3 a5 a6 a7 : Option Value} {x : Int32} {S : List Value} : rn ca C_X1_takeToldLeg 75 [a0, a1, a2, a3, some (.int x), a5, a6, a7] S M = rn ca C_X1_takeToldLeg 77 [a0, a1, a2, a3, some (.int x), a5, a6, a7] (.int x :: S) M := (rn_at k_X1_takeToldLeg_75).trans rfl
theorem k_X1_takeToldLeg_77 : lk 77 C_X1_takeToldLeg = some (.iload 5, (0, 0, 0, 0)) := by decide +kernel
theorem s_X1_takeToldLeg_77 {ca : Nat → List Value → tM → tO} {M : tM} {a0 a1 a2 a3 a4 a6 a7 : Option Value} {x : Int32} {S : List Value} : rn ca C_X1_takeToldLeg 77 [a0, a1, a2, a3, a4, some (.int x), a6, a7] S M = rn ca C_X1_takeToldLeg 79 [a0, a1, a2, a3, a4, some (.int x), a6, a7] (.int x :: S) M := (rn_at k_X1_takeToldLeg_77).trans rfl
theorem k_X1_takeToldLeg_79 : lk 79 C_X1_takeToldLeg = some (.iload 7, (0, 0, 0, 0)) := by decide +kernel
theorem s_X1_takeToldLeg_79 {ca : Nat → List Value → tM → tO} {M : tM} {a0 a1 a2 a3 a4 a5 a6 : Option Value} {x : Int32} {S : List Value} : rn ca C_X1_takeToldLeg 79 [a0, a1, a2, a3, a4, a5, a6, some (.int x)] S M = rn ca C_X1_takeToldLeg 81 [a0, a1, a2, a3, a4, a5, a6, some (.int x)] (.int x :: S) M := (rn_at k_X1_takeToldLeg_79).trans rfl
theorem k_X1_takeToldLeg_81 : lk 81 C_X1_takeToldLeg = some (.iload 6, (0, 0, 0, 0)) := by decide +kernel
theorem s_X1_takeToldLeg_81 {ca : Nat → List Value → tM → tO} {M : tM} {a0 a1 a2 a3 a4 a5 a7 : Option Value} {x : Int32} {S : List Value} : rn ca C_X1_takeToldLeg 81 [a0, a1, a2, a3, a4, a5, some (.int x), a7] S M = rn ca C_X1_takeToldLeg 83 [a0, a1, a2, a3, a4, a5, some (.int x), a7] (.int x :: S) M := (rn_at k_X1_takeToldLeg_81).trans rfl
theorem k_X1_takeToldLeg_83 : lk 83 C_X1_takeToldLeg = some (.iconst 1, (0, 0, 0, 0)) := by decide +kernel
theorem s_X1_takeToldLeg_83 {ca : Nat → List Value → tM → tO} {M : tM} {L : tL} {S : List Value} : rn ca C_X1_takeToldLeg 83 L S M = rn ca C_X1_takeToldLeg 84 L (.int (iI 1) :: S) M := (rn_at k_X1_takeToldLeg_83).trans rfl
theorem k_X1_takeToldLeg_84 : lk 84 C_X1_takeToldLeg = some (.if_icmp .ne 7, (91, 0, 0, 0)) := by decide +kernel
theorem s_X1_takeToldLeg_84 {ca : Nat → List Value → tM → tO} {M : tM} {L : tL} {x y : Int32} {S : List Value} : rn ca C_X1_takeToldLeg 84 L (.int y :: .int x :: S) M = if ¬ x = y then rn ca C_X1_takeToldLeg 91 L S M else rn ca C_X1_takeToldLeg 87 L S M := (rn_at k_X1_takeToldLeg_84).trans rnx_ite
theorem k_X1_takeToldLeg_87 : lk 87 C_X1_takeToldLeg = some (.iconst 1, (0, 0, 0, 0)) := by decide +kernel
theorem s_X1_takeToldLeg_87 {ca : Nat → List Value → tM → tO} {M : tM} {L : tL} {S : List Value} : rn ca C_X1_takeToldLeg 87 L S M = rn ca C_X1_takeToldLeg 88 L (.int (iI 1) :: S) M := (rn_at k_X1_takeToldLeg_87).trans rfl
theorem k_X1_takeToldLeg_88 : lk 88 C_X1_takeToldLeg = some (.goto 4, (92, 0, 0, 0)) := by decide +kernel
theorem s_X1_takeToldLeg_88 {ca : Nat → List Value → tM → tO} {M : tM} {L : tL} {S : List Value} : rn ca C_X1_takeToldLeg 88 L S M = rn ca C_X1_takeToldLeg 92 L S M := (rn_at k_X1_takeToldLeg_88).trans rfl
theorem k_X1_takeToldLeg_91 : lk 91 C_X1_takeToldLeg = some (.iconst 0, (0, 0, 0, 0)) := by decide +kernel
theorem s_X1_takeToldLeg_91 {ca : Nat → List Value → tM → tO} {M : tM} {L : tL} {S : List Value} : rn ca C_X1_takeToldLeg 91 L S M = rn ca C_X1_takeToldLeg 92 L (.int (iI 0) :: S) M := (rn_at k_X1_takeToldLeg_91).trans rfl
theorem k_X1_takeToldLeg_92 : lk 92 C_X1_takeToldLeg = some (.invokevirtual 46, (33, 4, 4, 1076)) := by decide +kernel
theorem s_X1_takeToldLeg_92 {ca : Nat → List Value → tM → tO} {M : tM} {L : tL} {v1 v2 v3 v4 : Value} {b : Nat} : rn ca C_X1_takeToldLeg 92 L [v4, v3, v2, v1, .ref b] M = if clsO b = some 4 then rnk ca C_X1_takeToldLeg 95 L [] (ca m_X4_goTo [.ref b, v1, v2, v3, v4] M) else none := (rn_at k_X1_takeToldLeg_92).trans rnx_ite
theorem k_X1_takeToldLeg_95 : lk 95 C_X1_takeToldLeg = some (.aload_n 0, (0, 0, 0, 0)) := by decide +kernel
theorem s_X1_takeToldLeg_95 {ca : Nat → List Value → tM → tO} {M : tM} {a1 a2 a3 a4 a5 a6 a7 : Option Value} {x : Nat} {S : List Value} : rn ca C_X1_takeToldLeg 95 [some (.ref x), a1, a2, a3, a4, a5, a6, a7] S M = rn ca C_X1_takeToldLeg 96 [some (.ref x), a1, a2, a3, a4, a5, a6, a7] (.ref x :: S) M := (rn_at k_X1_takeToldLeg_95).trans rfl
theorem k_X1_takeToldLeg_96 : lk 96 C_X1_takeToldLeg = some (.dup, (0, 0, 0, 0)) := by decide +kernel
theorem s_X1_takeToldLeg_96 {ca : Nat → List Value → tM → tO} {M : tM} {L : tL} {x : Nat} {S : List Value} : rn ca C_X1_takeToldLeg 96 L (.ref x :: S) M = rn ca C_X1_takeToldLeg 97 L (.ref x :: .ref x :: S) M := (rn_at k_X1_takeToldLeg_96).trans rfl
theorem s_X1_takeToldLeg_96b {ca : Nat → List Value → tM → tO} {M : tM} {L : tL} {x : Int32} {S : List Value} : rn ca C_X1_takeToldLeg 96 L (.int x :: S) M = rn ca C_X1_takeToldLeg 97 L (.int x :: .int x :: S) M := (rn_at k_X1_takeToldLeg_96).trans rfl
theorem k_X1_takeToldLeg_97 : lk 97 C_X1_takeToldLeg = some (.getfield 9, (1, 0, 0, 132)) := by decide +kernel
theorem s_X1_takeToldLeg_97 {ca : Nat → List Value → tM → tO} {M : tM} {L : tL} {b : Nat} {S : List Value} : rn ca C_X1_takeToldLeg 97 L (.ref b :: S) M = if clsO b = some 1 then rn ca C_X1_takeToldLeg 100 L (fv M b 0 :: S) M else none := (rn_at k_X1_takeToldLeg_97).trans rnx_ite
theorem k_X1_takeToldLeg_100 : lk 100 C_X1_takeToldLeg = some (.iload 7, (0, 0, 0, 0)) := by decide +kernel
theorem s_X1_takeToldLeg_100 {ca : Nat → List Value → tM → tO} {M : tM} {a0 a1 a2 a3 a4 a5 a6 : Option Value} {x : Int32} {S : List Value} : rn ca C_X1_takeToldLeg 100 [a0, a1, a2, a3, a4, a5, a6, some (.int x)] S M = rn ca C_X1_takeToldLeg 102 [a0, a1, a2, a3, a4, a5, a6, some (.int x)] (.int x :: S) M := (rn_at k_X1_takeToldLeg_100).trans rfl
theorem k_X1_takeToldLeg_102 : lk 102 C_X1_takeToldLeg = some (.iadd, (0, 0, 0, 0)) := by decide +kernel
theorem s_X1_takeToldLeg_102 {ca : Nat → List Value → tM → tO} {M : tM} {L : tL} {x y : Int32} {S : List Value} : rn ca C_X1_takeToldLeg 102 L (.int y :: .int x :: S) M = rn ca C_X1_takeToldLeg 103 L (.int (x + y) :: S) M := (rn_at k_X1_takeToldLeg_102).trans rfl
theorem k_X1_takeToldLeg_103 : lk 103 C_X1_takeToldLeg = some (.putfield 9, (1, 0, 0, 132)) := by decide +kernel
theorem s_X1_takeToldLeg_103 {ca : Nat → List Value → tM → tO} {M : tM} {L : tL} {b : Nat} {v : Int32} {S : List Value} : rn ca C_X1_takeToldLeg 103 L (.int v :: .ref b :: S) M = if clsO b = some 1 then rn ca C_X1_takeToldLeg 106 L S (sI M b 0 v) else none := (rn_at k_X1_takeToldLeg_103).trans rnx_ite
theorem k_X1_takeToldLeg_106 : lk 106 C_X1_takeToldLeg = some (.aload_n 0, (0, 0, 0, 0)) := by decide +kernel
theorem s_X1_takeToldLeg_106 {ca : Nat → List Value → tM → tO} {M : tM} {a1 a2 a3 a4 a5 a6 a7 : Option Value} {x : Nat} {S : List Value} : rn ca C_X1_takeToldLeg 106 [some (.ref x), a1, a2, a3, a4, a5, a6, a7] S M = rn ca C_X1_takeToldLeg 107 [some (.ref x), a1, a2, a3, a4, a5, a6, a7] (.ref x :: S) M := (rn_at k_X1_takeToldLeg_106).trans rfl
theorem k_X1_takeToldLeg_107 : lk 107 C_X1_takeToldLeg = some (.dup, (0, 0, 0, 0)) := by decide +kernel
theorem s_X1_takeToldLeg_107 {ca : Nat → List Value → tM → tO} {M : tM} {L : tL} {x : Nat} {S : List Value} : rn ca C_X1_takeToldLeg 107 L (.ref x :: S) M = rn ca C_X1_takeToldLeg 108 L (.ref x :: .ref x :: S) M := (rn_at k_X1_takeToldLeg_107).trans rfl
theorem s_X1_takeToldLeg_107b {ca : Nat → List Value → tM → tO} {M : tM} {L : tL} {x : Int32} {S : List Value} : rn ca C_X1_takeToldLeg 107 L (.int x :: S) M = rn ca C_X1_takeToldLeg 108 L (.int x :: .int x :: S) M := (rn_at k_X1_takeToldLeg_107).trans rfl
theorem k_X1_takeToldLeg_108 : lk 108 C_X1_takeToldLeg = some (.getfield 15, (1, 1, 0, 133)) := by decide +kernel
theorem s_X1_takeToldLeg_108 {ca : Nat → List Value → tM → tO} {M : tM} {L : tL} {b : Nat} {S : List Value} : rn ca C_X1_takeToldLeg 108 L (.ref b :: S) M = if clsO b = some 1 then rn ca C_X1_takeToldLeg 111 L (fv M b 1 :: S) M else none := (rn_at k_X1_takeToldLeg_108).trans rnx_ite
theorem k_X1_takeToldLeg_111 : lk 111 C_X1_takeToldLeg = some (.iload 6, (0, 0, 0, 0)) := by decide +kernel
theorem s_X1_takeToldLeg_111 {ca : Nat → List Value → tM → tO} {M : tM} {a0 a1 a2 a3 a4 a5 a7 : Option Value} {x : Int32} {S : List Value} : rn ca C_X1_takeToldLeg 111 [a0, a1, a2, a3, a4, a5, some (.int x), a7] S M = rn ca C_X1_takeToldLeg 113 [a0, a1, a2, a3, a4, a5, some (.int x), a7] (.int x :: S) M := (rn_at k_X1_takeToldLeg_111).trans rfl
theorem k_X1_takeToldLeg_113 : lk 113 C_X1_takeToldLeg = some (.iadd, (0, 0, 0, 0)) := by decide +kernel
theorem s_X1_takeToldLeg_113 {ca : Nat → List Value → tM → tO} {M : tM} {L : tL} {x y : Int32} {S : List Value} : rn ca C_X1_takeToldLeg 113 L (.int y :: .int x :: S) M = rn ca C_X1_takeToldLeg 114 L (.int (x + y) :: S) M := (rn_at k_X1_takeToldLeg_113).trans rfl
theorem k_X1_takeToldLeg_114 : lk 114 C_X1_takeToldLeg = some (.putfield 15, (1, 1, 0, 133)) := by decide +kernel
theorem s_X1_takeToldLeg_114 {ca : Nat → List Value → tM → tO} {M : tM} {L : tL} {b : Nat} {v : Int32} {S : List Value} : rn ca C_X1_takeToldLeg 114 L (.int v :: .ref b :: S) M = if clsO b = some 1 then rn ca C_X1_takeToldLeg 117 L S (sI M b 1 v) else none := (rn_at k_X1_takeToldLeg_114).trans rnx_ite
theorem k_X1_takeToldLeg_117 : lk 117 C_X1_takeToldLeg = some (.iconst 1, (0, 0, 0, 0)) := by decide +kernel
theorem s_X1_takeToldLeg_117 {ca : Nat → List Value → tM → tO} {M : tM} {L : tL} {S : List Value} : rn ca C_X1_takeToldLeg 117 L S M = rn ca C_X1_takeToldLeg 118 L (.int (iI 1) :: S) M := (rn_at k_X1_takeToldLeg_117).trans rfl
theorem k_X1_takeToldLeg_118 : lk 118 C_X1_takeToldLeg = some (.ireturn, (1, 0, 0, 0)) := by decide +kernel
theorem s_X1_takeToldLeg_118 {ca : Nat → List Value → tM → tO} {M : tM} {L : tL} {x : Int32} : rn ca C_X1_takeToldLeg 118 L [.int x] M = if x = iI 0 ∨ x = iI 1 then some (some (.int x), M) else none := (rn_at k_X1_takeToldLeg_118).trans rnx_ite
theorem k_X1_takeDrawnLeg_0 : lk 0 C_X1_takeDrawnLeg = some (.aload_n 1, (0, 0, 0, 0)) := by decide +kernel
theorem s_X1_takeDrawnLeg_0 {ca : Nat → List Value → tM → tO} {M : tM} {a0 a2 a3 a4 a5 a6 : Option Value} {x : Nat} {S : List Value} : rn ca C_X1_takeDrawnLeg 0 [a0, some (.ref x), a2, a3, a4, a5, a6] S M = rn ca C_X1_takeDrawnLeg 1 [a0, some (.ref x), a2, a3, a4, a5, a6] (.ref x :: S) M := (rn_at k_X1_takeDrawnLeg_0).trans rfl
theorem k_X1_takeDrawnLeg_1 : lk 1 C_X1_takeDrawnLeg = some (.aload_n 1, (0, 0, 0, 0)) := by decide +kernel
theorem s_X1_takeDrawnLeg_1 {ca : Nat → List Value → tM → tO} {M : tM} {a0 a2 a3 a4 a5 a6 : Option Value} {x : Nat} {S : List Value} : rn ca C_X1_takeDrawnLeg 1 [a0, some (.ref x), a2, a3, a4, a5, a6] S M = rn ca C_X1_takeDrawnLeg 2 [a0, some (.ref x), a2, a3, a4, a5, a6] (.ref x :: S) M := (rn_at k_X1_takeDrawnLeg_1).trans rfl
theorem k_X1_takeDrawnLeg_2 : lk 2 C_X1_takeDrawnLeg = some (.getfield 50, (4, 8, 0, 100025)) := by decide +kernel
theorem s_X1_takeDrawnLeg_2 {ca : Nat → List Value → tM → tO} {M : tM} {L : tL} {b : Nat} {S : List Value} : rn ca C_X1_takeDrawnLeg 2 L (.ref b :: S) M = if clsO b = some 4 then rn ca C_X1_takeDrawnLeg 5 L (fv M b 8 :: S) M else none := (rn_at k_X1_takeDrawnLeg_2).trans rnx_ite
theorem k_X1_takeDrawnLeg_5 : lk 5 C_X1_takeDrawnLeg = some (.invokevirtual 53, (34, 1, 4, 1140)) := by decide +kernel
theorem s_X1_takeDrawnLeg_5 {ca : Nat → List Value → tM → tO} {M : tM} {L : tL} {v1 : Value} {b : Nat} : rn ca C_X1_takeDrawnLeg 5 L [v1, .ref b] M = if clsO b = some 4 then rnk ca C_X1_takeDrawnLeg 8 L [] (ca m_X4_draw [.ref b, v1] M) else none := (rn_at k_X1_takeDrawnLeg_5).trans rnx_ite
theorem k_X1_takeDrawnLeg_8 : lk 8 C_X1_takeDrawnLeg = some (.istore_n 3, (0, 0, 0, 0)) := by decide +kernel
theorem s_X1_takeDrawnLeg_8 {ca : Nat → List Value → tM → tO} {M : tM} {a0 a1 a2 a3 a4 a5 a6 : Option Value} {x : Int32} {S : List Value} : rn ca C_X1_takeDrawnLeg 8 [a0, a1, a2, a3, a4, a5, a6] (.int x :: S) M = rn ca C_X1_takeDrawnLeg 9 [a0, a1, a2, some (.int x), a4, a5, a6] S M := (rn_at k_X1_takeDrawnLeg_8).trans rfl
theorem k_X1_takeDrawnLeg_9 : lk 9 C_X1_takeDrawnLeg = some (.aload_n 1, (0, 0, 0, 0)) := by decide +kernel
theorem s_X1_takeDrawnLeg_9 {ca : Nat → List Value → tM → tO} {M : tM} {a0 a2 a3 a4 a5 a6 : Option Value} {x : Nat} {S : List Value} : rn ca C_X1_takeDrawnLeg 9 [a0, some (.ref x), a2, a3, a4, a5, a6] S M = rn ca C_X1_takeDrawnLeg 10 [a0, some (.ref x), a2, a3, a4, a5, a6] (.ref x :: S) M := (rn_at k_X1_takeDrawnLeg_9).trans rfl
theorem k_X1_takeDrawnLeg_10 : lk 10 C_X1_takeDrawnLeg = some (.aload_n 1, (0, 0, 0, 0)) := by decide +kernel
theorem s_X1_takeDrawnLeg_10 {ca : Nat → List Value → tM → tO} {M : tM} {a0 a2 a3 a4 a5 a6 : Option Value} {x : Nat} {S : List Value} : rn ca C_X1_takeDrawnLeg 10 [a0, some (.ref x), a2, a3, a4, a5, a6] S M = rn ca C_X1_takeDrawnLeg 11 [a0, some (.ref x), a2, a3, a4, a5, a6] (.ref x :: S) M := (rn_at k_X1_takeDrawnLeg_10).trans rfl
theorem k_X1_takeDrawnLeg_11 : lk 11 C_X1_takeDrawnLeg = some (.getfield 57, (4, 0, 0, 100002)) := by decide +kernel
theorem s_X1_takeDrawnLeg_11 {ca : Nat → List Value → tM → tO} {M : tM} {L : tL} {b : Nat} {S : List Value} : rn ca C_X1_takeDrawnLeg 11 L (.ref b :: S) M = if clsO b = some 4 then rn ca C_X1_takeDrawnLeg 14 L (fv M b 0 :: S) M else none := (rn_at k_X1_takeDrawnLeg_11).trans rnx_ite
theorem k_X1_takeDrawnLeg_14 : lk 14 C_X1_takeDrawnLeg = some (.invokevirtual 53, (34, 1, 4, 1140)) := by decide +kernel
theorem s_X1_takeDrawnLeg_14 {ca : Nat → List Value → tM → tO} {M : tM} {L : tL} {v1 : Value} {b : Nat} : rn ca C_X1_takeDrawnLeg 14 L [v1, .ref b] M = if clsO b = some 4 then rnk ca C_X1_takeDrawnLeg 17 L [] (ca m_X4_draw [.ref b, v1] M) else none := (rn_at k_X1_takeDrawnLeg_14).trans rnx_ite
theorem k_X1_takeDrawnLeg_17 : lk 17 C_X1_takeDrawnLeg = some (.istore 4, (0, 0, 0, 0)) := by decide +kernel
theorem s_X1_takeDrawnLeg_17 {ca : Nat → List Value → tM → tO} {M : tM} {a0 a1 a2 a3 a4 a5 a6 : Option Value} {x : Int32} {S : List Value} : rn ca C_X1_takeDrawnLeg 17 [a0, a1, a2, a3, a4, a5, a6] (.int x :: S) M = rn ca C_X1_takeDrawnLeg 19 [a0, a1, a2, a3, some (.int x), a5, a6] S M := (rn_at k_X1_takeDrawnLeg_17).trans rfl
theorem k_X1_takeDrawnLeg_19 : lk 19 C_X1_takeDrawnLeg = some (.aload_n 1, (0, 0, 0, 0)) := by decide +kernel
theorem s_X1_takeDrawnLeg_19 {ca : Nat → List Value → tM → tO} {M : tM} {a0 a2 a3 a4 a5 a6 : Option Value} {x : Nat} {S : List Value} : rn ca C_X1_takeDrawnLeg 19 [a0, some (.ref x), a2, a3, a4, a5, a6] S M = rn ca C_X1_takeDrawnLeg 20 [a0, some (.ref x), a2, a3, a4, a5, a6] (.ref x :: S) M := (rn_at k_X1_takeDrawnLeg_19).trans rfl
theorem k_X1_takeDrawnLeg_20 : lk 20 C_X1_takeDrawnLeg = some (.iconst 2, (0, 0, 0, 0)) := by decide +kernel
theorem s_X1_takeDrawnLeg_20 {ca : Nat → List Value → tM → tO} {M : tM} {L : tL} {S : List Value} : rn ca C_X1_takeDrawnLeg 20 L S M = rn ca C_X1_takeDrawnLeg 21 L (.int (iI 2) :: S) M := (rn_at k_X1_takeDrawnLeg_20).trans rfl
theorem k_X1_takeDrawnLeg_21 : lk 21 C_X1_takeDrawnLeg = some (.invokevirtual 53, (34, 1, 4, 1140)) := by decide +kernel
theorem s_X1_takeDrawnLeg_21 {ca : Nat → List Value → tM → tO} {M : tM} {L : tL} {v1 : Value} {b : Nat} : rn ca C_X1_takeDrawnLeg 21 L [v1, .ref b] M = if clsO b = some 4 then rnk ca C_X1_takeDrawnLeg 24 L [] (ca m_X4_draw [.ref b, v1] M) else none := (rn_at k_X1_takeDrawnLeg_21).trans rnx_ite
theorem k_X1_takeDrawnLeg_24 : lk 24 C_X1_takeDrawnLeg = some (.iconst 1, (0, 0, 0, 0)) := by decide +kernel
theorem s_X1_takeDrawnLeg_24 {ca : Nat → List Value → tM → tO} {M : tM} {L : tL} {S : List Value} : rn ca C_X1_takeDrawnLeg 24 L S M = rn ca C_X1_takeDrawnLeg 25 L (.int (iI 1) :: S) M := (rn_at k_X1_takeDrawnLeg_24).trans rfl
theorem k_X1_takeDrawnLeg_25 : lk 25 C_X1_takeDrawnLeg = some (.if_icmp .ne 7, (32, 0, 0, 0)) := by decide +kernel
theorem s_X1_takeDrawnLeg_25 {ca : Nat → List Value → tM → tO} {M : tM} {L : tL} {x y : Int32} {S : List Value} : rn ca C_X1_takeDrawnLeg 25 L (.int y :: .int x :: S) M = if ¬ x = y then rn ca C_X1_takeDrawnLeg 32 L S M else rn ca C_X1_takeDrawnLeg 28 L S M := (rn_at k_X1_takeDrawnLeg_25).trans rnx_ite
theorem k_X1_takeDrawnLeg_28 : lk 28 C_X1_takeDrawnLeg = some (.iconst 1, (0, 0, 0, 0)) := by decide +kernel
theorem s_X1_takeDrawnLeg_28 {ca : Nat → List Value → tM → tO} {M : tM} {L : tL} {S : List Value} : rn ca C_X1_takeDrawnLeg 28 L S M = rn ca C_X1_takeDrawnLeg 29 L (.int (iI 1) :: S) M := (rn_at k_X1_takeDrawnLeg_28).trans rfl
theorem k_X1_takeDrawnLeg_29 : lk 29 C_X1_takeDrawnLeg = some (.goto 4, (33, 0, 0, 0)) := by decide +kernel
theorem s_X1_takeDrawnLeg_29 {ca : Nat → List Value → tM → tO} {M : tM} {L : tL} {S : List Value} : rn ca C_X1_takeDrawnLeg 29 L S M = rn ca C_X1_takeDrawnLeg 33 L S M := (rn_at k_X1_takeDrawnLeg_29).trans rfl
theorem k_X1_takeDrawnLeg_32 : lk 32 C_X1_takeDrawnLeg = some (.iconst 0, (0, 0, 0, 0)) := by decide +kernel
theorem s_X1_takeDrawnLeg_32 {ca : Nat → List Value → tM → tO} {M : tM} {L : tL} {S : List Value} : rn ca C_X1_takeDrawnLeg 32 L S M = rn ca C_X1_takeDrawnLeg 33 L (.int (iI 0) :: S) M := (rn_at k_X1_takeDrawnLeg_32).trans rfl
theorem k_X1_takeDrawnLeg_33 : lk 33 C_X1_takeDrawnLeg = some (.istore 5, (0, 0, 0, 0)) := by decide +kernel
theorem s_X1_takeDrawnLeg_33 {ca : Nat → List Value → tM → tO} {M : tM} {a0 a1 a2 a3 a4 a5 a6 : Option Value} {x : Int32} {S : List Value} : rn ca C_X1_takeDrawnLeg 33 [a0, a1, a2, a3, a4, a5, a6] (.int x :: S) M = rn ca C_X1_takeDrawnLeg 35 [a0, a1, a2, a3, a4, some (.int x), a6] S M := (rn_at k_X1_takeDrawnLeg_33).trans rfl
theorem k_X1_takeDrawnLeg_35 : lk 35 C_X1_takeDrawnLeg = some (.aload_n 2, (0, 0, 0, 0)) := by decide +kernel
theorem s_X1_takeDrawnLeg_35 {ca : Nat → List Value → tM → tO} {M : tM} {a0 a1 a3 a4 a5 a6 : Option Value} {x : Nat} {S : List Value} : rn ca C_X1_takeDrawnLeg 35 [a0, a1, some (.ref x), a3, a4, a5, a6] S M = rn ca C_X1_takeDrawnLeg 36 [a0, a1, some (.ref x), a3, a4, a5, a6] (.ref x :: S) M := (rn_at k_X1_takeDrawnLeg_35).trans rfl
theorem k_X1_takeDrawnLeg_36 : lk 36 C_X1_takeDrawnLeg = some (.aload_n 1, (0, 0, 0, 0)) := by decide +kernel
theorem s_X1_takeDrawnLeg_36 {ca : Nat → List Value → tM → tO} {M : tM} {a0 a2 a3 a4 a5 a6 : Option Value} {x : Nat} {S : List Value} : rn ca C_X1_takeDrawnLeg 36 [a0, some (.ref x), a2, a3, a4, a5, a6] S M = rn ca C_X1_takeDrawnLeg 37 [a0, some (.ref x), a2, a3, a4, a5, a6] (.ref x :: S) M := (rn_at k_X1_takeDrawnLeg_36).trans rfl
theorem k_X1_takeDrawnLeg_37 : lk 37 C_X1_takeDrawnLeg = some (.iload_n 3, (0, 0, 0, 0)) := by decide +kernel
theorem s_X1_takeDrawnLeg_37 {ca : Nat → List Value → tM → tO} {M : tM} {a0 a1 a2 a4 a5 a6 : Option Value} {x : Int32} {S : List Value} : rn ca C_X1_takeDrawnLeg 37 [a0, a1, a2, some (.int x), a4, a5, a6] S M = rn ca C_X1_takeDrawnLeg 38 [a0, a1, a2, some (.int x), a4, a5, a6] (.int x :: S) M := (rn_at k_X1_takeDrawnLeg_37).trans rfl
theorem k_X1_takeDrawnLeg_38 : lk 38 C_X1_takeDrawnLeg = some (.iload 4, (0, 0, 0, 0)) := by decide +kernel
theorem s_X1_takeDrawnLeg_38 {ca : Nat → List Value → tM → tO} {M : tM} {a0 a1 a2 a3 a5 a6 : Option Value} {x : Int32} {S : List Value} : rn ca C_X1_takeDrawnLeg 38 [a0, a1, a2, a3, some (.int x), a5, a6] S M = rn ca C_X1_takeDrawnLeg 40 [a0, a1, a2, a3, some (.int x), a5, a6] (.int x :: S) M := (rn_at k_X1_takeDrawnLeg_38).trans rfl
theorem k_X1_takeDrawnLeg_40 : lk 40 C_X1_takeDrawnLeg = some (.aload_n 1, (0, 0, 0, 0)) := by decide +kernel
theorem s_X1_takeDrawnLeg_40 {ca : Nat → List Value → tM → tO} {M : tM} {a0 a2 a3 a4 a5 a6 : Option Value} {x : Nat} {S : List Value} : rn ca C_X1_takeDrawnLeg 40 [a0, some (.ref x), a2, a3, a4, a5, a6] S M = rn ca C_X1_takeDrawnLeg 41 [a0, some (.ref x), a2, a3, a4, a5, a6] (.ref x :: S) M := (rn_at k_X1_takeDrawnLeg_40).trans rfl
theorem k_X1_takeDrawnLeg_41 : lk 41 C_X1_takeDrawnLeg = some (.getfield 37, (4, 13, 0, 100032)) := by decide +kernel
theorem s_X1_takeDrawnLeg_41 {ca : Nat → List Value → tM → tO} {M : tM} {L : tL} {b : Nat} {S : List Value} : rn ca C_X1_takeDrawnLeg 41 L (.ref b :: S) M = if clsO b = some 4 then rn ca C_X1_takeDrawnLeg 44 L (fv M b 13 :: S) M else none := (rn_at k_X1_takeDrawnLeg_41).trans rnx_ite
theorem k_X1_takeDrawnLeg_44 : lk 44 C_X1_takeDrawnLeg = some (.invokevirtual 40, (86, 4, 9, 1075)) := by decide +kernel
theorem s_X1_takeDrawnLeg_44 {ca : Nat → List Value → tM → tO} {M : tM} {L : tL} {v1 v2 v3 v4 : Value} {b : Nat} : rn ca C_X1_takeDrawnLeg 44 L [v4, v3, v2, v1, .ref b] M = if clsO b = some 9 then rnk ca C_X1_takeDrawnLeg 47 L [] (ca m_X9_minutesTo [.ref b, v1, v2, v3, v4] M) else none := (rn_at k_X1_takeDrawnLeg_44).trans rnx_ite
theorem k_X1_takeDrawnLeg_47 : lk 47 C_X1_takeDrawnLeg = some (.istore 6, (0, 0, 0, 0)) := by decide +kernel
theorem s_X1_takeDrawnLeg_47 {ca : Nat → List Value → tM → tO} {M : tM} {a0 a1 a2 a3 a4 a5 a6 : Option Value} {x : Int32} {S : List Value} : rn ca C_X1_takeDrawnLeg 47 [a0, a1, a2, a3, a4, a5, a6] (.int x :: S) M = rn ca C_X1_takeDrawnLeg 49 [a0, a1, a2, a3, a4, a5, some (.int x)] S M := (rn_at k_X1_takeDrawnLeg_47).trans rfl
theorem k_X1_takeDrawnLeg_49 : lk 49 C_X1_takeDrawnLeg = some (.iload 6, (0, 0, 0, 0)) := by decide +kernel
theorem s_X1_takeDrawnLeg_49 {ca : Nat → List Value → tM → tO} {M : tM} {a0 a1 a2 a3 a4 a5 : Option Value} {x : Int32} {S : List Value} : rn ca C_X1_takeDrawnLeg 49 [a0, a1, a2, a3, a4, a5, some (.int x)] S M = rn ca C_X1_takeDrawnLeg 51 [a0, a1, a2, a3, a4, a5, some (.int x)] (.int x :: S) M := (rn_at k_X1_takeDrawnLeg_49).trans rfl
theorem k_X1_takeDrawnLeg_51 : lk 51 C_X1_takeDrawnLeg = some (.iconst (-1), (0, 0, 0, 0)) := by decide +kernel
theorem s_X1_takeDrawnLeg_51 {ca : Nat → List Value → tM → tO} {M : tM} {L : tL} {S : List Value} : rn ca C_X1_takeDrawnLeg 51 L S M = rn ca C_X1_takeDrawnLeg 52 L (.int (iI (-1)) :: S) M := (rn_at k_X1_takeDrawnLeg_51).trans rfl
theorem k_X1_takeDrawnLeg_52 : lk 52 C_X1_takeDrawnLeg = some (.if_icmp .eq 14, (66, 0, 0, 0)) := by decide +kernel
theorem s_X1_takeDrawnLeg_52 {ca : Nat → List Value → tM → tO} {M : tM} {L : tL} {x y : Int32} {S : List Value} : rn ca C_X1_takeDrawnLeg 52 L (.int y :: .int x :: S) M = if x = y then rn ca C_X1_takeDrawnLeg 66 L S M else rn ca C_X1_takeDrawnLeg 55 L S M := (rn_at k_X1_takeDrawnLeg_52).trans rnx_ite
theorem k_X1_takeDrawnLeg_55 : lk 55 C_X1_takeDrawnLeg = some (.aload_n 1, (0, 0, 0, 0)) := by decide +kernel
theorem s_X1_takeDrawnLeg_55 {ca : Nat → List Value → tM → tO} {M : tM} {a0 a2 a3 a4 a5 a6 : Option Value} {x : Nat} {S : List Value} : rn ca C_X1_takeDrawnLeg 55 [a0, some (.ref x), a2, a3, a4, a5, a6] S M = rn ca C_X1_takeDrawnLeg 56 [a0, some (.ref x), a2, a3, a4, a5, a6] (.ref x :: S) M := (rn_at k_X1_takeDrawnLeg_55).trans rfl
theorem k_X1_takeDrawnLeg_56 : lk 56 C_X1_takeDrawnLeg = some (.iload_n 3, (0, 0, 0, 0)) := by decide +kernel
theorem s_X1_takeDrawnLeg_56 {ca : Nat → List Value → tM → tO} {M : tM} {a0 a1 a2 a4 a5 a6 : Option Value} {x : Int32} {S : List Value} : rn ca C_X1_takeDrawnLeg 56 [a0, a1, a2, some (.int x), a4, a5, a6] S M = rn ca C_X1_takeDrawnLeg 57 [a0, a1, a2, some (.int x), a4, a5, a6] (.int x :: S) M := (rn_at k_X1_takeDrawnLeg_56).trans rfl
theorem k_X1_takeDrawnLeg_57 : lk 57 C_X1_takeDrawnLeg = some (.iload 4, (0, 0, 0, 0)) := by decide +kernel
theorem s_X1_takeDrawnLeg_57 {ca : Nat → List Value → tM → tO} {M : tM} {a0 a1 a2 a3 a5 a6 : Option Value} {x : Int32} {S : List Value} : rn ca C_X1_takeDrawnLeg 57 [a0, a1, a2, a3, some (.int x), a5, a6] S M = rn ca C_X1_takeDrawnLeg 59 [a0, a1, a2, a3, some (.int x), a5, a6] (.int x :: S) M := (rn_at k_X1_takeDrawnLeg_57).trans rfl
theorem k_X1_takeDrawnLeg_59 : lk 59 C_X1_takeDrawnLeg = some (.iload 6, (0, 0, 0, 0)) := by decide +kernel
theorem s_X1_takeDrawnLeg_59 {ca : Nat → List Value → tM → tO} {M : tM} {a0 a1 a2 a3 a4 a5 : Option Value} {x : Int32} {S : List Value} : rn ca C_X1_takeDrawnLeg 59 [a0, a1, a2, a3, a4, a5, some (.int x)] S M = rn ca C_X1_takeDrawnLeg 61 [a0, a1, a2, a3, a4, a5, some (.int x)] (.int x :: S) M := (rn_at k_X1_takeDrawnLeg_59).trans rfl
theorem k_X1_takeDrawnLeg_61 : lk 61 C_X1_takeDrawnLeg = some (.iload 5, (0, 0, 0, 0)) := by decide +kernel
theorem s_X1_takeDrawnLeg_61 {ca : Nat → List Value → tM → tO} {M : tM} {a0 a1 a2 a3 a4 a6 : Option Value} {x : Int32} {S : List Value} : rn ca C_X1_takeDrawnLeg 61 [a0, a1, a2, a3, a4, some (.int x), a6] S M = rn ca C_X1_takeDrawnLeg 63 [a0, a1, a2, a3, a4, some (.int x), a6] (.int x :: S) M := (rn_at k_X1_takeDrawnLeg_61).trans rfl
theorem k_X1_takeDrawnLeg_63 : lk 63 C_X1_takeDrawnLeg = some (.invokevirtual 46, (33, 4, 4, 1076)) := by decide +kernel
theorem s_X1_takeDrawnLeg_63 {ca : Nat → List Value → tM → tO} {M : tM} {L : tL} {v1 v2 v3 v4 : Value} {b : Nat} : rn ca C_X1_takeDrawnLeg 63 L [v4, v3, v2, v1, .ref b] M = if clsO b = some 4 then rnk ca C_X1_takeDrawnLeg 66 L [] (ca m_X4_goTo [.ref b, v1, v2, v3, v4] M) else none := (rn_at k_X1_takeDrawnLeg_63).trans rnx_ite
theorem k_X1_takeDrawnLeg_66 : lk 66 C_X1_takeDrawnLeg = some (.return_, (0, 0, 0, 0)) := by decide +kernel
theorem s_X1_takeDrawnLeg_66 {ca : Nat → List Value → tM → tO} {M : tM} {L : tL} : rn ca C_X1_takeDrawnLeg 66 L [] M = some (none, M) := (rn_at k_X1_takeDrawnLeg_66).trans rfl
theorem k_X2_joinAll_0 : lk 0 C_X2_joinAll = some (.aload_n 0, (0, 0, 0, 0)) := by decide +kernel
theorem s_X2_joinAll_0 {ca : Nat → List Value → tM → tO} {M : tM} {a1 a2 a3 a4 : Option Value} {x : Nat} {S : List Value} : rn ca C_X2_joinAll 0 [some (.ref x), a1, a2, a3, a4] S M = rn ca C_X2_joinAll 1 [some (.ref x), a1, a2, a3, a4] (.ref x :: S) M := (rn_at k_X2_joinAll_0).trans rfl
theorem k_X2_joinAll_1 : lk 1 C_X2_joinAll = some (.iconst 0, (0, 0, 0, 0)) := by decide +kernel
theorem s_X2_joinAll_1 {ca : Nat → List Value → tM → tO} {M : tM} {L : tL} {S : List Value} : rn ca C_X2_joinAll 1 L S M = rn ca C_X2_joinAll 2 L (.int (iI 0) :: S) M := (rn_at k_X2_joinAll_1).trans rfl
theorem k_X2_joinAll_2 : lk 2 C_X2_joinAll = some (.putfield 15, (2, 1, 0, 118)) := by decide +kernel
theorem s_X2_joinAll_2 {ca : Nat → List Value → tM → tO} {M : tM} {L : tL} {b : Nat} {v : Int32} {S : List Value} : rn ca C_X2_joinAll 2 L (.int v :: .ref b :: S) M = if clsO b = some 2 then rn ca C_X2_joinAll 5 L S (sI M b 1 v) else none := (rn_at k_X2_joinAll_2).trans rnx_ite
theorem k_X2_joinAll_5 : lk 5 C_X2_joinAll = some (.aload_n 0, (0, 0, 0, 0)) := by decide +kernel
theorem s_X2_joinAll_5 {ca : Nat → List Value → tM → tO} {M : tM} {a1 a2 a3 a4 : Option Value} {x : Nat} {S : List Value} : rn ca C_X2_joinAll 5 [some (.ref x), a1, a2, a3, a4] S M = rn ca C_X2_joinAll 6 [some (.ref x), a1, a2, a3, a4] (.ref x :: S) M := (rn_at k_X2_joinAll_5).trans rfl
theorem k_X2_joinAll_6 : lk 6 C_X2_joinAll = some (.iconst 0, (0, 0, 0, 0)) := by decide +kernel
theorem s_X2_joinAll_6 {ca : Nat → List Value → tM → tO} {M : tM} {L : tL} {S : List Value} : rn ca C_X2_joinAll 6 L S M = rn ca C_X2_joinAll 7 L (.int (iI 0) :: S) M := (rn_at k_X2_joinAll_6).trans rfl
theorem k_X2_joinAll_7 : lk 7 C_X2_joinAll = some (.putfield 19, (2, 2, 0, 119)) := by decide +kernel
theorem s_X2_joinAll_7 {ca : Nat → List Value → tM → tO} {M : tM} {L : tL} {b : Nat} {v : Int32} {S : List Value} : rn ca C_X2_joinAll 7 L (.int v :: .ref b :: S) M = if clsO b = some 2 then rn ca C_X2_joinAll 10 L S (sI M b 2 v) else none := (rn_at k_X2_joinAll_7).trans rnx_ite
theorem k_X2_joinAll_10 : lk 10 C_X2_joinAll = some (.aload_n 1, (0, 0, 0, 0)) := by decide +kernel
theorem s_X2_joinAll_10 {ca : Nat → List Value → tM → tO} {M : tM} {a0 a2 a3 a4 : Option Value} {x : Nat} {S : List Value} : rn ca C_X2_joinAll 10 [a0, some (.ref x), a2, a3, a4] S M = rn ca C_X2_joinAll 11 [a0, some (.ref x), a2, a3, a4] (.ref x :: S) M := (rn_at k_X2_joinAll_10).trans rfl
theorem k_X2_joinAll_11 : lk 11 C_X2_joinAll = some (.getfield 22, (4, 0, 0, 100000)) := by decide +kernel
theorem s_X2_joinAll_11 {ca : Nat → List Value → tM → tO} {M : tM} {L : tL} {b : Nat} {S : List Value} : rn ca C_X2_joinAll 11 L (.ref b :: S) M = if clsO b = some 4 then rn ca C_X2_joinAll 14 L (fv M b 0 :: S) M else none := (rn_at k_X2_joinAll_11).trans rnx_ite
theorem k_X2_joinAll_14 : lk 14 C_X2_joinAll = some (.istore_n 2, (0, 0, 0, 0)) := by decide +kernel
theorem s_X2_joinAll_14 {ca : Nat → List Value → tM → tO} {M : tM} {a0 a1 a2 a3 a4 : Option Value} {x : Int32} {S : List Value} : rn ca C_X2_joinAll 14 [a0, a1, a2, a3, a4] (.int x :: S) M = rn ca C_X2_joinAll 15 [a0, a1, some (.int x), a3, a4] S M := (rn_at k_X2_joinAll_14).trans rfl
theorem k_X2_joinAll_15 : lk 15 C_X2_joinAll = some (.iconst 0, (0, 0, 0, 0)) := by decide +kernel
theorem s_X2_joinAll_15 {ca : Nat → List Value → tM → tO} {M : tM} {L : tL} {S : List Value} : rn ca C_X2_joinAll 15 L S M = rn ca C_X2_joinAll 16 L (.int (iI 0) :: S) M := (rn_at k_X2_joinAll_15).trans rfl
theorem k_X2_joinAll_16 : lk 16 C_X2_joinAll = some (.istore_n 3, (0, 0, 0, 0)) := by decide +kernel
theorem s_X2_joinAll_16 {ca : Nat → List Value → tM → tO} {M : tM} {a0 a1 a2 a3 a4 : Option Value} {x : Int32} {S : List Value} : rn ca C_X2_joinAll 16 [a0, a1, a2, a3, a4] (.int x :: S) M = rn ca C_X2_joinAll 17 [a0, a1, a2, some (.int x), a4] S M := (rn_at k_X2_joinAll_16).trans rfl
theorem k_X2_joinAll_17 : lk 17 C_X2_joinAll = some (.iload_n 3, (0, 0, 0, 0)) := by decide +kernel
theorem s_X2_joinAll_17 {ca : Nat → List Value → tM → tO} {M : tM} {a0 a1 a2 a4 : Option Value} {x : Int32} {S : List Value} : rn ca C_X2_joinAll 17 [a0, a1, a2, some (.int x), a4] S M = rn ca C_X2_joinAll 18 [a0, a1, a2, some (.int x), a4] (.int x :: S) M := (rn_at k_X2_joinAll_17).trans rfl
theorem k_X2_joinAll_18 : lk 18 C_X2_joinAll = some (.bipush 8, (0, 0, 0, 0)) := by decide +kernel
theorem s_X2_joinAll_18 {ca : Nat → List Value → tM → tO} {M : tM} {L : tL} {S : List Value} : rn ca C_X2_joinAll 18 L S M = rn ca C_X2_joinAll 20 L (.int (iI 8) :: S) M := (rn_at k_X2_joinAll_18).trans rfl
theorem k_X2_joinAll_20 : lk 20 C_X2_joinAll = some (.if_icmp .ge 16, (36, 0, 0, 0)) := by decide +kernel
theorem s_X2_joinAll_20 {ca : Nat → List Value → tM → tO} {M : tM} {L : tL} {x y : Int32} {S : List Value} : rn ca C_X2_joinAll 20 L (.int y :: .int x :: S) M = if y ≤ x then rn ca C_X2_joinAll 36 L S M else rn ca C_X2_joinAll 23 L S M := (rn_at k_X2_joinAll_20).trans rnx_ite
theorem k_X2_joinAll_23 : lk 23 C_X2_joinAll = some (.aload_n 0, (0, 0, 0, 0)) := by decide +kernel
theorem s_X2_joinAll_23 {ca : Nat → List Value → tM → tO} {M : tM} {a1 a2 a3 a4 : Option Value} {x : Nat} {S : List Value} : rn ca C_X2_joinAll 23 [some (.ref x), a1, a2, a3, a4] S M = rn ca C_X2_joinAll 24 [some (.ref x), a1, a2, a3, a4] (.ref x :: S) M := (rn_at k_X2_joinAll_23).trans rfl
theorem k_X2_joinAll_24 : lk 24 C_X2_joinAll = some (.getfield 9, (2, 0, 0, 117)) := by decide +kernel
theorem s_X2_joinAll_24 {ca : Nat → List Value → tM → tO} {M : tM} {L : tL} {b : Nat} {S : List Value} : rn ca C_X2_joinAll 24 L (.ref b :: S) M = if clsO b = some 2 then rn ca C_X2_joinAll 27 L (fv M b 0 :: S) M else none := (rn_at k_X2_joinAll_24).trans rnx_ite
theorem k_X2_joinAll_27 : lk 27 C_X2_joinAll = some (.iload_n 3, (0, 0, 0, 0)) := by decide +kernel
theorem s_X2_joinAll_27 {ca : Nat → List Value → tM → tO} {M : tM} {a0 a1 a2 a4 : Option Value} {x : Int32} {S : List Value} : rn ca C_X2_joinAll 27 [a0, a1, a2, some (.int x), a4] S M = rn ca C_X2_joinAll 28 [a0, a1, a2, some (.int x), a4] (.int x :: S) M := (rn_at k_X2_joinAll_27).trans rfl
theorem k_X2_joinAll_28 : lk 28 C_X2_joinAll = some (.iload_n 3, (0, 0, 0, 0)) := by decide +kernel
theorem s_X2_joinAll_28 {ca : Nat → List Value → tM → tO} {M : tM} {a0 a1 a2 a4 : Option Value} {x : Int32} {S : List Value} : rn ca C_X2_joinAll 28 [a0, a1, a2, some (.int x), a4] S M = rn ca C_X2_joinAll 29 [a0, a1, a2, some (.int x), a4] (.int x :: S) M := (rn_at k_X2_joinAll_28).trans rfl
theorem k_X2_joinAll_29 : lk 29 C_X2_joinAll = some (.iastore, (0, 0, 0, 0)) := by decide +kernel
theorem s_X2_joinAll_29 {ca : Nat → List Value → tM → tO} {M : tM} {L : tL} {a : Nat} {i x : Int32} {S : List Value} : rn ca C_X2_joinAll 29 L (.int x :: .int i :: .ref a :: S) M = if akind a = 0 ∧ inb i (alen M a) then rn ca C_X2_joinAll 30 L S (sI M a i.toInt.toNat x) else none := (rn_at k_X2_joinAll_29).trans rnx_ite
theorem k_X2_joinAll_30 : lk 30 C_X2_joinAll = some (.iinc 3 1, (0, 0, 0, 0)) := by decide +kernel
theorem s_X2_joinAll_30 {ca : Nat → List Value → tM → tO} {M : tM} {a0 a1 a2 a4 : Option Value} {x : Int32} {S : List Value} : rn ca C_X2_joinAll 30 [a0, a1, a2, some (.int x), a4] S M = rn ca C_X2_joinAll 33 [a0, a1, a2, some (.int (x + iI 1)), a4] S M := (rn_at k_X2_joinAll_30).trans rfl
theorem k_X2_joinAll_33 : lk 33 C_X2_joinAll = some (.goto (-16), (17, 0, 0, 0)) := by decide +kernel
theorem s_X2_joinAll_33 {ca : Nat → List Value → tM → tO} {M : tM} {L : tL} {S : List Value} : rn ca C_X2_joinAll 33 L S M = rn ca C_X2_joinAll 17 L S M := (rn_at k_X2_joinAll_33).trans rfl
theorem k_X2_joinAll_36 : lk 36 C_X2_joinAll = some (.iconst 1, (0, 0, 0, 0)) := by decide +kernel
theorem s_X2_joinAll_36 {ca : Nat → List Value → tM → tO} {M : tM} {L : tL} {S : List Value} : rn ca C_X2_joinAll 36 L S M = rn ca C_X2_joinAll 37 L (.int (iI 1) :: S) M := (rn_at k_X2_joinAll_36).trans rfl
theorem k_X2_joinAll_37 : lk 37 C_X2_joinAll = some (.istore_n 3, (0, 0, 0, 0)) := by decide +kernel
theorem s_X2_joinAll_37 {ca : Nat → List Value → tM → tO} {M : tM} {a0 a1 a2 a3 a4 : Option Value} {x : Int32} {S : List Value} : rn ca C_X2_joinAll 37 [a0, a1, a2, a3, a4] (.int x :: S) M = rn ca C_X2_joinAll 38 [a0, a1, a2, some (.int x), a4] S M := (rn_at k_X2_joinAll_37).trans rfl
theorem k_X2_joinAll_38 : lk 38 C_X2_joinAll = some (.iload_n 3, (0, 0, 0, 0)) := by decide +kernel
theorem s_X2_joinAll_38 {ca : Nat → List Value → tM → tO} {M : tM} {a0 a1 a2 a4 : Option Value} {x : Int32} {S : List Value} : rn ca C_X2_joinAll 38 [a0, a1, a2, some (.int x), a4] S M = rn ca C_X2_joinAll 39 [a0, a1, a2, some (.int x), a4] (.int x :: S) M := (rn_at k_X2_joinAll_38).trans rfl
theorem k_X2_joinAll_39 : lk 39 C_X2_joinAll = some (.bipush 9, (0, 0, 0, 0)) := by decide +kernel
theorem s_X2_joinAll_39 {ca : Nat → List Value → tM → tO} {M : tM} {L : tL} {S : List Value} : rn ca C_X2_joinAll 39 L S M = rn ca C_X2_joinAll 41 L (.int (iI 9) :: S) M := (rn_at k_X2_joinAll_39).trans rfl
theorem k_X2_joinAll_41 : lk 41 C_X2_joinAll = some (.if_icmp .gt 92, (133, 0, 0, 0)) := by decide +kernel
theorem s_X2_joinAll_41 {ca : Nat → List Value → tM → tO} {M : tM} {L : tL} {x y : Int32} {S : List Value} : rn ca C_X2_joinAll 41 L (.int y :: .int x :: S) M = if y < x then rn ca C_X2_joinAll 133 L S M else rn ca C_X2_joinAll 44 L S M := (rn_at k_X2_joinAll_41).trans rnx_ite
theorem k_X2_joinAll_44 : lk 44 C_X2_joinAll = some (.iconst 0, (0, 0, 0, 0)) := by decide +kernel
theorem s_X2_joinAll_44 {ca : Nat → List Value → tM → tO} {M : tM} {L : tL} {S : List Value} : rn ca C_X2_joinAll 44 L S M = rn ca C_X2_joinAll 45 L (.int (iI 0) :: S) M := (rn_at k_X2_joinAll_44).trans rfl
theorem k_X2_joinAll_45 : lk 45 C_X2_joinAll = some (.istore 4, (0, 0, 0, 0)) := by decide +kernel
theorem s_X2_joinAll_45 {ca : Nat → List Value → tM → tO} {M : tM} {a0 a1 a2 a3 a4 : Option Value} {x : Int32} {S : List Value} : rn ca C_X2_joinAll 45 [a0, a1, a2, a3, a4] (.int x :: S) M = rn ca C_X2_joinAll 47 [a0, a1, a2, a3, some (.int x)] S M := (rn_at k_X2_joinAll_45).trans rfl
theorem k_X2_joinAll_47 : lk 47 C_X2_joinAll = some (.iload 4, (0, 0, 0, 0)) := by decide +kernel
theorem s_X2_joinAll_47 {ca : Nat → List Value → tM → tO} {M : tM} {a0 a1 a2 a3 : Option Value} {x : Int32} {S : List Value} : rn ca C_X2_joinAll 47 [a0, a1, a2, a3, some (.int x)] S M = rn ca C_X2_joinAll 49 [a0, a1, a2, a3, some (.int x)] (.int x :: S) M := (rn_at k_X2_joinAll_47).trans rfl
theorem k_X2_joinAll_49 : lk 49 C_X2_joinAll = some (.aload_n 1, (0, 0, 0, 0)) := by decide +kernel
theorem s_X2_joinAll_49 {ca : Nat → List Value → tM → tO} {M : tM} {a0 a2 a3 a4 : Option Value} {x : Nat} {S : List Value} : rn ca C_X2_joinAll 49 [a0, some (.ref x), a2, a3, a4] S M = rn ca C_X2_joinAll 50 [a0, some (.ref x), a2, a3, a4] (.ref x :: S) M := (rn_at k_X2_joinAll_49).trans rfl
theorem k_X2_joinAll_50 : lk 50 C_X2_joinAll = some (.getfield 27, (4, 2, 0, 100008)) := by decide +kernel
theorem s_X2_joinAll_50 {ca : Nat → List Value → tM → tO} {M : tM} {L : tL} {b : Nat} {S : List Value} : rn ca C_X2_joinAll 50 L (.ref b :: S) M = if clsO b = some 4 then rn ca C_X2_joinAll 53 L (fv M b 2 :: S) M else none := (rn_at k_X2_joinAll_50).trans rnx_ite
theorem k_X2_joinAll_53 : lk 53 C_X2_joinAll = some (.if_icmp .ge 74, (127, 0, 0, 0)) := by decide +kernel
theorem s_X2_joinAll_53 {ca : Nat → List Value → tM → tO} {M : tM} {L : tL} {x y : Int32} {S : List Value} : rn ca C_X2_joinAll 53 L (.int y :: .int x :: S) M = if y ≤ x then rn ca C_X2_joinAll 127 L S M else rn ca C_X2_joinAll 56 L S M := (rn_at k_X2_joinAll_53).trans rnx_ite
theorem k_X2_joinAll_56 : lk 56 C_X2_joinAll = some (.iload 4, (0, 0, 0, 0)) := by decide +kernel
theorem s_X2_joinAll_56 {ca : Nat → List Value → tM → tO} {M : tM} {a0 a1 a2 a3 : Option Value} {x : Int32} {S : List Value} : rn ca C_X2_joinAll 56 [a0, a1, a2, a3, some (.int x)] S M = rn ca C_X2_joinAll 58 [a0, a1, a2, a3, some (.int x)] (.int x :: S) M := (rn_at k_X2_joinAll_56).trans rfl
theorem k_X2_joinAll_58 : lk 58 C_X2_joinAll = some (.bipush 16, (0, 0, 0, 0)) := by decide +kernel
theorem s_X2_joinAll_58 {ca : Nat → List Value → tM → tO} {M : tM} {L : tL} {S : List Value} : rn ca C_X2_joinAll 58 L S M = rn ca C_X2_joinAll 60 L (.int (iI 16) :: S) M := (rn_at k_X2_joinAll_58).trans rfl
theorem k_X2_joinAll_60 : lk 60 C_X2_joinAll = some (.if_icmp .ge 67, (127, 0, 0, 0)) := by decide +kernel
theorem s_X2_joinAll_60 {ca : Nat → List Value → tM → tO} {M : tM} {L : tL} {x y : Int32} {S : List Value} : rn ca C_X2_joinAll 60 L (.int y :: .int x :: S) M = if y ≤ x then rn ca C_X2_joinAll 127 L S M else rn ca C_X2_joinAll 63 L S M := (rn_at k_X2_joinAll_60).trans rnx_ite
theorem k_X2_joinAll_63 : lk 63 C_X2_joinAll = some (.aload_n 1, (0, 0, 0, 0)) := by decide +kernel
theorem s_X2_joinAll_63 {ca : Nat → List Value → tM → tO} {M : tM} {a0 a2 a3 a4 : Option Value} {x : Nat} {S : List Value} : rn ca C_X2_joinAll 63 [a0, some (.ref x), a2, a3, a4] S M = rn ca C_X2_joinAll 64 [a0, some (.ref x), a2, a3, a4] (.ref x :: S) M := (rn_at k_X2_joinAll_63).trans rfl
theorem k_X2_joinAll_64 : lk 64 C_X2_joinAll = some (.getfield 30, (4, 5, 0, 100021)) := by decide +kernel
theorem s_X2_joinAll_64 {ca : Nat → List Value → tM → tO} {M : tM} {L : tL} {b : Nat} {S : List Value} : rn ca C_X2_joinAll 64 L (.ref b :: S) M = if clsO b = some 4 then rn ca C_X2_joinAll 67 L (fv M b 5 :: S) M else none := (rn_at k_X2_joinAll_64).trans rnx_ite
theorem k_X2_joinAll_67 : lk 67 C_X2_joinAll = some (.iload 4, (0, 0, 0, 0)) := by decide +kernel
theorem s_X2_joinAll_67 {ca : Nat → List Value → tM → tO} {M : tM} {a0 a1 a2 a3 : Option Value} {x : Int32} {S : List Value} : rn ca C_X2_joinAll 67 [a0, a1, a2, a3, some (.int x)] S M = rn ca C_X2_joinAll 69 [a0, a1, a2, a3, some (.int x)] (.int x :: S) M := (rn_at k_X2_joinAll_67).trans rfl
theorem k_X2_joinAll_69 : lk 69 C_X2_joinAll = some (.iaload, (0, 0, 0, 0)) := by decide +kernel
theorem s_X2_joinAll_69 {ca : Nat → List Value → tM → tO} {M : tM} {L : tL} {a : Nat} {i : Int32} {S : List Value} : rn ca C_X2_joinAll 69 L (.int i :: .ref a :: S) M = if (akind a = 0 ∨ akind a = 6 ∨ akind a = 7) ∧ inb i (alen M a) then rn ca C_X2_joinAll 70 L (.int (M.1 a i.toInt.toNat) :: S) M else none := (rn_at k_X2_joinAll_69).trans rnx_ite
theorem k_X2_joinAll_70 : lk 70 C_X2_joinAll = some (.iload_n 3, (0, 0, 0, 0)) := by decide +kernel
theorem s_X2_joinAll_70 {ca : Nat → List Value → tM → tO} {M : tM} {a0 a1 a2 a4 : Option Value} {x : Int32} {S : List Value} : rn ca C_X2_joinAll 70 [a0, a1, a2, some (.int x), a4] S M = rn ca C_X2_joinAll 71 [a0, a1, a2, some (.int x), a4] (.int x :: S) M := (rn_at k_X2_joinAll_70).trans rfl
theorem k_X2_joinAll_71 : lk 71 C_X2_joinAll = some (.if_icmp .ne 50, (121, 0, 0, 0)) := by decide +kernel
theorem s_X2_joinAll_71 {ca : Nat → List Value → tM → tO} {M : tM} {L : tL} {x y : Int32} {S : List Value} : rn ca C_X2_joinAll 71 L (.int y :: .int x :: S) M = if ¬ x = y then rn ca C_X2_joinAll 121 L S M else rn ca C_X2_joinAll 74 L S M := (rn_at k_X2_joinAll_71).trans rnx_ite
theorem k_X2_joinAll_74 : lk 74 C_X2_joinAll = some (.aload_n 0, (0, 0, 0, 0)) := by decide +kernel
theorem s_X2_joinAll_74 {ca : Nat → List Value → tM → tO} {M : tM} {a1 a2 a3 a4 : Option Value} {x : Nat} {S : List Value} : rn ca C_X2_joinAll 74 [some (.ref x), a1, a2, a3, a4] S M = rn ca C_X2_joinAll 75 [some (.ref x), a1, a2, a3, a4] (.ref x :: S) M := (rn_at k_X2_joinAll_74).trans rfl
theorem k_X2_joinAll_75 : lk 75 C_X2_joinAll = some (.aload_n 1, (0, 0, 0, 0)) := by decide +kernel
theorem s_X2_joinAll_75 {ca : Nat → List Value → tM → tO} {M : tM} {a0 a2 a3 a4 : Option Value} {x : Nat} {S : List Value} : rn ca C_X2_joinAll 75 [a0, some (.ref x), a2, a3, a4] S M = rn ca C_X2_joinAll 76 [a0, some (.ref x), a2, a3, a4] (.ref x :: S) M := (rn_at k_X2_joinAll_75).trans rfl
theorem k_X2_joinAll_76 : lk 76 C_X2_joinAll = some (.getfield 33, (4, 3, 0, 100012)) := by decide +kernel
theorem s_X2_joinAll_76 {ca : Nat → List Value → tM → tO} {M : tM} {L : tL} {b : Nat} {S : List Value} : rn ca C_X2_joinAll 76 L (.ref b :: S) M = if clsO b = some 4 then rn ca C_X2_joinAll 79 L (fv M b 3 :: S) M else none := (rn_at k_X2_joinAll_76).trans rnx_ite
theorem k_X2_joinAll_79 : lk 79 C_X2_joinAll = some (.iload 4, (0, 0, 0, 0)) := by decide +kernel
theorem s_X2_joinAll_79 {ca : Nat → List Value → tM → tO} {M : tM} {a0 a1 a2 a3 : Option Value} {x : Int32} {S : List Value} : rn ca C_X2_joinAll 79 [a0, a1, a2, a3, some (.int x)] S M = rn ca C_X2_joinAll 81 [a0, a1, a2, a3, some (.int x)] (.int x :: S) M := (rn_at k_X2_joinAll_79).trans rfl
theorem k_X2_joinAll_81 : lk 81 C_X2_joinAll = some (.iaload, (0, 0, 0, 0)) := by decide +kernel
theorem s_X2_joinAll_81 {ca : Nat → List Value → tM → tO} {M : tM} {L : tL} {a : Nat} {i : Int32} {S : List Value} : rn ca C_X2_joinAll 81 L (.int i :: .ref a :: S) M = if (akind a = 0 ∨ akind a = 6 ∨ akind a = 7) ∧ inb i (alen M a) then rn ca C_X2_joinAll 82 L (.int (M.1 a i.toInt.toNat) :: S) M else none := (rn_at k_X2_joinAll_81).trans rnx_ite
theorem k_X2_joinAll_82 : lk 82 C_X2_joinAll = some (.aload_n 1, (0, 0, 0, 0)) := by decide +kernel
theorem s_X2_joinAll_82 {ca : Nat → List Value → tM → tO} {M : tM} {a0 a2 a3 a4 : Option Value} {x : Nat} {S : List Value} : rn ca C_X2_joinAll 82 [a0, some (.ref x), a2, a3, a4] S M = rn ca C_X2_joinAll 83 [a0, some (.ref x), a2, a3, a4] (.ref x :: S) M := (rn_at k_X2_joinAll_82).trans rfl
theorem k_X2_joinAll_83 : lk 83 C_X2_joinAll = some (.getfield 36, (4, 4, 0, 100017)) := by decide +kernel
theorem s_X2_joinAll_83 {ca : Nat → List Value → tM → tO} {M : tM} {L : tL} {b : Nat} {S : List Value} : rn ca C_X2_joinAll 83 L (.ref b :: S) M = if clsO b = some 4 then rn ca C_X2_joinAll 86 L (fv M b 4 :: S) M else none := (rn_at k_X2_joinAll_83).trans rnx_ite
theorem k_X2_joinAll_86 : lk 86 C_X2_joinAll = some (.iload 4, (0, 0, 0, 0)) := by decide +kernel
theorem s_X2_joinAll_86 {ca : Nat → List Value → tM → tO} {M : tM} {a0 a1 a2 a3 : Option Value} {x : Int32} {S : List Value} : rn ca C_X2_joinAll 86 [a0, a1, a2, a3, some (.int x)] S M = rn ca C_X2_joinAll 88 [a0, a1, a2, a3, some (.int x)] (.int x :: S) M := (rn_at k_X2_joinAll_86).trans rfl
theorem k_X2_joinAll_88 : lk 88 C_X2_joinAll = some (.iaload, (0, 0, 0, 0)) := by decide +kernel
theorem s_X2_joinAll_88 {ca : Nat → List Value → tM → tO} {M : tM} {L : tL} {a : Nat} {i : Int32} {S : List Value} : rn ca C_X2_joinAll 88 L (.int i :: .ref a :: S) M = if (akind a = 0 ∨ akind a = 6 ∨ akind a = 7) ∧ inb i (alen M a) then rn ca C_X2_joinAll 89 L (.int (M.1 a i.toInt.toNat) :: S) M else none := (rn_at k_X2_joinAll_88).trans rnx_ite
theorem k_X2_joinAll_89 : lk 89 C_X2_joinAll = some (.invokevirtual 39, (10, 2, 2, 1036)) := by decide +kernel
theorem s_X2_joinAll_89 {ca : Nat → List Value → tM → tO} {M : tM} {L : tL} {v1 v2 : Value} {b : Nat} : rn ca C_X2_joinAll 89 L [v2, v1, .ref b] M = if clsO b = some 2 then rnk ca C_X2_joinAll 92 L [] (ca m_X2_joins [.ref b, v1, v2] M) else none := (rn_at k_X2_joinAll_89).trans rnx_ite
theorem k_X2_joinAll_92 : lk 92 C_X2_joinAll = some (.ifCond .eq 29, (121, 0, 0, 0)) := by decide +kernel
theorem s_X2_joinAll_92 {ca : Nat → List Value → tM → tO} {M : tM} {L : tL} {x : Int32} {S : List Value} : rn ca C_X2_joinAll 92 L (.int x :: S) M = if x = iI 0 then rn ca C_X2_joinAll 121 L S M else rn ca C_X2_joinAll 95 L S M := (rn_at k_X2_joinAll_92).trans rnx_ite
theorem k_X2_joinAll_95 : lk 95 C_X2_joinAll = some (.aload_n 0, (0, 0, 0, 0)) := by decide +kernel
theorem s_X2_joinAll_95 {ca : Nat → List Value → tM → tO} {M : tM} {a1 a2 a3 a4 : Option Value} {x : Nat} {S : List Value} : rn ca C_X2_joinAll 95 [some (.ref x), a1, a2, a3, a4] S M = rn ca C_X2_joinAll 96 [some (.ref x), a1, a2, a3, a4] (.ref x :: S) M := (rn_at k_X2_joinAll_95).trans rfl
theorem k_X2_joinAll_96 : lk 96 C_X2_joinAll = some (.dup, (0, 0, 0, 0)) := by decide +kernel
theorem s_X2_joinAll_96 {ca : Nat → List Value → tM → tO} {M : tM} {L : tL} {x : Nat} {S : List Value} : rn ca C_X2_joinAll 96 L (.ref x :: S) M = rn ca C_X2_joinAll 97 L (.ref x :: .ref x :: S) M := (rn_at k_X2_joinAll_96).trans rfl
theorem s_X2_joinAll_96b {ca : Nat → List Value → tM → tO} {M : tM} {L : tL} {x : Int32} {S : List Value} : rn ca C_X2_joinAll 96 L (.int x :: S) M = rn ca C_X2_joinAll 97 L (.int x :: .int x :: S) M := (rn_at k_X2_joinAll_96).trans rfl
theorem k_X2_joinAll_97 : lk 97 C_X2_joinAll = some (.getfield 15, (2, 1, 0, 118)) := by decide +kernel
theorem s_X2_joinAll_97 {ca : Nat → List Value → tM → tO} {M : tM} {L : tL} {b : Nat} {S : List Value} : rn ca C_X2_joinAll 97 L (.ref b :: S) M = if clsO b = some 2 then rn ca C_X2_joinAll 100 L (fv M b 1 :: S) M else none := (rn_at k_X2_joinAll_97).trans rnx_ite
theorem k_X2_joinAll_100 : lk 100 C_X2_joinAll = some (.iload_n 3, (0, 0, 0, 0)) := by decide +kernel
theorem s_X2_joinAll_100 {ca : Nat → List Value → tM → tO} {M : tM} {a0 a1 a2 a4 : Option Value} {x : Int32} {S : List Value} : rn ca C_X2_joinAll 100 [a0, a1, a2, some (.int x), a4] S M = rn ca C_X2_joinAll 101 [a0, a1, a2, some (.int x), a4] (.int x :: S) M := (rn_at k_X2_joinAll_100).trans rfl
theorem k_X2_joinAll_101 : lk 101 C_X2_joinAll = some (.iadd, (0, 0, 0, 0)) := by decide +kernel
theorem s_X2_joinAll_101 {ca : Nat → List Value → tM → tO} {M : tM} {L : tL} {x y : Int32} {S : List Value} : rn ca C_X2_joinAll 101 L (.int y :: .int x :: S) M = rn ca C_X2_joinAll 102 L (.int (x + y) :: S) M := (rn_at k_X2_joinAll_101).trans rfl
theorem k_X2_joinAll_102 : lk 102 C_X2_joinAll = some (.putfield 15, (2, 1, 0, 118)) := by decide +kernel
theorem s_X2_joinAll_102 {ca : Nat → List Value → tM → tO} {M : tM} {L : tL} {b : Nat} {v : Int32} {S : List Value} : rn ca C_X2_joinAll 102 L (.int v :: .ref b :: S) M = if clsO b = some 2 then rn ca C_X2_joinAll 105 L S (sI M b 1 v) else none := (rn_at k_X2_joinAll_102).trans rnx_ite
theorem k_X2_joinAll_105 : lk 105 C_X2_joinAll = some (.aload_n 0, (0, 0, 0, 0)) := by decide +kernel
theorem s_X2_joinAll_105 {ca : Nat → List Value → tM → tO} {M : tM} {a1 a2 a3 a4 : Option Value} {x : Nat} {S : List Value} : rn ca C_X2_joinAll 105 [some (.ref x), a1, a2, a3, a4] S M = rn ca C_X2_joinAll 106 [some (.ref x), a1, a2, a3, a4] (.ref x :: S) M := (rn_at k_X2_joinAll_105).trans rfl
theorem k_X2_joinAll_106 : lk 106 C_X2_joinAll = some (.dup, (0, 0, 0, 0)) := by decide +kernel
theorem s_X2_joinAll_106 {ca : Nat → List Value → tM → tO} {M : tM} {L : tL} {x : Nat} {S : List Value} : rn ca C_X2_joinAll 106 L (.ref x :: S) M = rn ca C_X2_joinAll 107 L (.ref x :: .ref x :: S) M := (rn_at k_X2_joinAll_106).trans rfl
theorem s_X2_joinAll_106b {ca : Nat → List Value → tM → tO} {M : tM} {L : tL} {x : Int32} {S : List Value} : rn ca C_X2_joinAll 106 L (.int x :: S) M = rn ca C_X2_joinAll 107 L (.int x :: .int x :: S) M := (rn_at k_X2_joinAll_106).trans rfl
theorem k_X2_joinAll_107 : lk 107 C_X2_joinAll = some (.getfield 19, (2, 2, 0, 119)) := by decide +kernel
theorem s_X2_joinAll_107 {ca : Nat → List Value → tM → tO} {M : tM} {L : tL} {b : Nat} {S : List Value} : rn ca C_X2_joinAll 107 L (.ref b :: S) M = if clsO b = some 2 then rn ca C_X2_joinAll 110 L (fv M b 2 :: S) M else none := (rn_at k_X2_joinAll_107).trans rnx_ite
theorem k_X2_joinAll_110 : lk 110 C_X2_joinAll = some (.iconst 1, (0, 0, 0, 0)) := by decide +kernel
theorem s_X2_joinAll_110 {ca : Nat → List Value → tM → tO} {M : tM} {L : tL} {S : List Value} : rn ca C_X2_joinAll 110 L S M = rn ca C_X2_joinAll 111 L (.int (iI 1) :: S) M := (rn_at k_X2_joinAll_110).trans rfl
theorem k_X2_joinAll_111 : lk 111 C_X2_joinAll = some (.iload 4, (0, 0, 0, 0)) := by decide +kernel
theorem s_X2_joinAll_111 {ca : Nat → List Value → tM → tO} {M : tM} {a0 a1 a2 a3 : Option Value} {x : Int32} {S : List Value} : rn ca C_X2_joinAll 111 [a0, a1, a2, a3, some (.int x)] S M = rn ca C_X2_joinAll 113 [a0, a1, a2, a3, some (.int x)] (.int x :: S) M := (rn_at k_X2_joinAll_111).trans rfl
theorem k_X2_joinAll_113 : lk 113 C_X2_joinAll = some (.ishl, (0, 0, 0, 0)) := by decide +kernel
theorem s_X2_joinAll_113 {ca : Nat → List Value → tM → tO} {M : tM} {L : tL} {x y : Int32} {S : List Value} : rn ca C_X2_joinAll 113 L (.int y :: .int x :: S) M = rn ca C_X2_joinAll 114 L (.int (x <<< (y &&& 31)) :: S) M := (rn_at k_X2_joinAll_113).trans rfl
theorem k_X2_joinAll_114 : lk 114 C_X2_joinAll = some (.ior, (0, 0, 0, 0)) := by decide +kernel
theorem s_X2_joinAll_114 {ca : Nat → List Value → tM → tO} {M : tM} {L : tL} {x y : Int32} {S : List Value} : rn ca C_X2_joinAll 114 L (.int y :: .int x :: S) M = rn ca C_X2_joinAll 115 L (.int (x ||| y) :: S) M := (rn_at k_X2_joinAll_114).trans rfl
theorem k_X2_joinAll_115 : lk 115 C_X2_joinAll = some (.putfield 19, (2, 2, 0, 119)) := by decide +kernel
theorem s_X2_joinAll_115 {ca : Nat → List Value → tM → tO} {M : tM} {L : tL} {b : Nat} {v : Int32} {S : List Value} : rn ca C_X2_joinAll 115 L (.int v :: .ref b :: S) M = if clsO b = some 2 then rn ca C_X2_joinAll 118 L S (sI M b 2 v) else none := (rn_at k_X2_joinAll_115).trans rnx_ite
theorem k_X2_joinAll_118 : lk 118 C_X2_joinAll = some (.iinc 2 (-1), (0, 0, 0, 0)) := by decide +kernel
theorem s_X2_joinAll_118 {ca : Nat → List Value → tM → tO} {M : tM} {a0 a1 a3 a4 : Option Value} {x : Int32} {S : List Value} : rn ca C_X2_joinAll 118 [a0, a1, some (.int x), a3, a4] S M = rn ca C_X2_joinAll 121 [a0, a1, some (.int (x + iI (-1))), a3, a4] S M := (rn_at k_X2_joinAll_118).trans rfl
theorem k_X2_joinAll_121 : lk 121 C_X2_joinAll = some (.iinc 4 1, (0, 0, 0, 0)) := by decide +kernel
theorem s_X2_joinAll_121 {ca : Nat → List Value → tM → tO} {M : tM} {a0 a1 a2 a3 : Option Value} {x : Int32} {S : List Value} : rn ca C_X2_joinAll 121 [a0, a1, a2, a3, some (.int x)] S M = rn ca C_X2_joinAll 124 [a0, a1, a2, a3, some (.int (x + iI 1))] S M := (rn_at k_X2_joinAll_121).trans rfl
theorem k_X2_joinAll_124 : lk 124 C_X2_joinAll = some (.goto (-77), (47, 0, 0, 0)) := by decide +kernel
theorem s_X2_joinAll_124 {ca : Nat → List Value → tM → tO} {M : tM} {L : tL} {S : List Value} : rn ca C_X2_joinAll 124 L S M = rn ca C_X2_joinAll 47 L S M := (rn_at k_X2_joinAll_124).trans rfl
theorem k_X2_joinAll_127 : lk 127 C_X2_joinAll = some (.iinc 3 1, (0, 0, 0, 0)) := by decide +kernel
theorem s_X2_joinAll_127 {ca : Nat → List Value → tM → tO} {M : tM} {a0 a1 a2 a4 : Option Value} {x : Int32} {S : List Value} : rn ca C_X2_joinAll 127 [a0, a1, a2, some (.int x), a4] S M = rn ca C_X2_joinAll 130 [a0, a1, a2, some (.int (x + iI 1)), a4] S M := (rn_at k_X2_joinAll_127).trans rfl
theorem k_X2_joinAll_130 : lk 130 C_X2_joinAll = some (.goto (-92), (38, 0, 0, 0)) := by decide +kernel
theorem s_X2_joinAll_130 {ca : Nat → List Value → tM → tO} {M : tM} {L : tL} {S : List Value} : rn ca C_X2_joinAll 130 L S M = rn ca C_X2_joinAll 38 L S M := (rn_at k_X2_joinAll_130).trans rfl
theorem k_X2_joinAll_133 : lk 133 C_X2_joinAll = some (.iload_n 2, (0, 0, 0, 0)) := by decide +kernel
theorem s_X2_joinAll_133 {ca : Nat → List Value → tM → tO} {M : tM} {a0 a1 a3 a4 : Option Value} {x : Int32} {S : List Value} : rn ca C_X2_joinAll 133 [a0, a1, some (.int x), a3, a4] S M = rn ca C_X2_joinAll 134 [a0, a1, some (.int x), a3, a4] (.int x :: S) M := (rn_at k_X2_joinAll_133).trans rfl
theorem k_X2_joinAll_134 : lk 134 C_X2_joinAll = some (.iconst 1, (0, 0, 0, 0)) := by decide +kernel
theorem s_X2_joinAll_134 {ca : Nat → List Value → tM → tO} {M : tM} {L : tL} {S : List Value} : rn ca C_X2_joinAll 134 L S M = rn ca C_X2_joinAll 135 L (.int (iI 1) :: S) M := (rn_at k_X2_joinAll_134).trans rfl
theorem k_X2_joinAll_135 : lk 135 C_X2_joinAll = some (.if_icmp .gt 7, (142, 0, 0, 0)) := by decide +kernel
theorem s_X2_joinAll_135 {ca : Nat → List Value → tM → tO} {M : tM} {L : tL} {x y : Int32} {S : List Value} : rn ca C_X2_joinAll 135 L (.int y :: .int x :: S) M = if y < x then rn ca C_X2_joinAll 142 L S M else rn ca C_X2_joinAll 138 L S M := (rn_at k_X2_joinAll_135).trans rnx_ite
theorem k_X2_joinAll_138 : lk 138 C_X2_joinAll = some (.iconst 1, (0, 0, 0, 0)) := by decide +kernel
theorem s_X2_joinAll_138 {ca : Nat → List Value → tM → tO} {M : tM} {L : tL} {S : List Value} : rn ca C_X2_joinAll 138 L S M = rn ca C_X2_joinAll 139 L (.int (iI 1) :: S) M := (rn_at k_X2_joinAll_138).trans rfl
theorem k_X2_joinAll_139 : lk 139 C_X2_joinAll = some (.goto 4, (143, 0, 0, 0)) := by decide +kernel
theorem s_X2_joinAll_139 {ca : Nat → List Value → tM → tO} {M : tM} {L : tL} {S : List Value} : rn ca C_X2_joinAll 139 L S M = rn ca C_X2_joinAll 143 L S M := (rn_at k_X2_joinAll_139).trans rfl
theorem k_X2_joinAll_142 : lk 142 C_X2_joinAll = some (.iconst 0, (0, 0, 0, 0)) := by decide +kernel
theorem s_X2_joinAll_142 {ca : Nat → List Value → tM → tO} {M : tM} {L : tL} {S : List Value} : rn ca C_X2_joinAll 142 L S M = rn ca C_X2_joinAll 143 L (.int (iI 0) :: S) M := (rn_at k_X2_joinAll_142).trans rfl
theorem k_X2_joinAll_143 : lk 143 C_X2_joinAll = some (.ireturn, (1, 0, 0, 0)) := by decide +kernel
theorem s_X2_joinAll_143 {ca : Nat → List Value → tM → tO} {M : tM} {L : tL} {x : Int32} : rn ca C_X2_joinAll 143 L [.int x] M = if x = iI 0 ∨ x = iI 1 then some (some (.int x), M) else none := (rn_at k_X2_joinAll_143).trans rnx_ite
theorem k_X2_joins_0 : lk 0 C_X2_joins = some (.iload_n 1, (0, 0, 0, 0)) := by decide +kernel
theorem s_X2_joins_0 {ca : Nat → List Value → tM → tO} {M : tM} {a0 a2 a3 a4 a5 : Option Value} {x : Int32} {S : List Value} : rn ca C_X2_joins 0 [a0, some (.int x), a2, a3, a4, a5] S M = rn ca C_X2_joins 1 [a0, some (.int x), a2, a3, a4, a5] (.int x :: S) M := (rn_at k_X2_joins_0).trans rfl
theorem k_X2_joins_1 : lk 1 C_X2_joins = some (.invokestatic 43, (141, 1, 0, 100014)) := by decide +kernel
theorem s_X2_joins_1 {ca : Nat → List Value → tM → tO} {M : tM} {L : tL} {v1 : Value} : rn ca C_X2_joins 1 L [v1] M = rnk ca C_X2_joins 4 L [] (ca m_X10_isDeskNumber [v1] M) := (rn_at k_X2_joins_1).trans rfl
theorem k_X2_joins_4 : lk 4 C_X2_joins = some (.ifCond .eq 10, (14, 0, 0, 0)) := by decide +kernel
theorem s_X2_joins_4 {ca : Nat → List Value → tM → tO} {M : tM} {L : tL} {x : Int32} {S : List Value} : rn ca C_X2_joins 4 L (.int x :: S) M = if x = iI 0 then rn ca C_X2_joins 14 L S M else rn ca C_X2_joins 7 L S M := (rn_at k_X2_joins_4).trans rnx_ite
theorem k_X2_joins_7 : lk 7 C_X2_joins = some (.iload_n 2, (0, 0, 0, 0)) := by decide +kernel
theorem s_X2_joins_7 {ca : Nat → List Value → tM → tO} {M : tM} {a0 a1 a3 a4 a5 : Option Value} {x : Int32} {S : List Value} : rn ca C_X2_joins 7 [a0, a1, some (.int x), a3, a4, a5] S M = rn ca C_X2_joins 8 [a0, a1, some (.int x), a3, a4, a5] (.int x :: S) M := (rn_at k_X2_joins_7).trans rfl
theorem k_X2_joins_8 : lk 8 C_X2_joins = some (.invokestatic 43, (141, 1, 0, 100014)) := by decide +kernel
theorem s_X2_joins_8 {ca : Nat → List Value → tM → tO} {M : tM} {L : tL} {v1 : Value} : rn ca C_X2_joins 8 L [v1] M = rnk ca C_X2_joins 11 L [] (ca m_X10_isDeskNumber [v1] M) := (rn_at k_X2_joins_8).trans rfl
theorem k_X2_joins_11 : lk 11 C_X2_joins = some (.ifCond .ne 5, (16, 0, 0, 0)) := by decide +kernel
theorem s_X2_joins_11 {ca : Nat → List Value → tM → tO} {M : tM} {L : tL} {x : Int32} {S : List Value} : rn ca C_X2_joins 11 L (.int x :: S) M = if ¬ x = iI 0 then rn ca C_X2_joins 16 L S M else rn ca C_X2_joins 14 L S M := (rn_at k_X2_joins_11).trans rnx_ite
theorem k_X2_joins_14 : lk 14 C_X2_joins = some (.iconst 0, (0, 0, 0, 0)) := by decide +kernel
theorem s_X2_joins_14 {ca : Nat → List Value → tM → tO} {M : tM} {L : tL} {S : List Value} : rn ca C_X2_joins 14 L S M = rn ca C_X2_joins 15 L (.int (iI 0) :: S) M := (rn_at k_X2_joins_14).trans rfl
theorem k_X2_joins_15 : lk 15 C_X2_joins = some (.ireturn, (1, 0, 0, 0)) := by decide +kernel
theorem s_X2_joins_15 {ca : Nat → List Value → tM → tO} {M : tM} {L : tL} {x : Int32} : rn ca C_X2_joins 15 L [.int x] M = if x = iI 0 ∨ x = iI 1 then some (some (.int x), M) else none := (rn_at k_X2_joins_15).trans rnx_ite
theorem k_X2_joins_16 : lk 16 C_X2_joins = some (.aload_n 0, (0, 0, 0, 0)) := by decide +kernel
theorem s_X2_joins_16 {ca : Nat → List Value → tM → tO} {M : tM} {a1 a2 a3 a4 a5 : Option Value} {x : Nat} {S : List Value} : rn ca C_X2_joins 16 [some (.ref x), a1, a2, a3, a4, a5] S M = rn ca C_X2_joins 17 [some (.ref x), a1, a2, a3, a4, a5] (.ref x :: S) M := (rn_at k_X2_joins_16).trans rfl
theorem k_X2_joins_17 : lk 17 C_X2_joins = some (.getfield 9, (2, 0, 0, 117)) := by decide +kernel
theorem s_X2_joins_17 {ca : Nat → List Value → tM → tO} {M : tM} {L : tL} {b : Nat} {S : List Value} : rn ca C_X2_joins 17 L (.ref b :: S) M = if clsO b = some 2 then rn ca C_X2_joins 20 L (fv M b 0 :: S) M else none := (rn_at k_X2_joins_17).trans rnx_ite
theorem k_X2_joins_20 : lk 20 C_X2_joins = some (.iload_n 1, (0, 0, 0, 0)) := by decide +kernel
theorem s_X2_joins_20 {ca : Nat → List Value → tM → tO} {M : tM} {a0 a2 a3 a4 a5 : Option Value} {x : Int32} {S : List Value} : rn ca C_X2_joins 20 [a0, some (.int x), a2, a3, a4, a5] S M = rn ca C_X2_joins 21 [a0, some (.int x), a2, a3, a4, a5] (.int x :: S) M := (rn_at k_X2_joins_20).trans rfl
theorem k_X2_joins_21 : lk 21 C_X2_joins = some (.iaload, (0, 0, 0, 0)) := by decide +kernel
theorem s_X2_joins_21 {ca : Nat → List Value → tM → tO} {M : tM} {L : tL} {a : Nat} {i : Int32} {S : List Value} : rn ca C_X2_joins 21 L (.int i :: .ref a :: S) M = if (akind a = 0 ∨ akind a = 6 ∨ akind a = 7) ∧ inb i (alen M a) then rn ca C_X2_joins 22 L (.int (M.1 a i.toInt.toNat) :: S) M else none := (rn_at k_X2_joins_21).trans rnx_ite
theorem k_X2_joins_22 : lk 22 C_X2_joins = some (.istore_n 3, (0, 0, 0, 0)) := by decide +kernel
theorem s_X2_joins_22 {ca : Nat → List Value → tM → tO} {M : tM} {a0 a1 a2 a3 a4 a5 : Option Value} {x : Int32} {S : List Value} : rn ca C_X2_joins 22 [a0, a1, a2, a3, a4, a5] (.int x :: S) M = rn ca C_X2_joins 23 [a0, a1, a2, some (.int x), a4, a5] S M := (rn_at k_X2_joins_22).trans rfl
theorem k_X2_joins_23 : lk 23 C_X2_joins = some (.aload_n 0, (0, 0, 0, 0)) := by decide +kernel
theorem s_X2_joins_23 {ca : Nat → List Value → tM → tO} {M : tM} {a1 a2 a3 a4 a5 : Option Value} {x : Nat} {S : List Value} : rn ca C_X2_joins 23 [some (.ref x), a1, a2, a3, a4, a5] S M = rn ca C_X2_joins 24 [some (.ref x), a1, a2, a3, a4, a5] (.ref x :: S) M := (rn_at k_X2_joins_23).trans rfl
theorem k_X2_joins_24 : lk 24 C_X2_joins = some (.getfield 9, (2, 0, 0, 117)) := by decide +kernel
theorem s_X2_joins_24 {ca : Nat → List Value → tM → tO} {M : tM} {L : tL} {b : Nat} {S : List Value} : rn ca C_X2_joins 24 L (.ref b :: S) M = if clsO b = some 2 then rn ca C_X2_joins 27 L (fv M b 0 :: S) M else none := (rn_at k_X2_joins_24).trans rnx_ite
theorem k_X2_joins_27 : lk 27 C_X2_joins = some (.iload_n 2, (0, 0, 0, 0)) := by decide +kernel
theorem s_X2_joins_27 {ca : Nat → List Value → tM → tO} {M : tM} {a0 a1 a3 a4 a5 : Option Value} {x : Int32} {S : List Value} : rn ca C_X2_joins 27 [a0, a1, some (.int x), a3, a4, a5] S M = rn ca C_X2_joins 28 [a0, a1, some (.int x), a3, a4, a5] (.int x :: S) M := (rn_at k_X2_joins_27).trans rfl
theorem k_X2_joins_28 : lk 28 C_X2_joins = some (.iaload, (0, 0, 0, 0)) := by decide +kernel
theorem s_X2_joins_28 {ca : Nat → List Value → tM → tO} {M : tM} {L : tL} {a : Nat} {i : Int32} {S : List Value} : rn ca C_X2_joins 28 L (.int i :: .ref a :: S) M = if (akind a = 0 ∨ akind a = 6 ∨ akind a = 7) ∧ inb i (alen M a) then rn ca C_X2_joins 29 L (.int (M.1 a i.toInt.toNat) :: S) M else none := (rn_at k_X2_joins_28).trans rnx_ite
theorem k_X2_joins_29 : lk 29 C_X2_joins = some (.istore 4, (0, 0, 0, 0)) := by decide +kernel
theorem s_X2_joins_29 {ca : Nat → List Value → tM → tO} {M : tM} {a0 a1 a2 a3 a4 a5 : Option Value} {x : Int32} {S : List Value} : rn ca C_X2_joins 29 [a0, a1, a2, a3, a4, a5] (.int x :: S) M = rn ca C_X2_joins 31 [a0, a1, a2, a3, some (.int x), a5] S M := (rn_at k_X2_joins_29).trans rfl
theorem k_X2_joins_31 : lk 31 C_X2_joins = some (.iload_n 3, (0, 0, 0, 0)) := by decide +kernel
theorem s_X2_joins_31 {ca : Nat → List Value → tM → tO} {M : tM} {a0 a1 a2 a4 a5 : Option Value} {x : Int32} {S : List Value} : rn ca C_X2_joins 31 [a0, a1, a2, some (.int x), a4, a5] S M = rn ca C_X2_joins 32 [a0, a1, a2, some (.int x), a4, a5] (.int x :: S) M := (rn_at k_X2_joins_31).trans rfl
theorem k_X2_joins_32 : lk 32 C_X2_joins = some (.iload 4, (0, 0, 0, 0)) := by decide +kernel
theorem s_X2_joins_32 {ca : Nat → List Value → tM → tO} {M : tM} {a0 a1 a2 a3 a5 : Option Value} {x : Int32} {S : List Value} : rn ca C_X2_joins 32 [a0, a1, a2, a3, some (.int x), a5] S M = rn ca C_X2_joins 34 [a0, a1, a2, a3, some (.int x), a5] (.int x :: S) M := (rn_at k_X2_joins_32).trans rfl
theorem k_X2_joins_34 : lk 34 C_X2_joins = some (.if_icmp .ne 5, (39, 0, 0, 0)) := by decide +kernel
theorem s_X2_joins_34 {ca : Nat → List Value → tM → tO} {M : tM} {L : tL} {x y : Int32} {S : List Value} : rn ca C_X2_joins 34 L (.int y :: .int x :: S) M = if ¬ x = y then rn ca C_X2_joins 39 L S M else rn ca C_X2_joins 37 L S M := (rn_at k_X2_joins_34).trans rnx_ite
theorem k_X2_joins_37 : lk 37 C_X2_joins = some (.iconst 0, (0, 0, 0, 0)) := by decide +kernel
theorem s_X2_joins_37 {ca : Nat → List Value → tM → tO} {M : tM} {L : tL} {S : List Value} : rn ca C_X2_joins 37 L S M = rn ca C_X2_joins 38 L (.int (iI 0) :: S) M := (rn_at k_X2_joins_37).trans rfl
theorem k_X2_joins_38 : lk 38 C_X2_joins = some (.ireturn, (1, 0, 0, 0)) := by decide +kernel
theorem s_X2_joins_38 {ca : Nat → List Value → tM → tO} {M : tM} {L : tL} {x : Int32} : rn ca C_X2_joins 38 L [.int x] M = if x = iI 0 ∨ x = iI 1 then some (some (.int x), M) else none := (rn_at k_X2_joins_38).trans rnx_ite
theorem k_X2_joins_39 : lk 39 C_X2_joins = some (.iconst 0, (0, 0, 0, 0)) := by decide +kernel
theorem s_X2_joins_39 {ca : Nat → List Value → tM → tO} {M : tM} {L : tL} {S : List Value} : rn ca C_X2_joins 39 L S M = rn ca C_X2_joins 40 L (.int (iI 0) :: S) M := (rn_at k_X2_joins_39).trans rfl
theorem k_X2_joins_40 : lk 40 C_X2_joins = some (.istore 5, (0, 0, 0, 0)) := by decide +kernel
theorem s_X2_joins_40 {ca : Nat → List Value → tM → tO} {M : tM} {a0 a1 a2 a3 a4 a5 : Option Value} {x : Int32} {S : List Value} : rn ca C_X2_joins 40 [a0, a1, a2, a3, a4, a5] (.int x :: S) M = rn ca C_X2_joins 42 [a0, a1, a2, a3, a4, some (.int x)] S M := (rn_at k_X2_joins_40).trans rfl
theorem k_X2_joins_42 : lk 42 C_X2_joins = some (.iload 5, (0, 0, 0, 0)) := by decide +kernel
theorem s_X2_joins_42 {ca : Nat → List Value → tM → tO} {M : tM} {a0 a1 a2 a3 a4 : Option Value} {x : Int32} {S : List Value} : rn ca C_X2_joins 42 [a0, a1, a2, a3, a4, some (.int x)] S M = rn ca C_X2_joins 44 [a0, a1, a2, a3, a4, some (.int x)] (.int x :: S) M := (rn_at k_X2_joins_42).trans rfl
theorem k_X2_joins_44 : lk 44 C_X2_joins = some (.bipush 8, (0, 0, 0, 0)) := by decide +kernel
theorem s_X2_joins_44 {ca : Nat → List Value → tM → tO} {M : tM} {L : tL} {S : List Value} : rn ca C_X2_joins 44 L S M = rn ca C_X2_joins 46 L (.int (iI 8) :: S) M := (rn_at k_X2_joins_44).trans rfl
theorem k_X2_joins_46 : lk 46 C_X2_joins = some (.if_icmp .ge 29, (75, 0, 0, 0)) := by decide +kernel
theorem s_X2_joins_46 {ca : Nat → List Value → tM → tO} {M : tM} {L : tL} {x y : Int32} {S : List Value} : rn ca C_X2_joins 46 L (.int y :: .int x :: S) M = if y ≤ x then rn ca C_X2_joins 75 L S M else rn ca C_X2_joins 49 L S M := (rn_at k_X2_joins_46).trans rnx_ite
theorem k_X2_joins_49 : lk 49 C_X2_joins = some (.aload_n 0, (0, 0, 0, 0)) := by decide +kernel
theorem s_X2_joins_49 {ca : Nat → List Value → tM → tO} {M : tM} {a1 a2 a3 a4 a5 : Option Value} {x : Nat} {S : List Value} : rn ca C_X2_joins 49 [some (.ref x), a1, a2, a3, a4, a5] S M = rn ca C_X2_joins 50 [some (.ref x), a1, a2, a3, a4, a5] (.ref x :: S) M := (rn_at k_X2_joins_49).trans rfl
theorem k_X2_joins_50 : lk 50 C_X2_joins = some (.getfield 9, (2, 0, 0, 117)) := by decide +kernel
theorem s_X2_joins_50 {ca : Nat → List Value → tM → tO} {M : tM} {L : tL} {b : Nat} {S : List Value} : rn ca C_X2_joins 50 L (.ref b :: S) M = if clsO b = some 2 then rn ca C_X2_joins 53 L (fv M b 0 :: S) M else none := (rn_at k_X2_joins_50).trans rnx_ite
theorem k_X2_joins_53 : lk 53 C_X2_joins = some (.iload 5, (0, 0, 0, 0)) := by decide +kernel
theorem s_X2_joins_53 {ca : Nat → List Value → tM → tO} {M : tM} {a0 a1 a2 a3 a4 : Option Value} {x : Int32} {S : List Value} : rn ca C_X2_joins 53 [a0, a1, a2, a3, a4, some (.int x)] S M = rn ca C_X2_joins 55 [a0, a1, a2, a3, a4, some (.int x)] (.int x :: S) M := (rn_at k_X2_joins_53).trans rfl
theorem k_X2_joins_55 : lk 55 C_X2_joins = some (.iaload, (0, 0, 0, 0)) := by decide +kernel
theorem s_X2_joins_55 {ca : Nat → List Value → tM → tO} {M : tM} {L : tL} {a : Nat} {i : Int32} {S : List Value} : rn ca C_X2_joins 55 L (.int i :: .ref a :: S) M = if (akind a = 0 ∨ akind a = 6 ∨ akind a = 7) ∧ inb i (alen M a) then rn ca C_X2_joins 56 L (.int (M.1 a i.toInt.toNat) :: S) M else none := (rn_at k_X2_joins_55).trans rnx_ite
theorem k_X2_joins_56 : lk 56 C_X2_joins = some (.iload 4, (0, 0, 0, 0)) := by decide +kernel
theorem s_X2_joins_56 {ca : Nat → List Value → tM → tO} {M : tM} {a0 a1 a2 a3 a5 : Option Value} {x : Int32} {S : List Value} : rn ca C_X2_joins 56 [a0, a1, a2, a3, some (.int x), a5] S M = rn ca C_X2_joins 58 [a0, a1, a2, a3, some (.int x), a5] (.int x :: S) M := (rn_at k_X2_joins_56).trans rfl
theorem k_X2_joins_58 : lk 58 C_X2_joins = some (.if_icmp .ne 11, (69, 0, 0, 0)) := by decide +kernel
theorem s_X2_joins_58 {ca : Nat → List Value → tM → tO} {M : tM} {L : tL} {x y : Int32} {S : List Value} : rn ca C_X2_joins 58 L (.int y :: .int x :: S) M = if ¬ x = y then rn ca C_X2_joins 69 L S M else rn ca C_X2_joins 61 L S M := (rn_at k_X2_joins_58).trans rnx_ite
theorem k_X2_joins_61 : lk 61 C_X2_joins = some (.aload_n 0, (0, 0, 0, 0)) := by decide +kernel
theorem s_X2_joins_61 {ca : Nat → List Value → tM → tO} {M : tM} {a1 a2 a3 a4 a5 : Option Value} {x : Nat} {S : List Value} : rn ca C_X2_joins 61 [some (.ref x), a1, a2, a3, a4, a5] S M = rn ca C_X2_joins 62 [some (.ref x), a1, a2, a3, a4, a5] (.ref x :: S) M := (rn_at k_X2_joins_61).trans rfl
theorem k_X2_joins_62 : lk 62 C_X2_joins = some (.getfield 9, (2, 0, 0, 117)) := by decide +kernel
theorem s_X2_joins_62 {ca : Nat → List Value → tM → tO} {M : tM} {L : tL} {b : Nat} {S : List Value} : rn ca C_X2_joins 62 L (.ref b :: S) M = if clsO b = some 2 then rn ca C_X2_joins 65 L (fv M b 0 :: S) M else none := (rn_at k_X2_joins_62).trans rnx_ite
theorem k_X2_joins_65 : lk 65 C_X2_joins = some (.iload 5, (0, 0, 0, 0)) := by decide +kernel
theorem s_X2_joins_65 {ca : Nat → List Value → tM → tO} {M : tM} {a0 a1 a2 a3 a4 : Option Value} {x : Int32} {S : List Value} : rn ca C_X2_joins 65 [a0, a1, a2, a3, a4, some (.int x)] S M = rn ca C_X2_joins 67 [a0, a1, a2, a3, a4, some (.int x)] (.int x :: S) M := (rn_at k_X2_joins_65).trans rfl
theorem k_X2_joins_67 : lk 67 C_X2_joins = some (.iload_n 3, (0, 0, 0, 0)) := by decide +kernel
theorem s_X2_joins_67 {ca : Nat → List Value → tM → tO} {M : tM} {a0 a1 a2 a4 a5 : Option Value} {x : Int32} {S : List Value} : rn ca C_X2_joins 67 [a0, a1, a2, some (.int x), a4, a5] S M = rn ca C_X2_joins 68 [a0, a1, a2, some (.int x), a4, a5] (.int x :: S) M := (rn_at k_X2_joins_67).trans rfl
theorem k_X2_joins_68 : lk 68 C_X2_joins = some (.iastore, (0, 0, 0, 0)) := by decide +kernel
theorem s_X2_joins_68 {ca : Nat → List Value → tM → tO} {M : tM} {L : tL} {a : Nat} {i x : Int32} {S : List Value} : rn ca C_X2_joins 68 L (.int x :: .int i :: .ref a :: S) M = if akind a = 0 ∧ inb i (alen M a) then rn ca C_X2_joins 69 L S (sI M a i.toInt.toNat x) else none := (rn_at k_X2_joins_68).trans rnx_ite
theorem k_X2_joins_69 : lk 69 C_X2_joins = some (.iinc 5 1, (0, 0, 0, 0)) := by decide +kernel
theorem s_X2_joins_69 {ca : Nat → List Value → tM → tO} {M : tM} {a0 a1 a2 a3 a4 : Option Value} {x : Int32} {S : List Value} : rn ca C_X2_joins 69 [a0, a1, a2, a3, a4, some (.int x)] S M = rn ca C_X2_joins 72 [a0, a1, a2, a3, a4, some (.int (x + iI 1))] S M := (rn_at k_X2_joins_69).trans rfl
theorem k_X2_joins_72 : lk 72 C_X2_joins = some (.goto (-30), (42, 0, 0, 0)) := by decide +kernel
theorem s_X2_joins_72 {ca : Nat → List Value → tM → tO} {M : tM} {L : tL} {S : List Value} : rn ca C_X2_joins 72 L S M = rn ca C_X2_joins 42 L S M := (rn_at k_X2_joins_72).trans rfl
theorem k_X2_joins_75 : lk 75 C_X2_joins = some (.iconst 1, (0, 0, 0, 0)) := by decide +kernel
theorem s_X2_joins_75 {ca : Nat → List Value → tM → tO} {M : tM} {L : tL} {S : List Value} : rn ca C_X2_joins 75 L S M = rn ca C_X2_joins 76 L (.int (iI 1) :: S) M := (rn_at k_X2_joins_75).trans rfl
theorem k_X2_joins_76 : lk 76 C_X2_joins = some (.ireturn, (1, 0, 0, 0)) := by decide +kernel
theorem s_X2_joins_76 {ca : Nat → List Value → tM → tO} {M : tM} {L : tL} {x : Int32} : rn ca C_X2_joins 76 L [.int x] M = if x = iI 0 ∨ x = iI 1 then some (some (.int x), M) else none := (rn_at k_X2_joins_76).trans rnx_ite
theorem k_X3_read_0 : lk 0 C_X3_read = some (.aload_n 0, (0, 0, 0, 0)) := by decide +kernel
theorem s_X3_read_0 {ca : Nat → List Value → tM → tO} {M : tM} {a1 a2 a3 a4 : Option Value} {x : Nat} {S : List Value} : rn ca C_X3_read 0 [some (.ref x), a1, a2, a3, a4] S M = rn ca C_X3_read 1 [some (.ref x), a1, a2, a3, a4] (.ref x :: S) M := (rn_at k_X3_read_0).trans rfl
theorem k_X3_read_1 : lk 1 C_X3_read = some (.iload_n 3, (0, 0, 0, 0)) := by decide +kernel
theorem s_X3_read_1 {ca : Nat → List Value → tM → tO} {M : tM} {a0 a1 a2 a4 : Option Value} {x : Int32} {S : List Value} : rn ca C_X3_read 1 [a0, a1, a2, some (.int x), a4] S M = rn ca C_X3_read 2 [a0, a1, a2, some (.int x), a4] (.int x :: S) M := (rn_at k_X3_read_1).trans rfl
theorem k_X3_read_2 : lk 2 C_X3_read = some (.bipush 8, (0, 0, 0, 0)) := by decide +kernel
theorem s_X3_read_2 {ca : Nat → List Value → tM → tO} {M : tM} {L : tL} {S : List Value} : rn ca C_X3_read 2 L S M = rn ca C_X3_read 4 L (.int (iI 8) :: S) M := (rn_at k_X3_read_2).trans rfl
theorem k_X3_read_4 : lk 4 C_X3_read = some (.invokestatic 27, (0, 2, 3, 949)) := by decide +kernel
theorem s_X3_read_4 {ca : Nat → List Value → tM → tO} {M : tM} {L : tL} {x y : Int32} {r0 : Nat} : rn ca C_X3_read 4 L [.int y, .int x, .ref r0] M = rn ca C_X3_read 7 L [.int (mnI x y), .ref r0] M := (rn_at k_X3_read_4).trans rfl
theorem k_X3_read_7 : lk 7 C_X3_read = some (.putfield 18, (3, 2, 0, 111)) := by decide +kernel
theorem s_X3_read_7 {ca : Nat → List Value → tM → tO} {M : tM} {L : tL} {b : Nat} {v : Int32} {S : List Value} : rn ca C_X3_read 7 L (.int v :: .ref b :: S) M = if clsO b = some 3 then rn ca C_X3_read 10 L S (sI M b 2 v) else none := (rn_at k_X3_read_7).trans rnx_ite
theorem k_X3_read_10 : lk 10 C_X3_read = some (.iconst 0, (0, 0, 0, 0)) := by decide +kernel
theorem s_X3_read_10 {ca : Nat → List Value → tM → tO} {M : tM} {L : tL} {S : List Value} : rn ca C_X3_read 10 L S M = rn ca C_X3_read 11 L (.int (iI 0) :: S) M := (rn_at k_X3_read_10).trans rfl
theorem k_X3_read_11 : lk 11 C_X3_read = some (.istore 4, (0, 0, 0, 0)) := by decide +kernel
theorem s_X3_read_11 {ca : Nat → List Value → tM → tO} {M : tM} {a0 a1 a2 a3 a4 : Option Value} {x : Int32} {S : List Value} : rn ca C_X3_read 11 [a0, a1, a2, a3, a4] (.int x :: S) M = rn ca C_X3_read 13 [a0, a1, a2, a3, some (.int x)] S M := (rn_at k_X3_read_11).trans rfl
theorem k_X3_read_13 : lk 13 C_X3_read = some (.iload 4, (0, 0, 0, 0)) := by decide +kernel
theorem s_X3_read_13 {ca : Nat → List Value → tM → tO} {M : tM} {a0 a1 a2 a3 : Option Value} {x : Int32} {S : List Value} : rn ca C_X3_read 13 [a0, a1, a2, a3, some (.int x)] S M = rn ca C_X3_read 15 [a0, a1, a2, a3, some (.int x)] (.int x :: S) M := (rn_at k_X3_read_13).trans rfl
theorem k_X3_read_15 : lk 15 C_X3_read = some (.aload_n 0, (0, 0, 0, 0)) := by decide +kernel
theorem s_X3_read_15 {ca : Nat → List Value → tM → tO} {M : tM} {a1 a2 a3 a4 : Option Value} {x : Nat} {S : List Value} : rn ca C_X3_read 15 [some (.ref x), a1, a2, a3, a4] S M = rn ca C_X3_read 16 [some (.ref x), a1, a2, a3, a4] (.ref x :: S) M := (rn_at k_X3_read_15).trans rfl
theorem k_X3_read_16 : lk 16 C_X3_read = some (.getfield 18, (3, 2, 0, 111)) := by decide +kernel
theorem s_X3_read_16 {ca : Nat → List Value → tM → tO} {M : tM} {L : tL} {b : Nat} {S : List Value} : rn ca C_X3_read 16 L (.ref b :: S) M = if clsO b = some 3 then rn ca C_X3_read 19 L (fv M b 2 :: S) M else none := (rn_at k_X3_read_16).trans rnx_ite
theorem k_X3_read_19 : lk 19 C_X3_read = some (.if_icmp .ge 50, (69, 0, 0, 0)) := by decide +kernel
theorem s_X3_read_19 {ca : Nat → List Value → tM → tO} {M : tM} {L : tL} {x y : Int32} {S : List Value} : rn ca C_X3_read 19 L (.int y :: .int x :: S) M = if y ≤ x then rn ca C_X3_read 69 L S M else rn ca C_X3_read 22 L S M := (rn_at k_X3_read_19).trans rnx_ite
theorem k_X3_read_22 : lk 22 C_X3_read = some (.iload 4, (0, 0, 0, 0)) := by decide +kernel
theorem s_X3_read_22 {ca : Nat → List Value → tM → tO} {M : tM} {a0 a1 a2 a3 : Option Value} {x : Int32} {S : List Value} : rn ca C_X3_read 22 [a0, a1, a2, a3, some (.int x)] S M = rn ca C_X3_read 24 [a0, a1, a2, a3, some (.int x)] (.int x :: S) M := (rn_at k_X3_read_22).trans rfl
theorem k_X3_read_24 : lk 24 C_X3_read = some (.bipush 8, (0, 0, 0, 0)) := by decide +kernel
theorem s_X3_read_24 {ca : Nat → List Value → tM → tO} {M : tM} {L : tL} {S : List Value} : rn ca C_X3_read 24 L S M = rn ca C_X3_read 26 L (.int (iI 8) :: S) M := (rn_at k_X3_read_24).trans rfl
theorem k_X3_read_26 : lk 26 C_X3_read = some (.if_icmp .ge 43, (69, 0, 0, 0)) := by decide +kernel
theorem s_X3_read_26 {ca : Nat → List Value → tM → tO} {M : tM} {L : tL} {x y : Int32} {S : List Value} : rn ca C_X3_read 26 L (.int y :: .int x :: S) M = if y ≤ x then rn ca C_X3_read 69 L S M else rn ca C_X3_read 29 L S M := (rn_at k_X3_read_26).trans rnx_ite
theorem k_X3_read_29 : lk 29 C_X3_read = some (.aload_n 0, (0, 0, 0, 0)) := by decide +kernel
theorem s_X3_read_29 {ca : Nat → List Value → tM → tO} {M : tM} {a1 a2 a3 a4 : Option Value} {x : Nat} {S : List Value} : rn ca C_X3_read 29 [some (.ref x), a1, a2, a3, a4] S M = rn ca C_X3_read 30 [some (.ref x), a1, a2, a3, a4] (.ref x :: S) M := (rn_at k_X3_read_29).trans rfl
theorem k_X3_read_30 : lk 30 C_X3_read = some (.getfield 9, (3, 0, 0, 109)) := by decide +kernel
theorem s_X3_read_30 {ca : Nat → List Value → tM → tO} {M : tM} {L : tL} {b : Nat} {S : List Value} : rn ca C_X3_read 30 L (.ref b :: S) M = if clsO b = some 3 then rn ca C_X3_read 33 L (fv M b 0 :: S) M else none := (rn_at k_X3_read_30).trans rnx_ite
theorem k_X3_read_33 : lk 33 C_X3_read = some (.iload 4, (0, 0, 0, 0)) := by decide +kernel
theorem s_X3_read_33 {ca : Nat → List Value → tM → tO} {M : tM} {a0 a1 a2 a3 : Option Value} {x : Int32} {S : List Value} : rn ca C_X3_read 33 [a0, a1, a2, a3, some (.int x)] S M = rn ca C_X3_read 35 [a0, a1, a2, a3, some (.int x)] (.int x :: S) M := (rn_at k_X3_read_33).trans rfl
theorem k_X3_read_35 : lk 35 C_X3_read = some (.aload_n 1, (0, 0, 0, 0)) := by decide +kernel
theorem s_X3_read_35 {ca : Nat → List Value → tM → tO} {M : tM} {a0 a2 a3 a4 : Option Value} {x : Nat} {S : List Value} : rn ca C_X3_read 35 [a0, some (.ref x), a2, a3, a4] S M = rn ca C_X3_read 36 [a0, some (.ref x), a2, a3, a4] (.ref x :: S) M := (rn_at k_X3_read_35).trans rfl
theorem k_X3_read_36 : lk 36 C_X3_read = some (.iload_n 2, (0, 0, 0, 0)) := by decide +kernel
theorem s_X3_read_36 {ca : Nat → List Value → tM → tO} {M : tM} {a0 a1 a3 a4 : Option Value} {x : Int32} {S : List Value} : rn ca C_X3_read 36 [a0, a1, some (.int x), a3, a4] S M = rn ca C_X3_read 37 [a0, a1, some (.int x), a3, a4] (.int x :: S) M := (rn_at k_X3_read_36).trans rfl
theorem k_X3_read_37 : lk 37 C_X3_read = some (.iconst 2, (0, 0, 0, 0)) := by decide +kernel
theorem s_X3_read_37 {ca : Nat → List Value → tM → tO} {M : tM} {L : tL} {S : List Value} : rn ca C_X3_read 37 L S M = rn ca C_X3_read 38 L (.int (iI 2) :: S) M := (rn_at k_X3_read_37).trans rfl
theorem k_X3_read_38 : lk 38 C_X3_read = some (.iload 4, (0, 0, 0, 0)) := by decide +kernel
theorem s_X3_read_38 {ca : Nat → List Value → tM → tO} {M : tM} {a0 a1 a2 a3 : Option Value} {x : Int32} {S : List Value} : rn ca C_X3_read 38 [a0, a1, a2, a3, some (.int x)] S M = rn ca C_X3_read 40 [a0, a1, a2, a3, some (.int x)] (.int x :: S) M := (rn_at k_X3_read_38).trans rfl
theorem k_X3_read_40 : lk 40 C_X3_read = some (.imul, (0, 0, 0, 0)) := by decide +kernel
theorem s_X3_read_40 {ca : Nat → List Value → tM → tO} {M : tM} {L : tL} {x y : Int32} {S : List Value} : rn ca C_X3_read 40 L (.int y :: .int x :: S) M = rn ca C_X3_read 41 L (.int (x * y) :: S) M := (rn_at k_X3_read_40).trans rfl
theorem k_X3_read_41 : lk 41 C_X3_read = some (.invokevirtual 33, (73, 2, 8, 950)) := by decide +kernel
theorem s_X3_read_41 {ca : Nat → List Value → tM → tO} {M : tM} {L : tL} {v1 v2 : Value} {r0 : Int32} {r1 : Nat} {b : Nat} : rn ca C_X3_read 41 L [v2, v1, .ref b, .int r0, .ref r1] M = if clsO b = some 8 then rnk ca C_X3_read 44 L [.int r0, .ref r1] (ca m_X8_intAt [.ref b, v1, v2] M) else none := (rn_at k_X3_read_41).trans rnx_ite
theorem k_X3_read_44 : lk 44 C_X3_read = some (.iastore, (0, 0, 0, 0)) := by decide +kernel
theorem s_X3_read_44 {ca : Nat → List Value → tM → tO} {M : tM} {L : tL} {a : Nat} {i x : Int32} {S : List Value} : rn ca C_X3_read 44 L (.int x :: .int i :: .ref a :: S) M = if akind a = 0 ∧ inb i (alen M a) then rn ca C_X3_read 45 L S (sI M a i.toInt.toNat x) else none := (rn_at k_X3_read_44).trans rnx_ite
theorem k_X3_read_45 : lk 45 C_X3_read = some (.aload_n 0, (0, 0, 0, 0)) := by decide +kernel
theorem s_X3_read_45 {ca : Nat → List Value → tM → tO} {M : tM} {a1 a2 a3 a4 : Option Value} {x : Nat} {S : List Value} : rn ca C_X3_read 45 [some (.ref x), a1, a2, a3, a4] S M = rn ca C_X3_read 46 [some (.ref x), a1, a2, a3, a4] (.ref x :: S) M := (rn_at k_X3_read_45).trans rfl
theorem k_X3_read_46 : lk 46 C_X3_read = some (.getfield 15, (3, 1, 0, 110)) := by decide +kernel
theorem s_X3_read_46 {ca : Nat → List Value → tM → tO} {M : tM} {L : tL} {b : Nat} {S : List Value} : rn ca C_X3_read 46 L (.ref b :: S) M = if clsO b = some 3 then rn ca C_X3_read 49 L (fv M b 1 :: S) M else none := (rn_at k_X3_read_46).trans rnx_ite
theorem k_X3_read_49 : lk 49 C_X3_read = some (.iload 4, (0, 0, 0, 0)) := by decide +kernel
theorem s_X3_read_49 {ca : Nat → List Value → tM → tO} {M : tM} {a0 a1 a2 a3 : Option Value} {x : Int32} {S : List Value} : rn ca C_X3_read 49 [a0, a1, a2, a3, some (.int x)] S M = rn ca C_X3_read 51 [a0, a1, a2, a3, some (.int x)] (.int x :: S) M := (rn_at k_X3_read_49).trans rfl
theorem k_X3_read_51 : lk 51 C_X3_read = some (.aload_n 1, (0, 0, 0, 0)) := by decide +kernel
theorem s_X3_read_51 {ca : Nat → List Value → tM → tO} {M : tM} {a0 a2 a3 a4 : Option Value} {x : Nat} {S : List Value} : rn ca C_X3_read 51 [a0, some (.ref x), a2, a3, a4] S M = rn ca C_X3_read 52 [a0, some (.ref x), a2, a3, a4] (.ref x :: S) M := (rn_at k_X3_read_51).trans rfl
theorem k_X3_read_52 : lk 52 C_X3_read = some (.iload_n 2, (0, 0, 0, 0)) := by decide +kernel
theorem s_X3_read_52 {ca : Nat → List Value → tM → tO} {M : tM} {a0 a1 a3 a4 : Option Value} {x : Int32} {S : List Value} : rn ca C_X3_read 52 [a0, a1, some (.int x), a3, a4] S M = rn ca C_X3_read 53 [a0, a1, some (.int x), a3, a4] (.int x :: S) M := (rn_at k_X3_read_52).trans rfl
theorem k_X3_read_53 : lk 53 C_X3_read = some (.iconst 2, (0, 0, 0, 0)) := by decide +kernel
theorem s_X3_read_53 {ca : Nat → List Value → tM → tO} {M : tM} {L : tL} {S : List Value} : rn ca C_X3_read 53 L S M = rn ca C_X3_read 54 L (.int (iI 2) :: S) M := (rn_at k_X3_read_53).trans rfl
theorem k_X3_read_54 : lk 54 C_X3_read = some (.iload 4, (0, 0, 0, 0)) := by decide +kernel
theorem s_X3_read_54 {ca : Nat → List Value → tM → tO} {M : tM} {a0 a1 a2 a3 : Option Value} {x : Int32} {S : List Value} : rn ca C_X3_read 54 [a0, a1, a2, a3, some (.int x)] S M = rn ca C_X3_read 56 [a0, a1, a2, a3, some (.int x)] (.int x :: S) M := (rn_at k_X3_read_54).trans rfl
theorem k_X3_read_56 : lk 56 C_X3_read = some (.imul, (0, 0, 0, 0)) := by decide +kernel
theorem s_X3_read_56 {ca : Nat → List Value → tM → tO} {M : tM} {L : tL} {x y : Int32} {S : List Value} : rn ca C_X3_read 56 L (.int y :: .int x :: S) M = rn ca C_X3_read 57 L (.int (x * y) :: S) M := (rn_at k_X3_read_56).trans rfl
theorem k_X3_read_57 : lk 57 C_X3_read = some (.iconst 1, (0, 0, 0, 0)) := by decide +kernel
theorem s_X3_read_57 {ca : Nat → List Value → tM → tO} {M : tM} {L : tL} {S : List Value} : rn ca C_X3_read 57 L S M = rn ca C_X3_read 58 L (.int (iI 1) :: S) M := (rn_at k_X3_read_57).trans rfl
theorem k_X3_read_58 : lk 58 C_X3_read = some (.iadd, (0, 0, 0, 0)) := by decide +kernel
theorem s_X3_read_58 {ca : Nat → List Value → tM → tO} {M : tM} {L : tL} {x y : Int32} {S : List Value} : rn ca C_X3_read 58 L (.int y :: .int x :: S) M = rn ca C_X3_read 59 L (.int (x + y) :: S) M := (rn_at k_X3_read_58).trans rfl
theorem k_X3_read_59 : lk 59 C_X3_read = some (.invokevirtual 33, (73, 2, 8, 950)) := by decide +kernel
theorem s_X3_read_59 {ca : Nat → List Value → tM → tO} {M : tM} {L : tL} {v1 v2 : Value} {r0 : Int32} {r1 : Nat} {b : Nat} : rn ca C_X3_read 59 L [v2, v1, .ref b, .int r0, .ref r1] M = if clsO b = some 8 then rnk ca C_X3_read 62 L [.int r0, .ref r1] (ca m_X8_intAt [.ref b, v1, v2] M) else none := (rn_at k_X3_read_59).trans rnx_ite
theorem k_X3_read_62 : lk 62 C_X3_read = some (.iastore, (0, 0, 0, 0)) := by decide +kernel
theorem s_X3_read_62 {ca : Nat → List Value → tM → tO} {M : tM} {L : tL} {a : Nat} {i x : Int32} {S : List Value} : rn ca C_X3_read 62 L (.int x :: .int i :: .ref a :: S) M = if akind a = 0 ∧ inb i (alen M a) then rn ca C_X3_read 63 L S (sI M a i.toInt.toNat x) else none := (rn_at k_X3_read_62).trans rnx_ite
theorem k_X3_read_63 : lk 63 C_X3_read = some (.iinc 4 1, (0, 0, 0, 0)) := by decide +kernel
theorem s_X3_read_63 {ca : Nat → List Value → tM → tO} {M : tM} {a0 a1 a2 a3 : Option Value} {x : Int32} {S : List Value} : rn ca C_X3_read 63 [a0, a1, a2, a3, some (.int x)] S M = rn ca C_X3_read 66 [a0, a1, a2, a3, some (.int (x + iI 1))] S M := (rn_at k_X3_read_63).trans rfl
theorem k_X3_read_66 : lk 66 C_X3_read = some (.goto (-53), (13, 0, 0, 0)) := by decide +kernel
theorem s_X3_read_66 {ca : Nat → List Value → tM → tO} {M : tM} {L : tL} {S : List Value} : rn ca C_X3_read 66 L S M = rn ca C_X3_read 13 L S M := (rn_at k_X3_read_66).trans rfl
theorem k_X3_read_69 : lk 69 C_X3_read = some (.return_, (0, 0, 0, 0)) := by decide +kernel
theorem s_X3_read_69 {ca : Nat → List Value → tM → tO} {M : tM} {L : tL} : rn ca C_X3_read 69 L [] M = some (none, M) := (rn_at k_X3_read_69).trans rfl
theorem k_X3_hear_0 : lk 0 C_X3_hear = some (.aload_n 2, (0, 0, 0, 0)) := by decide +kernel
theorem s_X3_hear_0 {ca : Nat → List Value → tM → tO} {M : tM} {a0 a1 a3 a4 : Option Value} {x : Nat} {S : List Value} : rn ca C_X3_hear 0 [a0, a1, some (.ref x), a3, a4] S M = rn ca C_X3_hear 1 [a0, a1, some (.ref x), a3, a4] (.ref x :: S) M := (rn_at k_X3_hear_0).trans rfl
theorem k_X3_hear_1 : lk 1 C_X3_hear = some (.aload_n 1, (0, 0, 0, 0)) := by decide +kernel
theorem s_X3_hear_1 {ca : Nat → List Value → tM → tO} {M : tM} {a0 a2 a3 a4 : Option Value} {x : Nat} {S : List Value} : rn ca C_X3_hear 1 [a0, some (.ref x), a2, a3, a4] S M = rn ca C_X3_hear 2 [a0, some (.ref x), a2, a3, a4] (.ref x :: S) M := (rn_at k_X3_hear_1).trans rfl
theorem k_X3_hear_2 : lk 2 C_X3_hear = some (.invokevirtual 38, (80, 1, 9, 955)) := by decide +kernel
theorem s_X3_hear_2 {ca : Nat → List Value → tM → tO} {M : tM} {L : tL} {v1 : Value} {b : Nat} : rn ca C_X3_hear 2 L [v1, .ref b] M = if clsO b = some 9 then rnk ca C_X3_hear 5 L [] (ca m_X9_prepareForKnocks [.ref b, v1] M) else none := (rn_at k_X3_hear_2).trans rnx_ite
theorem k_X3_hear_5 : lk 5 C_X3_hear = some (.aload_n 2, (0, 0, 0, 0)) := by decide +kernel
theorem s_X3_hear_5 {ca : Nat → List Value → tM → tO} {M : tM} {a0 a1 a3 a4 : Option Value} {x : Nat} {S : List Value} : rn ca C_X3_hear 5 [a0, a1, some (.ref x), a3, a4] S M = rn ca C_X3_hear 6 [a0, a1, some (.ref x), a3, a4] (.ref x :: S) M := (rn_at k_X3_hear_5).trans rfl
theorem k_X3_hear_6 : lk 6 C_X3_hear = some (.aload_n 1, (0, 0, 0, 0)) := by decide +kernel
theorem s_X3_hear_6 {ca : Nat → List Value → tM → tO} {M : tM} {a0 a2 a3 a4 : Option Value} {x : Nat} {S : List Value} : rn ca C_X3_hear 6 [a0, some (.ref x), a2, a3, a4] S M = rn ca C_X3_hear 7 [a0, some (.ref x), a2, a3, a4] (.ref x :: S) M := (rn_at k_X3_hear_6).trans rfl
theorem k_X3_hear_7 : lk 7 C_X3_hear = some (.invokevirtual 44, (84, 1, 9, 960)) := by decide +kernel
theorem s_X3_hear_7 {ca : Nat → List Value → tM → tO} {M : tM} {L : tL} {v1 : Value} {b : Nat} : rn ca C_X3_hear 7 L [v1, .ref b] M = if clsO b = some 9 then rnk ca C_X3_hear 10 L [] (ca m_X9_fillTable [.ref b, v1] M) else none := (rn_at k_X3_hear_7).trans rnx_ite
theorem k_X3_hear_10 : lk 10 C_X3_hear = some (.iconst 0, (0, 0, 0, 0)) := by decide +kernel
theorem s_X3_hear_10 {ca : Nat → List Value → tM → tO} {M : tM} {L : tL} {S : List Value} : rn ca C_X3_hear 10 L S M = rn ca C_X3_hear 11 L (.int (iI 0) :: S) M := (rn_at k_X3_hear_10).trans rfl
theorem k_X3_hear_11 : lk 11 C_X3_hear = some (.istore_n 3, (0, 0, 0, 0)) := by decide +kernel
theorem s_X3_hear_11 {ca : Nat → List Value → tM → tO} {M : tM} {a0 a1 a2 a3 a4 : Option Value} {x : Int32} {S : List Value} : rn ca C_X3_hear 11 [a0, a1, a2, a3, a4] (.int x :: S) M = rn ca C_X3_hear 12 [a0, a1, a2, some (.int x), a4] S M := (rn_at k_X3_hear_11).trans rfl
theorem k_X3_hear_12 : lk 12 C_X3_hear = some (.iload_n 3, (0, 0, 0, 0)) := by decide +kernel
theorem s_X3_hear_12 {ca : Nat → List Value → tM → tO} {M : tM} {a0 a1 a2 a4 : Option Value} {x : Int32} {S : List Value} : rn ca C_X3_hear 12 [a0, a1, a2, some (.int x), a4] S M = rn ca C_X3_hear 13 [a0, a1, a2, some (.int x), a4] (.int x :: S) M := (rn_at k_X3_hear_12).trans rfl
theorem k_X3_hear_13 : lk 13 C_X3_hear = some (.aload_n 1, (0, 0, 0, 0)) := by decide +kernel
theorem s_X3_hear_13 {ca : Nat → List Value → tM → tO} {M : tM} {a0 a2 a3 a4 : Option Value} {x : Nat} {S : List Value} : rn ca C_X3_hear 13 [a0, some (.ref x), a2, a3, a4] S M = rn ca C_X3_hear 14 [a0, some (.ref x), a2, a3, a4] (.ref x :: S) M := (rn_at k_X3_hear_13).trans rfl
theorem k_X3_hear_14 : lk 14 C_X3_hear = some (.getfield 47, (4, 2, 0, 100009)) := by decide +kernel
theorem s_X3_hear_14 {ca : Nat → List Value → tM → tO} {M : tM} {L : tL} {b : Nat} {S : List Value} : rn ca C_X3_hear 14 L (.ref b :: S) M = if clsO b = some 4 then rn ca C_X3_hear 17 L (fv M b 2 :: S) M else none := (rn_at k_X3_hear_14).trans rnx_ite
theorem k_X3_hear_17 : lk 17 C_X3_hear = some (.if_icmp .ge 76, (93, 0, 0, 0)) := by decide +kernel
theorem s_X3_hear_17 {ca : Nat → List Value → tM → tO} {M : tM} {L : tL} {x y : Int32} {S : List Value} : rn ca C_X3_hear 17 L (.int y :: .int x :: S) M = if y ≤ x then rn ca C_X3_hear 93 L S M else rn ca C_X3_hear 20 L S M := (rn_at k_X3_hear_17).trans rnx_ite
theorem k_X3_hear_20 : lk 20 C_X3_hear = some (.iload_n 3, (0, 0, 0, 0)) := by decide +kernel
theorem s_X3_hear_20 {ca : Nat → List Value → tM → tO} {M : tM} {a0 a1 a2 a4 : Option Value} {x : Int32} {S : List Value} : rn ca C_X3_hear 20 [a0, a1, a2, some (.int x), a4] S M = rn ca C_X3_hear 21 [a0, a1, a2, some (.int x), a4] (.int x :: S) M := (rn_at k_X3_hear_20).trans rfl
theorem k_X3_hear_21 : lk 21 C_X3_hear = some (.bipush 16, (0, 0, 0, 0)) := by decide +kernel
theorem s_X3_hear_21 {ca : Nat → List Value → tM → tO} {M : tM} {L : tL} {S : List Value} : rn ca C_X3_hear 21 L S M = rn ca C_X3_hear 23 L (.int (iI 16) :: S) M := (rn_at k_X3_hear_21).trans rfl
theorem k_X3_hear_23 : lk 23 C_X3_hear = some (.if_icmp .ge 70, (93, 0, 0, 0)) := by decide +kernel
theorem s_X3_hear_23 {ca : Nat → List Value → tM → tO} {M : tM} {L : tL} {x y : Int32} {S : List Value} : rn ca C_X3_hear 23 L (.int y :: .int x :: S) M = if y ≤ x then rn ca C_X3_hear 93 L S M else rn ca C_X3_hear 26 L S M := (rn_at k_X3_hear_23).trans rnx_ite
theorem k_X3_hear_26 : lk 26 C_X3_hear = some (.iconst 0, (0, 0, 0, 0)) := by decide +kernel
theorem s_X3_hear_26 {ca : Nat → List Value → tM → tO} {M : tM} {L : tL} {S : List Value} : rn ca C_X3_hear 26 L S M = rn ca C_X3_hear 27 L (.int (iI 0) :: S) M := (rn_at k_X3_hear_26).trans rfl
theorem k_X3_hear_27 : lk 27 C_X3_hear = some (.istore 4, (0, 0, 0, 0)) := by decide +kernel
theorem s_X3_hear_27 {ca : Nat → List Value → tM → tO} {M : tM} {a0 a1 a2 a3 a4 : Option Value} {x : Int32} {S : List Value} : rn ca C_X3_hear 27 [a0, a1, a2, a3, a4] (.int x :: S) M = rn ca C_X3_hear 29 [a0, a1, a2, a3, some (.int x)] S M := (rn_at k_X3_hear_27).trans rfl
theorem k_X3_hear_29 : lk 29 C_X3_hear = some (.iload 4, (0, 0, 0, 0)) := by decide +kernel
theorem s_X3_hear_29 {ca : Nat → List Value → tM → tO} {M : tM} {a0 a1 a2 a3 : Option Value} {x : Int32} {S : List Value} : rn ca C_X3_hear 29 [a0, a1, a2, a3, some (.int x)] S M = rn ca C_X3_hear 31 [a0, a1, a2, a3, some (.int x)] (.int x :: S) M := (rn_at k_X3_hear_29).trans rfl
theorem k_X3_hear_31 : lk 31 C_X3_hear = some (.aload_n 1, (0, 0, 0, 0)) := by decide +kernel
theorem s_X3_hear_31 {ca : Nat → List Value → tM → tO} {M : tM} {a0 a2 a3 a4 : Option Value} {x : Nat} {S : List Value} : rn ca C_X3_hear 31 [a0, some (.ref x), a2, a3, a4] S M = rn ca C_X3_hear 32 [a0, some (.ref x), a2, a3, a4] (.ref x :: S) M := (rn_at k_X3_hear_31).trans rfl
theorem k_X3_hear_32 : lk 32 C_X3_hear = some (.getfield 52, (4, 0, 0, 100001)) := by decide +kernel
theorem s_X3_hear_32 {ca : Nat → List Value → tM → tO} {M : tM} {L : tL} {b : Nat} {S : List Value} : rn ca C_X3_hear 32 L (.ref b :: S) M = if clsO b = some 4 then rn ca C_X3_hear 35 L (fv M b 0 :: S) M else none := (rn_at k_X3_hear_32).trans rnx_ite
theorem k_X3_hear_35 : lk 35 C_X3_hear = some (.if_icmp .ge 52, (87, 0, 0, 0)) := by decide +kernel
theorem s_X3_hear_35 {ca : Nat → List Value → tM → tO} {M : tM} {L : tL} {x y : Int32} {S : List Value} : rn ca C_X3_hear 35 L (.int y :: .int x :: S) M = if y ≤ x then rn ca C_X3_hear 87 L S M else rn ca C_X3_hear 38 L S M := (rn_at k_X3_hear_35).trans rnx_ite
theorem k_X3_hear_38 : lk 38 C_X3_hear = some (.iload 4, (0, 0, 0, 0)) := by decide +kernel
theorem s_X3_hear_38 {ca : Nat → List Value → tM → tO} {M : tM} {a0 a1 a2 a3 : Option Value} {x : Int32} {S : List Value} : rn ca C_X3_hear 38 [a0, a1, a2, a3, some (.int x)] S M = rn ca C_X3_hear 40 [a0, a1, a2, a3, some (.int x)] (.int x :: S) M := (rn_at k_X3_hear_38).trans rfl
theorem k_X3_hear_40 : lk 40 C_X3_hear = some (.bipush 8, (0, 0, 0, 0)) := by decide +kernel
theorem s_X3_hear_40 {ca : Nat → List Value → tM → tO} {M : tM} {L : tL} {S : List Value} : rn ca C_X3_hear 40 L S M = rn ca C_X3_hear 42 L (.int (iI 8) :: S) M := (rn_at k_X3_hear_40).trans rfl
theorem k_X3_hear_42 : lk 42 C_X3_hear = some (.if_icmp .ge 45, (87, 0, 0, 0)) := by decide +kernel
theorem s_X3_hear_42 {ca : Nat → List Value → tM → tO} {M : tM} {L : tL} {x y : Int32} {S : List Value} : rn ca C_X3_hear 42 L (.int y :: .int x :: S) M = if y ≤ x then rn ca C_X3_hear 87 L S M else rn ca C_X3_hear 45 L S M := (rn_at k_X3_hear_42).trans rnx_ite
theorem k_X3_hear_45 : lk 45 C_X3_hear = some (.aload_n 0, (0, 0, 0, 0)) := by decide +kernel
theorem s_X3_hear_45 {ca : Nat → List Value → tM → tO} {M : tM} {a1 a2 a3 a4 : Option Value} {x : Nat} {S : List Value} : rn ca C_X3_hear 45 [some (.ref x), a1, a2, a3, a4] S M = rn ca C_X3_hear 46 [some (.ref x), a1, a2, a3, a4] (.ref x :: S) M := (rn_at k_X3_hear_45).trans rfl
theorem k_X3_hear_46 : lk 46 C_X3_hear = some (.getfield 24, (3, 3, 0, 113)) := by decide +kernel
theorem s_X3_hear_46 {ca : Nat → List Value → tM → tO} {M : tM} {L : tL} {b : Nat} {S : List Value} : rn ca C_X3_hear 46 L (.ref b :: S) M = if clsO b = some 3 then rn ca C_X3_hear 49 L (fv M b 3 :: S) M else none := (rn_at k_X3_hear_46).trans rnx_ite
theorem k_X3_hear_49 : lk 49 C_X3_hear = some (.iload_n 3, (0, 0, 0, 0)) := by decide +kernel
theorem s_X3_hear_49 {ca : Nat → List Value → tM → tO} {M : tM} {a0 a1 a2 a4 : Option Value} {x : Int32} {S : List Value} : rn ca C_X3_hear 49 [a0, a1, a2, some (.int x), a4] S M = rn ca C_X3_hear 50 [a0, a1, a2, some (.int x), a4] (.int x :: S) M := (rn_at k_X3_hear_49).trans rfl
theorem k_X3_hear_50 : lk 50 C_X3_hear = some (.aaload, (0, 0, 0, 0)) := by decide +kernel
theorem s_X3_hear_50 {ca : Nat → List Value → tM → tO} {M : tM} {L : tL} {a : Nat} {i : Int32} {S : List Value} : rn ca C_X3_hear 50 L (.int i :: .ref a :: S) M = if (akind a = 3 ∨ akind a = 4 ∨ akind a = 5) ∧ inb i (alen M a) then rn ca C_X3_hear 51 L (.ref (rfe a i.toInt.toNat) :: S) M else none := (rn_at k_X3_hear_50).trans rnx_ite
theorem k_X3_hear_51 : lk 51 C_X3_hear = some (.iload 4, (0, 0, 0, 0)) := by decide +kernel
theorem s_X3_hear_51 {ca : Nat → List Value → tM → tO} {M : tM} {a0 a1 a2 a3 : Option Value} {x : Int32} {S : List Value} : rn ca C_X3_hear 51 [a0, a1, a2, a3, some (.int x)] S M = rn ca C_X3_hear 53 [a0, a1, a2, a3, some (.int x)] (.int x :: S) M := (rn_at k_X3_hear_51).trans rfl
theorem k_X3_hear_53 : lk 53 C_X3_hear = some (.aload_n 2, (0, 0, 0, 0)) := by decide +kernel
theorem s_X3_hear_53 {ca : Nat → List Value → tM → tO} {M : tM} {a0 a1 a3 a4 : Option Value} {x : Nat} {S : List Value} : rn ca C_X3_hear 53 [a0, a1, some (.ref x), a3, a4] S M = rn ca C_X3_hear 54 [a0, a1, some (.ref x), a3, a4] (.ref x :: S) M := (rn_at k_X3_hear_53).trans rfl
theorem k_X3_hear_54 : lk 54 C_X3_hear = some (.aload_n 1, (0, 0, 0, 0)) := by decide +kernel
theorem s_X3_hear_54 {ca : Nat → List Value → tM → tO} {M : tM} {a0 a2 a3 a4 : Option Value} {x : Nat} {S : List Value} : rn ca C_X3_hear 54 [a0, some (.ref x), a2, a3, a4] S M = rn ca C_X3_hear 55 [a0, some (.ref x), a2, a3, a4] (.ref x :: S) M := (rn_at k_X3_hear_54).trans rfl
theorem k_X3_hear_55 : lk 55 C_X3_hear = some (.getfield 55, (4, 3, 0, 100013)) := by decide +kernel
theorem s_X3_hear_55 {ca : Nat → List Value → tM → tO} {M : tM} {L : tL} {b : Nat} {S : List Value} : rn ca C_X3_hear 55 L (.ref b :: S) M = if clsO b = some 4 then rn ca C_X3_hear 58 L (fv M b 3 :: S) M else none := (rn_at k_X3_hear_55).trans rnx_ite
theorem k_X3_hear_58 : lk 58 C_X3_hear = some (.iload_n 3, (0, 0, 0, 0)) := by decide +kernel
theorem s_X3_hear_58 {ca : Nat → List Value → tM → tO} {M : tM} {a0 a1 a2 a4 : Option Value} {x : Int32} {S : List Value} : rn ca C_X3_hear 58 [a0, a1, a2, some (.int x), a4] S M = rn ca C_X3_hear 59 [a0, a1, a2, some (.int x), a4] (.int x :: S) M := (rn_at k_X3_hear_58).trans rfl
theorem k_X3_hear_59 : lk 59 C_X3_hear = some (.iaload, (0, 0, 0, 0)) := by decide +kernel
theorem s_X3_hear_59 {ca : Nat → List Value → tM → tO} {M : tM} {L : tL} {a : Nat} {i : Int32} {S : List Value} : rn ca C_X3_hear 59 L (.int i :: .ref a :: S) M = if (akind a = 0 ∨ akind a = 6 ∨ akind a = 7) ∧ inb i (alen M a) then rn ca C_X3_hear 60 L (.int (M.1 a i.toInt.toNat) :: S) M else none := (rn_at k_X3_hear_59).trans rnx_ite
theorem k_X3_hear_60 : lk 60 C_X3_hear = some (.iload 4, (0, 0, 0, 0)) := by decide +kernel
theorem s_X3_hear_60 {ca : Nat → List Value → tM → tO} {M : tM} {a0 a1 a2 a3 : Option Value} {x : Int32} {S : List Value} : rn ca C_X3_hear 60 [a0, a1, a2, a3, some (.int x)] S M = rn ca C_X3_hear 62 [a0, a1, a2, a3, some (.int x)] (.int x :: S) M := (rn_at k_X3_hear_60).trans rfl
theorem k_X3_hear_62 : lk 62 C_X3_hear = some (.invokevirtual 58, (85, 2, 9, 961)) := by decide +kernel
theorem s_X3_hear_62 {ca : Nat → List Value → tM → tO} {M : tM} {L : tL} {v1 v2 : Value} {r0 : Int32} {r1 : Nat} {b : Nat} : rn ca C_X3_hear 62 L [v2, v1, .ref b, .int r0, .ref r1] M = if clsO b = some 9 then rnk ca C_X3_hear 65 L [.int r0, .ref r1] (ca m_X9_between [.ref b, v1, v2] M) else none := (rn_at k_X3_hear_62).trans rnx_ite
theorem k_X3_hear_65 : lk 65 C_X3_hear = some (.aload_n 2, (0, 0, 0, 0)) := by decide +kernel
theorem s_X3_hear_65 {ca : Nat → List Value → tM → tO} {M : tM} {a0 a1 a3 a4 : Option Value} {x : Nat} {S : List Value} : rn ca C_X3_hear 65 [a0, a1, some (.ref x), a3, a4] S M = rn ca C_X3_hear 66 [a0, a1, some (.ref x), a3, a4] (.ref x :: S) M := (rn_at k_X3_hear_65).trans rfl
theorem k_X3_hear_66 : lk 66 C_X3_hear = some (.aload_n 1, (0, 0, 0, 0)) := by decide +kernel
theorem s_X3_hear_66 {ca : Nat → List Value → tM → tO} {M : tM} {a0 a2 a3 a4 : Option Value} {x : Nat} {S : List Value} : rn ca C_X3_hear 66 [a0, some (.ref x), a2, a3, a4] S M = rn ca C_X3_hear 67 [a0, some (.ref x), a2, a3, a4] (.ref x :: S) M := (rn_at k_X3_hear_66).trans rfl
theorem k_X3_hear_67 : lk 67 C_X3_hear = some (.getfield 61, (4, 4, 0, 100018)) := by decide +kernel
theorem s_X3_hear_67 {ca : Nat → List Value → tM → tO} {M : tM} {L : tL} {b : Nat} {S : List Value} : rn ca C_X3_hear 67 L (.ref b :: S) M = if clsO b = some 4 then rn ca C_X3_hear 70 L (fv M b 4 :: S) M else none := (rn_at k_X3_hear_67).trans rnx_ite
theorem k_X3_hear_70 : lk 70 C_X3_hear = some (.iload_n 3, (0, 0, 0, 0)) := by decide +kernel
theorem s_X3_hear_70 {ca : Nat → List Value → tM → tO} {M : tM} {a0 a1 a2 a4 : Option Value} {x : Int32} {S : List Value} : rn ca C_X3_hear 70 [a0, a1, a2, some (.int x), a4] S M = rn ca C_X3_hear 71 [a0, a1, a2, some (.int x), a4] (.int x :: S) M := (rn_at k_X3_hear_70).trans rfl
theorem k_X3_hear_71 : lk 71 C_X3_hear = some (.iaload, (0, 0, 0, 0)) := by decide +kernel
theorem s_X3_hear_71 {ca : Nat → List Value → tM → tO} {M : tM} {L : tL} {a : Nat} {i : Int32} {S : List Value} : rn ca C_X3_hear 71 L (.int i :: .ref a :: S) M = if (akind a = 0 ∨ akind a = 6 ∨ akind a = 7) ∧ inb i (alen M a) then rn ca C_X3_hear 72 L (.int (M.1 a i.toInt.toNat) :: S) M else none := (rn_at k_X3_hear_71).trans rnx_ite
theorem k_X3_hear_72 : lk 72 C_X3_hear = some (.iload 4, (0, 0, 0, 0)) := by decide +kernel
theorem s_X3_hear_72 {ca : Nat → List Value → tM → tO} {M : tM} {a0 a1 a2 a3 : Option Value} {x : Int32} {S : List Value} : rn ca C_X3_hear 72 [a0, a1, a2, a3, some (.int x)] S M = rn ca C_X3_hear 74 [a0, a1, a2, a3, some (.int x)] (.int x :: S) M := (rn_at k_X3_hear_72).trans rfl
theorem k_X3_hear_74 : lk 74 C_X3_hear = some (.invokevirtual 58, (85, 2, 9, 961)) := by decide +kernel
theorem s_X3_hear_74 {ca : Nat → List Value → tM → tO} {M : tM} {L : tL} {v1 v2 : Value} {r0 : Int32} {r1 : Int32} {r2 : Nat} {b : Nat} : rn ca C_X3_hear 74 L [v2, v1, .ref b, .int r0, .int r1, .ref r2] M = if clsO b = some 9 then rnk ca C_X3_hear 77 L [.int r0, .int r1, .ref r2] (ca m_X9_between [.ref b, v1, v2] M) else none := (rn_at k_X3_hear_74).trans rnx_ite
theorem k_X3_hear_77 : lk 77 C_X3_hear = some (.invokestatic 27, (0, 2, 3, 949)) := by decide +kernel
theorem s_X3_hear_77 {ca : Nat → List Value → tM → tO} {M : tM} {L : tL} {x y : Int32} {r0 : Int32} {r1 : Nat} : rn ca C_X3_hear 77 L [.int y, .int x, .int r0, .ref r1] M = rn ca C_X3_hear 80 L [.int (mnI x y), .int r0, .ref r1] M := (rn_at k_X3_hear_77).trans rfl
theorem k_X3_hear_80 : lk 80 C_X3_hear = some (.iastore, (0, 0, 0, 0)) := by decide +kernel
theorem s_X3_hear_80 {ca : Nat → List Value → tM → tO} {M : tM} {L : tL} {a : Nat} {i x : Int32} {S : List Value} : rn ca C_X3_hear 80 L (.int x :: .int i :: .ref a :: S) M = if akind a = 0 ∧ inb i (alen M a) then rn ca C_X3_hear 81 L S (sI M a i.toInt.toNat x) else none := (rn_at k_X3_hear_80).trans rnx_ite
theorem k_X3_hear_81 : lk 81 C_X3_hear = some (.iinc 4 1, (0, 0, 0, 0)) := by decide +kernel
theorem s_X3_hear_81 {ca : Nat → List Value → tM → tO} {M : tM} {a0 a1 a2 a3 : Option Value} {x : Int32} {S : List Value} : rn ca C_X3_hear 81 [a0, a1, a2, a3, some (.int x)] S M = rn ca C_X3_hear 84 [a0, a1, a2, a3, some (.int (x + iI 1))] S M := (rn_at k_X3_hear_81).trans rfl
theorem k_X3_hear_84 : lk 84 C_X3_hear = some (.goto (-55), (29, 0, 0, 0)) := by decide +kernel
theorem s_X3_hear_84 {ca : Nat → List Value → tM → tO} {M : tM} {L : tL} {S : List Value} : rn ca C_X3_hear 84 L S M = rn ca C_X3_hear 29 L S M := (rn_at k_X3_hear_84).trans rfl
theorem k_X3_hear_87 : lk 87 C_X3_hear = some (.iinc 3 1, (0, 0, 0, 0)) := by decide +kernel
theorem s_X3_hear_87 {ca : Nat → List Value → tM → tO} {M : tM} {a0 a1 a2 a4 : Option Value} {x : Int32} {S : List Value} : rn ca C_X3_hear 87 [a0, a1, a2, some (.int x), a4] S M = rn ca C_X3_hear 90 [a0, a1, a2, some (.int (x + iI 1)), a4] S M := (rn_at k_X3_hear_87).trans rfl
theorem k_X3_hear_90 : lk 90 C_X3_hear = some (.goto (-78), (12, 0, 0, 0)) := by decide +kernel
theorem s_X3_hear_90 {ca : Nat → List Value → tM → tO} {M : tM} {L : tL} {S : List Value} : rn ca C_X3_hear 90 L S M = rn ca C_X3_hear 12 L S M := (rn_at k_X3_hear_90).trans rfl
theorem k_X3_hear_93 : lk 93 C_X3_hear = some (.return_, (0, 0, 0, 0)) := by decide +kernel
theorem s_X3_hear_93 {ca : Nat → List Value → tM → tO} {M : tM} {L : tL} : rn ca C_X3_hear 93 L [] M = some (none, M) := (rn_at k_X3_hear_93).trans rfl
theorem k_X3_fittingTubes_0 : lk 0 C_X3_fittingTubes = some (.iconst 0, (0, 0, 0, 0)) := by decide +kernel
theorem s_X3_fittingTubes_0 {ca : Nat → List Value → tM → tO} {M : tM} {L : tL} {S : List Value} : rn ca C_X3_fittingTubes 0 L S M = rn ca C_X3_fittingTubes 1 L (.int (iI 0) :: S) M := (rn_at k_X3_fittingTubes_0).trans rfl
theorem k_X3_fittingTubes_1 : lk 1 C_X3_fittingTubes = some (.istore_n 2, (0, 0, 0, 0)) := by decide +kernel
theorem s_X3_fittingTubes_1 {ca : Nat → List Value → tM → tO} {M : tM} {a0 a1 a2 a3 : Option Value} {x : Int32} {S : List Value} : rn ca C_X3_fittingTubes 1 [a0, a1, a2, a3] (.int x :: S) M = rn ca C_X3_fittingTubes 2 [a0, a1, some (.int x), a3] S M := (rn_at k_X3_fittingTubes_1).trans rfl
theorem k_X3_fittingTubes_2 : lk 2 C_X3_fittingTubes = some (.iconst 0, (0, 0, 0, 0)) := by decide +kernel
theorem s_X3_fittingTubes_2 {ca : Nat → List Value → tM → tO} {M : tM} {L : tL} {S : List Value} : rn ca C_X3_fittingTubes 2 L S M = rn ca C_X3_fittingTubes 3 L (.int (iI 0) :: S) M := (rn_at k_X3_fittingTubes_2).trans rfl
theorem k_X3_fittingTubes_3 : lk 3 C_X3_fittingTubes = some (.istore_n 3, (0, 0, 0, 0)) := by decide +kernel
theorem s_X3_fittingTubes_3 {ca : Nat → List Value → tM → tO} {M : tM} {a0 a1 a2 a3 : Option Value} {x : Int32} {S : List Value} : rn ca C_X3_fittingTubes 3 [a0, a1, a2, a3] (.int x :: S) M = rn ca C_X3_fittingTubes 4 [a0, a1, a2, some (.int x)] S M := (rn_at k_X3_fittingTubes_3).trans rfl
theorem k_X3_fittingTubes_4 : lk 4 C_X3_fittingTubes = some (.iload_n 3, (0, 0, 0, 0)) := by decide +kernel
theorem s_X3_fittingTubes_4 {ca : Nat → List Value → tM → tO} {M : tM} {a0 a1 a2 : Option Value} {x : Int32} {S : List Value} : rn ca C_X3_fittingTubes 4 [a0, a1, a2, some (.int x)] S M = rn ca C_X3_fittingTubes 5 [a0, a1, a2, some (.int x)] (.int x :: S) M := (rn_at k_X3_fittingTubes_4).trans rfl
theorem k_X3_fittingTubes_5 : lk 5 C_X3_fittingTubes = some (.aload_n 1, (0, 0, 0, 0)) := by decide +kernel
theorem s_X3_fittingTubes_5 {ca : Nat → List Value → tM → tO} {M : tM} {a0 a2 a3 : Option Value} {x : Nat} {S : List Value} : rn ca C_X3_fittingTubes 5 [a0, some (.ref x), a2, a3] S M = rn ca C_X3_fittingTubes 6 [a0, some (.ref x), a2, a3] (.ref x :: S) M := (rn_at k_X3_fittingTubes_5).trans rfl
theorem k_X3_fittingTubes_6 : lk 6 C_X3_fittingTubes = some (.getfield 47, (4, 2, 0, 100009)) := by decide +kernel
theorem s_X3_fittingTubes_6 {ca : Nat → List Value → tM → tO} {M : tM} {L : tL} {b : Nat} {S : List Value} : rn ca C_X3_fittingTubes 6 L (.ref b :: S) M = if clsO b = some 4 then rn ca C_X3_fittingTubes 9 L (fv M b 2 :: S) M else none := (rn_at k_X3_fittingTubes_6).trans rnx_ite
theorem k_X3_fittingTubes_9 : lk 9 C_X3_fittingTubes = some (.if_icmp .ge 30, (39, 0, 0, 0)) := by decide +kernel
theorem s_X3_fittingTubes_9 {ca : Nat → List Value → tM → tO} {M : tM} {L : tL} {x y : Int32} {S : List Value} : rn ca C_X3_fittingTubes 9 L (.int y :: .int x :: S) M = if y ≤ x then rn ca C_X3_fittingTubes 39 L S M else rn ca C_X3_fittingTubes 12 L S M := (rn_at k_X3_fittingTubes_9).trans rnx_ite
theorem k_X3_fittingTubes_12 : lk 12 C_X3_fittingTubes = some (.iload_n 3, (0, 0, 0, 0)) := by decide +kernel
theorem s_X3_fittingTubes_12 {ca : Nat → List Value → tM → tO} {M : tM} {a0 a1 a2 : Option Value} {x : Int32} {S : List Value} : rn ca C_X3_fittingTubes 12 [a0, a1, a2, some (.int x)] S M = rn ca C_X3_fittingTubes 13 [a0, a1, a2, some (.int x)] (.int x :: S) M := (rn_at k_X3_fittingTubes_12).trans rfl
theorem k_X3_fittingTubes_13 : lk 13 C_X3_fittingTubes = some (.bipush 16, (0, 0, 0, 0)) := by decide +kernel
theorem s_X3_fittingTubes_13 {ca : Nat → List Value → tM → tO} {M : tM} {L : tL} {S : List Value} : rn ca C_X3_fittingTubes 13 L S M = rn ca C_X3_fittingTubes 15 L (.int (iI 16) :: S) M := (rn_at k_X3_fittingTubes_13).trans rfl
theorem k_X3_fittingTubes_15 : lk 15 C_X3_fittingTubes = some (.if_icmp .ge 24, (39, 0, 0, 0)) := by decide +kernel
theorem s_X3_fittingTubes_15 {ca : Nat → List Value → tM → tO} {M : tM} {L : tL} {x y : Int32} {S : List Value} : rn ca C_X3_fittingTubes 15 L (.int y :: .int x :: S) M = if y ≤ x then rn ca C_X3_fittingTubes 39 L S M else rn ca C_X3_fittingTubes 18 L S M := (rn_at k_X3_fittingTubes_15).trans rnx_ite
theorem k_X3_fittingTubes_18 : lk 18 C_X3_fittingTubes = some (.aload_n 0, (0, 0, 0, 0)) := by decide +kernel
theorem s_X3_fittingTubes_18 {ca : Nat → List Value → tM → tO} {M : tM} {a1 a2 a3 : Option Value} {x : Nat} {S : List Value} : rn ca C_X3_fittingTubes 18 [some (.ref x), a1, a2, a3] S M = rn ca C_X3_fittingTubes 19 [some (.ref x), a1, a2, a3] (.ref x :: S) M := (rn_at k_X3_fittingTubes_18).trans rfl
theorem k_X3_fittingTubes_19 : lk 19 C_X3_fittingTubes = some (.aload_n 1, (0, 0, 0, 0)) := by decide +kernel
theorem s_X3_fittingTubes_19 {ca : Nat → List Value → tM → tO} {M : tM} {a0 a2 a3 : Option Value} {x : Nat} {S : List Value} : rn ca C_X3_fittingTubes 19 [a0, some (.ref x), a2, a3] S M = rn ca C_X3_fittingTubes 20 [a0, some (.ref x), a2, a3] (.ref x :: S) M := (rn_at k_X3_fittingTubes_19).trans rfl
theorem k_X3_fittingTubes_20 : lk 20 C_X3_fittingTubes = some (.iload_n 3, (0, 0, 0, 0)) := by decide +kernel
theorem s_X3_fittingTubes_20 {ca : Nat → List Value → tM → tO} {M : tM} {a0 a1 a2 : Option Value} {x : Int32} {S : List Value} : rn ca C_X3_fittingTubes 20 [a0, a1, a2, some (.int x)] S M = rn ca C_X3_fittingTubes 21 [a0, a1, a2, some (.int x)] (.int x :: S) M := (rn_at k_X3_fittingTubes_20).trans rfl
theorem k_X3_fittingTubes_21 : lk 21 C_X3_fittingTubes = some (.invokevirtual 64, (14, 2, 3, 966)) := by decide +kernel
theorem s_X3_fittingTubes_21 {ca : Nat → List Value → tM → tO} {M : tM} {L : tL} {v1 v2 : Value} {b : Nat} : rn ca C_X3_fittingTubes 21 L [v2, v1, .ref b] M = if clsO b = some 3 then rnk ca C_X3_fittingTubes 24 L [] (ca m_X3_fits [.ref b, v1, v2] M) else none := (rn_at k_X3_fittingTubes_21).trans rnx_ite
theorem k_X3_fittingTubes_24 : lk 24 C_X3_fittingTubes = some (.ifCond .eq 9, (33, 0, 0, 0)) := by decide +kernel
theorem s_X3_fittingTubes_24 {ca : Nat → List Value → tM → tO} {M : tM} {L : tL} {x : Int32} {S : List Value} : rn ca C_X3_fittingTubes 24 L (.int x :: S) M = if x = iI 0 then rn ca C_X3_fittingTubes 33 L S M else rn ca C_X3_fittingTubes 27 L S M := (rn_at k_X3_fittingTubes_24).trans rnx_ite
theorem k_X3_fittingTubes_27 : lk 27 C_X3_fittingTubes = some (.iload_n 2, (0, 0, 0, 0)) := by decide +kernel
theorem s_X3_fittingTubes_27 {ca : Nat → List Value → tM → tO} {M : tM} {a0 a1 a3 : Option Value} {x : Int32} {S : List Value} : rn ca C_X3_fittingTubes 27 [a0, a1, some (.int x), a3] S M = rn ca C_X3_fittingTubes 28 [a0, a1, some (.int x), a3] (.int x :: S) M := (rn_at k_X3_fittingTubes_27).trans rfl
theorem k_X3_fittingTubes_28 : lk 28 C_X3_fittingTubes = some (.iconst 1, (0, 0, 0, 0)) := by decide +kernel
theorem s_X3_fittingTubes_28 {ca : Nat → List Value → tM → tO} {M : tM} {L : tL} {S : List Value} : rn ca C_X3_fittingTubes 28 L S M = rn ca C_X3_fittingTubes 29 L (.int (iI 1) :: S) M := (rn_at k_X3_fittingTubes_28).trans rfl
theorem k_X3_fittingTubes_29 : lk 29 C_X3_fittingTubes = some (.iload_n 3, (0, 0, 0, 0)) := by decide +kernel
theorem s_X3_fittingTubes_29 {ca : Nat → List Value → tM → tO} {M : tM} {a0 a1 a2 : Option Value} {x : Int32} {S : List Value} : rn ca C_X3_fittingTubes 29 [a0, a1, a2, some (.int x)] S M = rn ca C_X3_fittingTubes 30 [a0, a1, a2, some (.int x)] (.int x :: S) M := (rn_at k_X3_fittingTubes_29).trans rfl
theorem k_X3_fittingTubes_30 : lk 30 C_X3_fittingTubes = some (.ishl, (0, 0, 0, 0)) := by decide +kernel
theorem s_X3_fittingTubes_30 {ca : Nat → List Value → tM → tO} {M : tM} {L : tL} {x y : Int32} {S : List Value} : rn ca C_X3_fittingTubes 30 L (.int y :: .int x :: S) M = rn ca C_X3_fittingTubes 31 L (.int (x <<< (y &&& 31)) :: S) M := (rn_at k_X3_fittingTubes_30).trans rfl
theorem k_X3_fittingTubes_31 : lk 31 C_X3_fittingTubes = some (.ior, (0, 0, 0, 0)) := by decide +kernel
theorem s_X3_fittingTubes_31 {ca : Nat → List Value → tM → tO} {M : tM} {L : tL} {x y : Int32} {S : List Value} : rn ca C_X3_fittingTubes 31 L (.int y :: .int x :: S) M = rn ca C_X3_fittingTubes 32 L (.int (x ||| y) :: S) M := (rn_at k_X3_fittingTubes_31).trans rfl
theorem k_X3_fittingTubes_32 : lk 32 C_X3_fittingTubes = some (.istore_n 2, (0, 0, 0, 0)) := by decide +kernel
theorem s_X3_fittingTubes_32 {ca : Nat → List Value → tM → tO} {M : tM} {a0 a1 a2 a3 : Option Value} {x : Int32} {S : List Value} : rn ca C_X3_fittingTubes 32 [a0, a1, a2, a3] (.int x :: S) M = rn ca C_X3_fittingTubes 33 [a0, a1, some (.int x), a3] S M := (rn_at k_X3_fittingTubes_32).trans rfl
theorem k_X3_fittingTubes_33 : lk 33 C_X3_fittingTubes = some (.iinc 3 1, (0, 0, 0, 0)) := by decide +kernel
theorem s_X3_fittingTubes_33 {ca : Nat → List Value → tM → tO} {M : tM} {a0 a1 a2 : Option Value} {x : Int32} {S : List Value} : rn ca C_X3_fittingTubes 33 [a0, a1, a2, some (.int x)] S M = rn ca C_X3_fittingTubes 36 [a0, a1, a2, some (.int (x + iI 1))] S M := (rn_at k_X3_fittingTubes_33).trans rfl
theorem k_X3_fittingTubes_36 : lk 36 C_X3_fittingTubes = some (.goto (-32), (4, 0, 0, 0)) := by decide +kernel
theorem s_X3_fittingTubes_36 {ca : Nat → List Value → tM → tO} {M : tM} {L : tL} {S : List Value} : rn ca C_X3_fittingTubes 36 L S M = rn ca C_X3_fittingTubes 4 L S M := (rn_at k_X3_fittingTubes_36).trans rfl
theorem k_X3_fittingTubes_39 : lk 39 C_X3_fittingTubes = some (.iload_n 2, (0, 0, 0, 0)) := by decide +kernel
theorem s_X3_fittingTubes_39 {ca : Nat → List Value → tM → tO} {M : tM} {a0 a1 a3 : Option Value} {x : Int32} {S : List Value} : rn ca C_X3_fittingTubes 39 [a0, a1, some (.int x), a3] S M = rn ca C_X3_fittingTubes 40 [a0, a1, some (.int x), a3] (.int x :: S) M := (rn_at k_X3_fittingTubes_39).trans rfl
theorem k_X3_fittingTubes_40 : lk 40 C_X3_fittingTubes = some (.ireturn, (0, 0, 0, 0)) := by decide +kernel
theorem s_X3_fittingTubes_40 {ca : Nat → List Value → tM → tO} {M : tM} {L : tL} {x : Int32} : rn ca C_X3_fittingTubes 40 L [.int x] M = some (some (.int x), M) := (rn_at k_X3_fittingTubes_40).trans rfl
theorem k_X3_fits_0 : lk 0 C_X3_fits = some (.iconst 0, (0, 0, 0, 0)) := by decide +kernel
theorem s_X3_fits_0 {ca : Nat → List Value → tM → tO} {M : tM} {L : tL} {S : List Value} : rn ca C_X3_fits 0 L S M = rn ca C_X3_fits 1 L (.int (iI 0) :: S) M := (rn_at k_X3_fits_0).trans rfl
theorem k_X3_fits_1 : lk 1 C_X3_fits = some (.istore_n 3, (0, 0, 0, 0)) := by decide +kernel
theorem s_X3_fits_1 {ca : Nat → List Value → tM → tO} {M : tM} {a0 a1 a2 a3 a4 a5 a6 : Option Value} {x : Int32} {S : List Value} : rn ca C_X3_fits 1 [a0, a1, a2, a3, a4, a5, a6] (.int x :: S) M = rn ca C_X3_fits 2 [a0, a1, a2, some (.int x), a4, a5, a6] S M := (rn_at k_X3_fits_1).trans rfl
theorem k_X3_fits_2 : lk 2 C_X3_fits = some (.iconst 0, (0, 0, 0, 0)) := by decide +kernel
theorem s_X3_fits_2 {ca : Nat → List Value → tM → tO} {M : tM} {L : tL} {S : List Value} : rn ca C_X3_fits 2 L S M = rn ca C_X3_fits 3 L (.int (iI 0) :: S) M := (rn_at k_X3_fits_2).trans rfl
theorem k_X3_fits_3 : lk 3 C_X3_fits = some (.istore 4, (0, 0, 0, 0)) := by decide +kernel
theorem s_X3_fits_3 {ca : Nat → List Value → tM → tO} {M : tM} {a0 a1 a2 a3 a4 a5 a6 : Option Value} {x : Int32} {S : List Value} : rn ca C_X3_fits 3 [a0, a1, a2, a3, a4, a5, a6] (.int x :: S) M = rn ca C_X3_fits 5 [a0, a1, a2, a3, some (.int x), a5, a6] S M := (rn_at k_X3_fits_3).trans rfl
theorem k_X3_fits_5 : lk 5 C_X3_fits = some (.iload 4, (0, 0, 0, 0)) := by decide +kernel
theorem s_X3_fits_5 {ca : Nat → List Value → tM → tO} {M : tM} {a0 a1 a2 a3 a5 a6 : Option Value} {x : Int32} {S : List Value} : rn ca C_X3_fits 5 [a0, a1, a2, a3, some (.int x), a5, a6] S M = rn ca C_X3_fits 7 [a0, a1, a2, a3, some (.int x), a5, a6] (.int x :: S) M := (rn_at k_X3_fits_5).trans rfl
theorem k_X3_fits_7 : lk 7 C_X3_fits = some (.aload_n 0, (0, 0, 0, 0)) := by decide +kernel
theorem s_X3_fits_7 {ca : Nat → List Value → tM → tO} {M : tM} {a1 a2 a3 a4 a5 a6 : Option Value} {x : Nat} {S : List Value} : rn ca C_X3_fits 7 [some (.ref x), a1, a2, a3, a4, a5, a6] S M = rn ca C_X3_fits 8 [some (.ref x), a1, a2, a3, a4, a5, a6] (.ref x :: S) M := (rn_at k_X3_fits_7).trans rfl
theorem k_X3_fits_8 : lk 8 C_X3_fits = some (.getfield 18, (3, 2, 0, 111)) := by decide +kernel
theorem s_X3_fits_8 {ca : Nat → List Value → tM → tO} {M : tM} {L : tL} {b : Nat} {S : List Value} : rn ca C_X3_fits 8 L (.ref b :: S) M = if clsO b = some 3 then rn ca C_X3_fits 11 L (fv M b 2 :: S) M else none := (rn_at k_X3_fits_8).trans rnx_ite
theorem k_X3_fits_11 : lk 11 C_X3_fits = some (.if_icmp .ge 86, (97, 0, 0, 0)) := by decide +kernel
theorem s_X3_fits_11 {ca : Nat → List Value → tM → tO} {M : tM} {L : tL} {x y : Int32} {S : List Value} : rn ca C_X3_fits 11 L (.int y :: .int x :: S) M = if y ≤ x then rn ca C_X3_fits 97 L S M else rn ca C_X3_fits 14 L S M := (rn_at k_X3_fits_11).trans rnx_ite
theorem k_X3_fits_14 : lk 14 C_X3_fits = some (.iload 4, (0, 0, 0, 0)) := by decide +kernel
theorem s_X3_fits_14 {ca : Nat → List Value → tM → tO} {M : tM} {a0 a1 a2 a3 a5 a6 : Option Value} {x : Int32} {S : List Value} : rn ca C_X3_fits 14 [a0, a1, a2, a3, some (.int x), a5, a6] S M = rn ca C_X3_fits 16 [a0, a1, a2, a3, some (.int x), a5, a6] (.int x :: S) M := (rn_at k_X3_fits_14).trans rfl
theorem k_X3_fits_16 : lk 16 C_X3_fits = some (.bipush 8, (0, 0, 0, 0)) := by decide +kernel
theorem s_X3_fits_16 {ca : Nat → List Value → tM → tO} {M : tM} {L : tL} {S : List Value} : rn ca C_X3_fits 16 L S M = rn ca C_X3_fits 18 L (.int (iI 8) :: S) M := (rn_at k_X3_fits_16).trans rfl
theorem k_X3_fits_18 : lk 18 C_X3_fits = some (.if_icmp .ge 79, (97, 0, 0, 0)) := by decide +kernel
theorem s_X3_fits_18 {ca : Nat → List Value → tM → tO} {M : tM} {L : tL} {x y : Int32} {S : List Value} : rn ca C_X3_fits 18 L (.int y :: .int x :: S) M = if y ≤ x then rn ca C_X3_fits 97 L S M else rn ca C_X3_fits 21 L S M := (rn_at k_X3_fits_18).trans rnx_ite
theorem k_X3_fits_21 : lk 21 C_X3_fits = some (.aload_n 0, (0, 0, 0, 0)) := by decide +kernel
theorem s_X3_fits_21 {ca : Nat → List Value → tM → tO} {M : tM} {a1 a2 a3 a4 a5 a6 : Option Value} {x : Nat} {S : List Value} : rn ca C_X3_fits 21 [some (.ref x), a1, a2, a3, a4, a5, a6] S M = rn ca C_X3_fits 22 [some (.ref x), a1, a2, a3, a4, a5, a6] (.ref x :: S) M := (rn_at k_X3_fits_21).trans rfl
theorem k_X3_fits_22 : lk 22 C_X3_fits = some (.getfield 9, (3, 0, 0, 109)) := by decide +kernel
theorem s_X3_fits_22 {ca : Nat → List Value → tM → tO} {M : tM} {L : tL} {b : Nat} {S : List Value} : rn ca C_X3_fits 22 L (.ref b :: S) M = if clsO b = some 3 then rn ca C_X3_fits 25 L (fv M b 0 :: S) M else none := (rn_at k_X3_fits_22).trans rnx_ite
theorem k_X3_fits_25 : lk 25 C_X3_fits = some (.iload 4, (0, 0, 0, 0)) := by decide +kernel
theorem s_X3_fits_25 {ca : Nat → List Value → tM → tO} {M : tM} {a0 a1 a2 a3 a5 a6 : Option Value} {x : Int32} {S : List Value} : rn ca C_X3_fits 25 [a0, a1, a2, a3, some (.int x), a5, a6] S M = rn ca C_X3_fits 27 [a0, a1, a2, a3, some (.int x), a5, a6] (.int x :: S) M := (rn_at k_X3_fits_25).trans rfl
theorem k_X3_fits_27 : lk 27 C_X3_fits = some (.iaload, (0, 0, 0, 0)) := by decide +kernel
theorem s_X3_fits_27 {ca : Nat → List Value → tM → tO} {M : tM} {L : tL} {a : Nat} {i : Int32} {S : List Value} : rn ca C_X3_fits 27 L (.int i :: .ref a :: S) M = if (akind a = 0 ∨ akind a = 6 ∨ akind a = 7) ∧ inb i (alen M a) then rn ca C_X3_fits 28 L (.int (M.1 a i.toInt.toNat) :: S) M else none := (rn_at k_X3_fits_27).trans rnx_ite
theorem k_X3_fits_28 : lk 28 C_X3_fits = some (.istore 5, (0, 0, 0, 0)) := by decide +kernel
theorem s_X3_fits_28 {ca : Nat → List Value → tM → tO} {M : tM} {a0 a1 a2 a3 a4 a5 a6 : Option Value} {x : Int32} {S : List Value} : rn ca C_X3_fits 28 [a0, a1, a2, a3, a4, a5, a6] (.int x :: S) M = rn ca C_X3_fits 30 [a0, a1, a2, a3, a4, some (.int x), a6] S M := (rn_at k_X3_fits_28).trans rfl
theorem k_X3_fits_30 : lk 30 C_X3_fits = some (.aload_n 1, (0, 0, 0, 0)) := by decide +kernel
theorem s_X3_fits_30 {ca : Nat → List Value → tM → tO} {M : tM} {a0 a2 a3 a4 a5 a6 : Option Value} {x : Nat} {S : List Value} : rn ca C_X3_fits 30 [a0, some (.ref x), a2, a3, a4, a5, a6] S M = rn ca C_X3_fits 31 [a0, some (.ref x), a2, a3, a4, a5, a6] (.ref x :: S) M := (rn_at k_X3_fits_30).trans rfl
theorem k_X3_fits_31 : lk 31 C_X3_fits = some (.iload 5, (0, 0, 0, 0)) := by decide +kernel
theorem s_X3_fits_31 {ca : Nat → List Value → tM → tO} {M : tM} {a0 a1 a2 a3 a4 a6 : Option Value} {x : Int32} {S : List Value} : rn ca C_X3_fits 31 [a0, a1, a2, a3, a4, some (.int x), a6] S M = rn ca C_X3_fits 33 [a0, a1, a2, a3, a4, some (.int x), a6] (.int x :: S) M := (rn_at k_X3_fits_31).trans rfl
theorem k_X3_fits_33 : lk 33 C_X3_fits = some (.invokevirtual 68, (18, 1, 4, 970)) := by decide +kernel
theorem s_X3_fits_33 {ca : Nat → List Value → tM → tO} {M : tM} {L : tL} {v1 : Value} {b : Nat} : rn ca C_X3_fits 33 L [v1, .ref b] M = if clsO b = some 4 then rnk ca C_X3_fits 36 L [] (ca m_X4_hasDesk [.ref b, v1] M) else none := (rn_at k_X3_fits_33).trans rnx_ite
theorem k_X3_fits_36 : lk 36 C_X3_fits = some (.ifCond .eq 18, (54, 0, 0, 0)) := by decide +kernel
theorem s_X3_fits_36 {ca : Nat → List Value → tM → tO} {M : tM} {L : tL} {x : Int32} {S : List Value} : rn ca C_X3_fits 36 L (.int x :: S) M = if x = iI 0 then rn ca C_X3_fits 54 L S M else rn ca C_X3_fits 39 L S M := (rn_at k_X3_fits_36).trans rnx_ite
theorem k_X3_fits_39 : lk 39 C_X3_fits = some (.aload_n 0, (0, 0, 0, 0)) := by decide +kernel
theorem s_X3_fits_39 {ca : Nat → List Value → tM → tO} {M : tM} {a1 a2 a3 a4 a5 a6 : Option Value} {x : Nat} {S : List Value} : rn ca C_X3_fits 39 [some (.ref x), a1, a2, a3, a4, a5, a6] S M = rn ca C_X3_fits 40 [some (.ref x), a1, a2, a3, a4, a5, a6] (.ref x :: S) M := (rn_at k_X3_fits_39).trans rfl
theorem k_X3_fits_40 : lk 40 C_X3_fits = some (.getfield 24, (3, 3, 0, 113)) := by decide +kernel
theorem s_X3_fits_40 {ca : Nat → List Value → tM → tO} {M : tM} {L : tL} {b : Nat} {S : List Value} : rn ca C_X3_fits 40 L (.ref b :: S) M = if clsO b = some 3 then rn ca C_X3_fits 43 L (fv M b 3 :: S) M else none := (rn_at k_X3_fits_40).trans rnx_ite
theorem k_X3_fits_43 : lk 43 C_X3_fits = some (.iload_n 2, (0, 0, 0, 0)) := by decide +kernel
theorem s_X3_fits_43 {ca : Nat → List Value → tM → tO} {M : tM} {a0 a1 a3 a4 a5 a6 : Option Value} {x : Int32} {S : List Value} : rn ca C_X3_fits 43 [a0, a1, some (.int x), a3, a4, a5, a6] S M = rn ca C_X3_fits 44 [a0, a1, some (.int x), a3, a4, a5, a6] (.int x :: S) M := (rn_at k_X3_fits_43).trans rfl
theorem k_X3_fits_44 : lk 44 C_X3_fits = some (.aaload, (0, 0, 0, 0)) := by decide +kernel
theorem s_X3_fits_44 {ca : Nat → List Value → tM → tO} {M : tM} {L : tL} {a : Nat} {i : Int32} {S : List Value} : rn ca C_X3_fits 44 L (.int i :: .ref a :: S) M = if (akind a = 3 ∨ akind a = 4 ∨ akind a = 5) ∧ inb i (alen M a) then rn ca C_X3_fits 45 L (.ref (rfe a i.toInt.toNat) :: S) M else none := (rn_at k_X3_fits_44).trans rnx_ite
theorem k_X3_fits_45 : lk 45 C_X3_fits = some (.iload 5, (0, 0, 0, 0)) := by decide +kernel
theorem s_X3_fits_45 {ca : Nat → List Value → tM → tO} {M : tM} {a0 a1 a2 a3 a4 a6 : Option Value} {x : Int32} {S : List Value} : rn ca C_X3_fits 45 [a0, a1, a2, a3, a4, some (.int x), a6] S M = rn ca C_X3_fits 47 [a0, a1, a2, a3, a4, some (.int x), a6] (.int x :: S) M := (rn_at k_X3_fits_45).trans rfl
theorem k_X3_fits_47 : lk 47 C_X3_fits = some (.iaload, (0, 0, 0, 0)) := by decide +kernel
theorem s_X3_fits_47 {ca : Nat → List Value → tM → tO} {M : tM} {L : tL} {a : Nat} {i : Int32} {S : List Value} : rn ca C_X3_fits 47 L (.int i :: .ref a :: S) M = if (akind a = 0 ∨ akind a = 6 ∨ akind a = 7) ∧ inb i (alen M a) then rn ca C_X3_fits 48 L (.int (M.1 a i.toInt.toNat) :: S) M else none := (rn_at k_X3_fits_47).trans rnx_ite
theorem k_X3_fits_48 : lk 48 C_X3_fits = some (.sipush 9999, (0, 0, 0, 0)) := by decide +kernel
theorem s_X3_fits_48 {ca : Nat → List Value → tM → tO} {M : tM} {L : tL} {S : List Value} : rn ca C_X3_fits 48 L S M = rn ca C_X3_fits 51 L (.int (iI 9999) :: S) M := (rn_at k_X3_fits_48).trans rfl
theorem k_X3_fits_51 : lk 51 C_X3_fits = some (.if_icmp .ne 5, (56, 0, 0, 0)) := by decide +kernel
theorem s_X3_fits_51 {ca : Nat → List Value → tM → tO} {M : tM} {L : tL} {x y : Int32} {S : List Value} : rn ca C_X3_fits 51 L (.int y :: .int x :: S) M = if ¬ x = y then rn ca C_X3_fits 56 L S M else rn ca C_X3_fits 54 L S M := (rn_at k_X3_fits_51).trans rnx_ite
theorem k_X3_fits_54 : lk 54 C_X3_fits = some (.iconst 0, (0, 0, 0, 0)) := by decide +kernel
theorem s_X3_fits_54 {ca : Nat → List Value → tM → tO} {M : tM} {L : tL} {S : List Value} : rn ca C_X3_fits 54 L S M = rn ca C_X3_fits 55 L (.int (iI 0) :: S) M := (rn_at k_X3_fits_54).trans rfl
theorem k_X3_fits_55 : lk 55 C_X3_fits = some (.ireturn, (1, 0, 0, 0)) := by decide +kernel
theorem s_X3_fits_55 {ca : Nat → List Value → tM → tO} {M : tM} {L : tL} {x : Int32} : rn ca C_X3_fits 55 L [.int x] M = if x = iI 0 ∨ x = iI 1 then some (some (.int x), M) else none := (rn_at k_X3_fits_55).trans rnx_ite
theorem k_X3_fits_56 : lk 56 C_X3_fits = some (.aload_n 0, (0, 0, 0, 0)) := by decide +kernel
theorem s_X3_fits_56 {ca : Nat → List Value → tM → tO} {M : tM} {a1 a2 a3 a4 a5 a6 : Option Value} {x : Nat} {S : List Value} : rn ca C_X3_fits 56 [some (.ref x), a1, a2, a3, a4, a5, a6] S M = rn ca C_X3_fits 57 [some (.ref x), a1, a2, a3, a4, a5, a6] (.ref x :: S) M := (rn_at k_X3_fits_56).trans rfl
theorem k_X3_fits_57 : lk 57 C_X3_fits = some (.getfield 15, (3, 1, 0, 110)) := by decide +kernel
theorem s_X3_fits_57 {ca : Nat → List Value → tM → tO} {M : tM} {L : tL} {b : Nat} {S : List Value} : rn ca C_X3_fits 57 L (.ref b :: S) M = if clsO b = some 3 then rn ca C_X3_fits 60 L (fv M b 1 :: S) M else none := (rn_at k_X3_fits_57).trans rnx_ite
theorem k_X3_fits_60 : lk 60 C_X3_fits = some (.iload 4, (0, 0, 0, 0)) := by decide +kernel
theorem s_X3_fits_60 {ca : Nat → List Value → tM → tO} {M : tM} {a0 a1 a2 a3 a5 a6 : Option Value} {x : Int32} {S : List Value} : rn ca C_X3_fits 60 [a0, a1, a2, a3, some (.int x), a5, a6] S M = rn ca C_X3_fits 62 [a0, a1, a2, a3, some (.int x), a5, a6] (.int x :: S) M := (rn_at k_X3_fits_60).trans rfl
theorem k_X3_fits_62 : lk 62 C_X3_fits = some (.iaload, (0, 0, 0, 0)) := by decide +kernel
theorem s_X3_fits_62 {ca : Nat → List Value → tM → tO} {M : tM} {L : tL} {a : Nat} {i : Int32} {S : List Value} : rn ca C_X3_fits 62 L (.int i :: .ref a :: S) M = if (akind a = 0 ∨ akind a = 6 ∨ akind a = 7) ∧ inb i (alen M a) then rn ca C_X3_fits 63 L (.int (M.1 a i.toInt.toNat) :: S) M else none := (rn_at k_X3_fits_62).trans rnx_ite
theorem k_X3_fits_63 : lk 63 C_X3_fits = some (.aload_n 0, (0, 0, 0, 0)) := by decide +kernel
theorem s_X3_fits_63 {ca : Nat → List Value → tM → tO} {M : tM} {a1 a2 a3 a4 a5 a6 : Option Value} {x : Nat} {S : List Value} : rn ca C_X3_fits 63 [some (.ref x), a1, a2, a3, a4, a5, a6] S M = rn ca C_X3_fits 64 [some (.ref x), a1, a2, a3, a4, a5, a6] (.ref x :: S) M := (rn_at k_X3_fits_63).trans rfl
theorem k_X3_fits_64 : lk 64 C_X3_fits = some (.getfield 24, (3, 3, 0, 113)) := by decide +kernel
theorem s_X3_fits_64 {ca : Nat → List Value → tM → tO} {M : tM} {L : tL} {b : Nat} {S : List Value} : rn ca C_X3_fits 64 L (.ref b :: S) M = if clsO b = some 3 then rn ca C_X3_fits 67 L (fv M b 3 :: S) M else none := (rn_at k_X3_fits_64).trans rnx_ite
theorem k_X3_fits_67 : lk 67 C_X3_fits = some (.iload_n 2, (0, 0, 0, 0)) := by decide +kernel
theorem s_X3_fits_67 {ca : Nat → List Value → tM → tO} {M : tM} {a0 a1 a3 a4 a5 a6 : Option Value} {x : Int32} {S : List Value} : rn ca C_X3_fits 67 [a0, a1, some (.int x), a3, a4, a5, a6] S M = rn ca C_X3_fits 68 [a0, a1, some (.int x), a3, a4, a5, a6] (.int x :: S) M := (rn_at k_X3_fits_67).trans rfl
theorem k_X3_fits_68 : lk 68 C_X3_fits = some (.aaload, (0, 0, 0, 0)) := by decide +kernel
theorem s_X3_fits_68 {ca : Nat → List Value → tM → tO} {M : tM} {L : tL} {a : Nat} {i : Int32} {S : List Value} : rn ca C_X3_fits 68 L (.int i :: .ref a :: S) M = if (akind a = 3 ∨ akind a = 4 ∨ akind a = 5) ∧ inb i (alen M a) then rn ca C_X3_fits 69 L (.ref (rfe a i.toInt.toNat) :: S) M else none := (rn_at k_X3_fits_68).trans rnx_ite
theorem k_X3_fits_69 : lk 69 C_X3_fits = some (.iload 5, (0, 0, 0, 0)) := by decide +kernel
theorem s_X3_fits_69 {ca : Nat → List Value → tM → tO} {M : tM} {a0 a1 a2 a3 a4 a6 : Option Value} {x : Int32} {S : List Value} : rn ca C_X3_fits 69 [a0, a1, a2, a3, a4, some (.int x), a6] S M = rn ca C_X3_fits 71 [a0, a1, a2, a3, a4, some (.int x), a6] (.int x :: S) M := (rn_at k_X3_fits_69).trans rfl
theorem k_X3_fits_71 : lk 71 C_X3_fits = some (.iaload, (0, 0, 0, 0)) := by decide +kernel
theorem s_X3_fits_71 {ca : Nat → List Value → tM → tO} {M : tM} {L : tL} {a : Nat} {i : Int32} {S : List Value} : rn ca C_X3_fits 71 L (.int i :: .ref a :: S) M = if (akind a = 0 ∨ akind a = 6 ∨ akind a = 7) ∧ inb i (alen M a) then rn ca C_X3_fits 72 L (.int (M.1 a i.toInt.toNat) :: S) M else none := (rn_at k_X3_fits_71).trans rnx_ite
theorem k_X3_fits_72 : lk 72 C_X3_fits = some (.isub, (0, 0, 0, 0)) := by decide +kernel
theorem s_X3_fits_72 {ca : Nat → List Value → tM → tO} {M : tM} {L : tL} {x y : Int32} {S : List Value} : rn ca C_X3_fits 72 L (.int y :: .int x :: S) M = rn ca C_X3_fits 73 L (.int (x - y) :: S) M := (rn_at k_X3_fits_72).trans rfl
theorem k_X3_fits_73 : lk 73 C_X3_fits = some (.istore 6, (0, 0, 0, 0)) := by decide +kernel
theorem s_X3_fits_73 {ca : Nat → List Value → tM → tO} {M : tM} {a0 a1 a2 a3 a4 a5 a6 : Option Value} {x : Int32} {S : List Value} : rn ca C_X3_fits 73 [a0, a1, a2, a3, a4, a5, a6] (.int x :: S) M = rn ca C_X3_fits 75 [a0, a1, a2, a3, a4, a5, some (.int x)] S M := (rn_at k_X3_fits_73).trans rfl
theorem k_X3_fits_75 : lk 75 C_X3_fits = some (.iload 4, (0, 0, 0, 0)) := by decide +kernel
theorem s_X3_fits_75 {ca : Nat → List Value → tM → tO} {M : tM} {a0 a1 a2 a3 a5 a6 : Option Value} {x : Int32} {S : List Value} : rn ca C_X3_fits 75 [a0, a1, a2, a3, some (.int x), a5, a6] S M = rn ca C_X3_fits 77 [a0, a1, a2, a3, some (.int x), a5, a6] (.int x :: S) M := (rn_at k_X3_fits_75).trans rfl
theorem k_X3_fits_77 : lk 77 C_X3_fits = some (.ifCond .le 11, (88, 0, 0, 0)) := by decide +kernel
theorem s_X3_fits_77 {ca : Nat → List Value → tM → tO} {M : tM} {L : tL} {x : Int32} {S : List Value} : rn ca C_X3_fits 77 L (.int x :: S) M = if x ≤ iI 0 then rn ca C_X3_fits 88 L S M else rn ca C_X3_fits 80 L S M := (rn_at k_X3_fits_77).trans rnx_ite
theorem k_X3_fits_80 : lk 80 C_X3_fits = some (.iload 6, (0, 0, 0, 0)) := by decide +kernel
theorem s_X3_fits_80 {ca : Nat → List Value → tM → tO} {M : tM} {a0 a1 a2 a3 a4 a5 : Option Value} {x : Int32} {S : List Value} : rn ca C_X3_fits 80 [a0, a1, a2, a3, a4, a5, some (.int x)] S M = rn ca C_X3_fits 82 [a0, a1, a2, a3, a4, a5, some (.int x)] (.int x :: S) M := (rn_at k_X3_fits_80).trans rfl
theorem k_X3_fits_82 : lk 82 C_X3_fits = some (.iload_n 3, (0, 0, 0, 0)) := by decide +kernel
theorem s_X3_fits_82 {ca : Nat → List Value → tM → tO} {M : tM} {a0 a1 a2 a4 a5 a6 : Option Value} {x : Int32} {S : List Value} : rn ca C_X3_fits 82 [a0, a1, a2, some (.int x), a4, a5, a6] S M = rn ca C_X3_fits 83 [a0, a1, a2, some (.int x), a4, a5, a6] (.int x :: S) M := (rn_at k_X3_fits_82).trans rfl
theorem k_X3_fits_83 : lk 83 C_X3_fits = some (.if_icmp .eq 5, (88, 0, 0, 0)) := by decide +kernel
theorem s_X3_fits_83 {ca : Nat → List Value → tM → tO} {M : tM} {L : tL} {x y : Int32} {S : List Value} : rn ca C_X3_fits 83 L (.int y :: .int x :: S) M = if x = y then rn ca C_X3_fits 88 L S M else rn ca C_X3_fits 86 L S M := (rn_at k_X3_fits_83).trans rnx_ite
theorem k_X3_fits_86 : lk 86 C_X3_fits = some (.iconst 0, (0, 0, 0, 0)) := by decide +kernel
theorem s_X3_fits_86 {ca : Nat → List Value → tM → tO} {M : tM} {L : tL} {S : List Value} : rn ca C_X3_fits 86 L S M = rn ca C_X3_fits 87 L (.int (iI 0) :: S) M := (rn_at k_X3_fits_86).trans rfl
theorem k_X3_fits_87 : lk 87 C_X3_fits = some (.ireturn, (1, 0, 0, 0)) := by decide +kernel
theorem s_X3_fits_87 {ca : Nat → List Value → tM → tO} {M : tM} {L : tL} {x : Int32} : rn ca C_X3_fits 87 L [.int x] M = if x = iI 0 ∨ x = iI 1 then some (some (.int x), M) else none := (rn_at k_X3_fits_87).trans rnx_ite
theorem k_X3_fits_88 : lk 88 C_X3_fits = some (.iload 6, (0, 0, 0, 0)) := by decide +kernel
theorem s_X3_fits_88 {ca : Nat → List Value → tM → tO} {M : tM} {a0 a1 a2 a3 a4 a5 : Option Value} {x : Int32} {S : List Value} : rn ca C_X3_fits 88 [a0, a1, a2, a3, a4, a5, some (.int x)] S M = rn ca C_X3_fits 90 [a0, a1, a2, a3, a4, a5, some (.int x)] (.int x :: S) M := (rn_at k_X3_fits_88).trans rfl
theorem k_X3_fits_90 : lk 90 C_X3_fits = some (.istore_n 3, (0, 0, 0, 0)) := by decide +kernel
theorem s_X3_fits_90 {ca : Nat → List Value → tM → tO} {M : tM} {a0 a1 a2 a3 a4 a5 a6 : Option Value} {x : Int32} {S : List Value} : rn ca C_X3_fits 90 [a0, a1, a2, a3, a4, a5, a6] (.int x :: S) M = rn ca C_X3_fits 91 [a0, a1, a2, some (.int x), a4, a5, a6] S M := (rn_at k_X3_fits_90).trans rfl
theorem k_X3_fits_91 : lk 91 C_X3_fits = some (.iinc 4 1, (0, 0, 0, 0)) := by decide +kernel
theorem s_X3_fits_91 {ca : Nat → List Value → tM → tO} {M : tM} {a0 a1 a2 a3 a5 a6 : Option Value} {x : Int32} {S : List Value} : rn ca C_X3_fits 91 [a0, a1, a2, a3, some (.int x), a5, a6] S M = rn ca C_X3_fits 94 [a0, a1, a2, a3, some (.int (x + iI 1)), a5, a6] S M := (rn_at k_X3_fits_91).trans rfl
theorem k_X3_fits_94 : lk 94 C_X3_fits = some (.goto (-89), (5, 0, 0, 0)) := by decide +kernel
theorem s_X3_fits_94 {ca : Nat → List Value → tM → tO} {M : tM} {L : tL} {S : List Value} : rn ca C_X3_fits 94 L S M = rn ca C_X3_fits 5 L S M := (rn_at k_X3_fits_94).trans rfl
theorem k_X3_fits_97 : lk 97 C_X3_fits = some (.iconst 1, (0, 0, 0, 0)) := by decide +kernel
theorem s_X3_fits_97 {ca : Nat → List Value → tM → tO} {M : tM} {L : tL} {S : List Value} : rn ca C_X3_fits 97 L S M = rn ca C_X3_fits 98 L (.int (iI 1) :: S) M := (rn_at k_X3_fits_97).trans rfl
theorem k_X3_fits_98 : lk 98 C_X3_fits = some (.ireturn, (1, 0, 0, 0)) := by decide +kernel
theorem s_X3_fits_98 {ca : Nat → List Value → tM → tO} {M : tM} {L : tL} {x : Int32} : rn ca C_X3_fits 98 L [.int x] M = if x = iI 0 ∨ x = iI 1 then some (some (.int x), M) else none := (rn_at k_X3_fits_98).trans rnx_ite
theorem k_X3_nextDesk_0 : lk 0 C_X3_nextDesk = some (.aload_n 0, (0, 0, 0, 0)) := by decide +kernel
theorem s_X3_nextDesk_0 {ca : Nat → List Value → tM → tO} {M : tM} {a1 a2 a3 a4 a5 a6 a7 a8 : Option Value} {x : Nat} {S : List Value} : rn ca C_X3_nextDesk 0 [some (.ref x), a1, a2, a3, a4, a5, a6, a7, a8] S M = rn ca C_X3_nextDesk 1 [some (.ref x), a1, a2, a3, a4, a5, a6, a7, a8] (.ref x :: S) M := (rn_at k_X3_nextDesk_0).trans rfl
theorem k_X3_nextDesk_1 : lk 1 C_X3_nextDesk = some (.aload_n 1, (0, 0, 0, 0)) := by decide +kernel
theorem s_X3_nextDesk_1 {ca : Nat → List Value → tM → tO} {M : tM} {a0 a2 a3 a4 a5 a6 a7 a8 : Option Value} {x : Nat} {S : List Value} : rn ca C_X3_nextDesk 1 [a0, some (.ref x), a2, a3, a4, a5, a6, a7, a8] S M = rn ca C_X3_nextDesk 2 [a0, some (.ref x), a2, a3, a4, a5, a6, a7, a8] (.ref x :: S) M := (rn_at k_X3_nextDesk_1).trans rfl
theorem k_X3_nextDesk_2 : lk 2 C_X3_nextDesk = some (.invokevirtual 72, (13, 1, 3, 1001)) := by decide +kernel
theorem s_X3_nextDesk_2 {ca : Nat → List Value → tM → tO} {M : tM} {L : tL} {v1 : Value} {b : Nat} : rn ca C_X3_nextDesk 2 L [v1, .ref b] M = if clsO b = some 3 then rnk ca C_X3_nextDesk 5 L [] (ca m_X3_fittingTubes [.ref b, v1] M) else none := (rn_at k_X3_nextDesk_2).trans rnx_ite
theorem k_X3_nextDesk_5 : lk 5 C_X3_nextDesk = some (.istore_n 2, (0, 0, 0, 0)) := by decide +kernel
theorem s_X3_nextDesk_5 {ca : Nat → List Value → tM → tO} {M : tM} {a0 a1 a2 a3 a4 a5 a6 a7 a8 : Option Value} {x : Int32} {S : List Value} : rn ca C_X3_nextDesk 5 [a0, a1, a2, a3, a4, a5, a6, a7, a8] (.int x :: S) M = rn ca C_X3_nextDesk 6 [a0, a1, some (.int x), a3, a4, a5, a6, a7, a8] S M := (rn_at k_X3_nextDesk_5).trans rfl
theorem k_X3_nextDesk_6 : lk 6 C_X3_nextDesk = some (.aload_n 0, (0, 0, 0, 0)) := by decide +kernel
theorem s_X3_nextDesk_6 {ca : Nat → List Value → tM → tO} {M : tM} {a1 a2 a3 a4 a5 a6 a7 a8 : Option Value} {x : Nat} {S : List Value} : rn ca C_X3_nextDesk 6 [some (.ref x), a1, a2, a3, a4, a5, a6, a7, a8] S M = rn ca C_X3_nextDesk 7 [some (.ref x), a1, a2, a3, a4, a5, a6, a7, a8] (.ref x :: S) M := (rn_at k_X3_nextDesk_6).trans rfl
theorem k_X3_nextDesk_7 : lk 7 C_X3_nextDesk = some (.getfield 9, (3, 0, 0, 109)) := by decide +kernel
theorem s_X3_nextDesk_7 {ca : Nat → List Value → tM → tO} {M : tM} {L : tL} {b : Nat} {S : List Value} : rn ca C_X3_nextDesk 7 L (.ref b :: S) M = if clsO b = some 3 then rn ca C_X3_nextDesk 10 L (fv M b 0 :: S) M else none := (rn_at k_X3_nextDesk_7).trans rnx_ite
theorem k_X3_nextDesk_10 : lk 10 C_X3_nextDesk = some (.iconst 0, (0, 0, 0, 0)) := by decide +kernel
theorem s_X3_nextDesk_10 {ca : Nat → List Value → tM → tO} {M : tM} {L : tL} {S : List Value} : rn ca C_X3_nextDesk 10 L S M = rn ca C_X3_nextDesk 11 L (.int (iI 0) :: S) M := (rn_at k_X3_nextDesk_10).trans rfl
theorem k_X3_nextDesk_11 : lk 11 C_X3_nextDesk = some (.iaload, (0, 0, 0, 0)) := by decide +kernel
theorem s_X3_nextDesk_11 {ca : Nat → List Value → tM → tO} {M : tM} {L : tL} {a : Nat} {i : Int32} {S : List Value} : rn ca C_X3_nextDesk 11 L (.int i :: .ref a :: S) M = if (akind a = 0 ∨ akind a = 6 ∨ akind a = 7) ∧ inb i (alen M a) then rn ca C_X3_nextDesk 12 L (.int (M.1 a i.toInt.toNat) :: S) M else none := (rn_at k_X3_nextDesk_11).trans rnx_ite
theorem k_X3_nextDesk_12 : lk 12 C_X3_nextDesk = some (.istore_n 3, (0, 0, 0, 0)) := by decide +kernel
theorem s_X3_nextDesk_12 {ca : Nat → List Value → tM → tO} {M : tM} {a0 a1 a2 a3 a4 a5 a6 a7 a8 : Option Value} {x : Int32} {S : List Value} : rn ca C_X3_nextDesk 12 [a0, a1, a2, a3, a4, a5, a6, a7, a8] (.int x :: S) M = rn ca C_X3_nextDesk 13 [a0, a1, a2, some (.int x), a4, a5, a6, a7, a8] S M := (rn_at k_X3_nextDesk_12).trans rfl
theorem k_X3_nextDesk_13 : lk 13 C_X3_nextDesk = some (.iload_n 2, (0, 0, 0, 0)) := by decide +kernel
theorem s_X3_nextDesk_13 {ca : Nat → List Value → tM → tO} {M : tM} {a0 a1 a3 a4 a5 a6 a7 a8 : Option Value} {x : Int32} {S : List Value} : rn ca C_X3_nextDesk 13 [a0, a1, some (.int x), a3, a4, a5, a6, a7, a8] S M = rn ca C_X3_nextDesk 14 [a0, a1, some (.int x), a3, a4, a5, a6, a7, a8] (.int x :: S) M := (rn_at k_X3_nextDesk_13).trans rfl
theorem k_X3_nextDesk_14 : lk 14 C_X3_nextDesk = some (.invokestatic 76, (239, 1, 0, 1002)) := by decide +kernel
theorem s_X3_nextDesk_14 {ca : Nat → List Value → tM → tO} {M : tM} {L : tL} {v1 : Value} : rn ca C_X3_nextDesk 14 L [v1] M = rnk ca C_X3_nextDesk 17 L [] (ca m_J6_bitCount_0f7a4 [v1] M) := (rn_at k_X3_nextDesk_14).trans rfl
theorem k_X3_nextDesk_17 : lk 17 C_X3_nextDesk = some (.iconst 2, (0, 0, 0, 0)) := by decide +kernel
theorem s_X3_nextDesk_17 {ca : Nat → List Value → tM → tO} {M : tM} {L : tL} {S : List Value} : rn ca C_X3_nextDesk 17 L S M = rn ca C_X3_nextDesk 18 L (.int (iI 2) :: S) M := (rn_at k_X3_nextDesk_17).trans rfl
theorem k_X3_nextDesk_18 : lk 18 C_X3_nextDesk = some (.if_icmp .lt 11, (29, 0, 0, 0)) := by decide +kernel
theorem s_X3_nextDesk_18 {ca : Nat → List Value → tM → tO} {M : tM} {L : tL} {x y : Int32} {S : List Value} : rn ca C_X3_nextDesk 18 L (.int y :: .int x :: S) M = if x < y then rn ca C_X3_nextDesk 29 L S M else rn ca C_X3_nextDesk 21 L S M := (rn_at k_X3_nextDesk_18).trans rnx_ite
theorem k_X3_nextDesk_21 : lk 21 C_X3_nextDesk = some (.aload_n 1, (0, 0, 0, 0)) := by decide +kernel
theorem s_X3_nextDesk_21 {ca : Nat → List Value → tM → tO} {M : tM} {a0 a2 a3 a4 a5 a6 a7 a8 : Option Value} {x : Nat} {S : List Value} : rn ca C_X3_nextDesk 21 [a0, some (.ref x), a2, a3, a4, a5, a6, a7, a8] S M = rn ca C_X3_nextDesk 22 [a0, some (.ref x), a2, a3, a4, a5, a6, a7, a8] (.ref x :: S) M := (rn_at k_X3_nextDesk_21).trans rfl
theorem k_X3_nextDesk_22 : lk 22 C_X3_nextDesk = some (.iload_n 3, (0, 0, 0, 0)) := by decide +kernel
theorem s_X3_nextDesk_22 {ca : Nat → List Value → tM → tO} {M : tM} {a0 a1 a2 a4 a5 a6 a7 a8 : Option Value} {x : Int32} {S : List Value} : rn ca C_X3_nextDesk 22 [a0, a1, a2, some (.int x), a4, a5, a6, a7, a8] S M = rn ca C_X3_nextDesk 23 [a0, a1, a2, some (.int x), a4, a5, a6, a7, a8] (.int x :: S) M := (rn_at k_X3_nextDesk_22).trans rfl
theorem k_X3_nextDesk_23 : lk 23 C_X3_nextDesk = some (.invokevirtual 68, (18, 1, 4, 970)) := by decide +kernel
theorem s_X3_nextDesk_23 {ca : Nat → List Value → tM → tO} {M : tM} {L : tL} {v1 : Value} {b : Nat} : rn ca C_X3_nextDesk 23 L [v1, .ref b] M = if clsO b = some 4 then rnk ca C_X3_nextDesk 26 L [] (ca m_X4_hasDesk [.ref b, v1] M) else none := (rn_at k_X3_nextDesk_23).trans rnx_ite
theorem k_X3_nextDesk_26 : lk 26 C_X3_nextDesk = some (.ifCond .ne 5, (31, 0, 0, 0)) := by decide +kernel
theorem s_X3_nextDesk_26 {ca : Nat → List Value → tM → tO} {M : tM} {L : tL} {x : Int32} {S : List Value} : rn ca C_X3_nextDesk 26 L (.int x :: S) M = if ¬ x = iI 0 then rn ca C_X3_nextDesk 31 L S M else rn ca C_X3_nextDesk 29 L S M := (rn_at k_X3_nextDesk_26).trans rnx_ite
theorem k_X3_nextDesk_29 : lk 29 C_X3_nextDesk = some (.iconst (-1), (0, 0, 0, 0)) := by decide +kernel
theorem s_X3_nextDesk_29 {ca : Nat → List Value → tM → tO} {M : tM} {L : tL} {S : List Value} : rn ca C_X3_nextDesk 29 L S M = rn ca C_X3_nextDesk 30 L (.int (iI (-1)) :: S) M := (rn_at k_X3_nextDesk_29).trans rfl
theorem k_X3_nextDesk_30 : lk 30 C_X3_nextDesk = some (.ireturn, (0, 0, 0, 0)) := by decide +kernel
theorem s_X3_nextDesk_30 {ca : Nat → List Value → tM → tO} {M : tM} {L : tL} {x : Int32} : rn ca C_X3_nextDesk 30 L [.int x] M = some (some (.int x), M) := (rn_at k_X3_nextDesk_30).trans rfl
theorem k_X3_nextDesk_31 : lk 31 C_X3_nextDesk = some (.iconst 0, (0, 0, 0, 0)) := by decide +kernel
theorem s_X3_nextDesk_31 {ca : Nat → List Value → tM → tO} {M : tM} {L : tL} {S : List Value} : rn ca C_X3_nextDesk 31 L S M = rn ca C_X3_nextDesk 32 L (.int (iI 0) :: S) M := (rn_at k_X3_nextDesk_31).trans rfl
theorem k_X3_nextDesk_32 : lk 32 C_X3_nextDesk = some (.istore 4, (0, 0, 0, 0)) := by decide +kernel
theorem s_X3_nextDesk_32 {ca : Nat → List Value → tM → tO} {M : tM} {a0 a1 a2 a3 a4 a5 a6 a7 a8 : Option Value} {x : Int32} {S : List Value} : rn ca C_X3_nextDesk 32 [a0, a1, a2, a3, a4, a5, a6, a7, a8] (.int x :: S) M = rn ca C_X3_nextDesk 34 [a0, a1, a2, a3, some (.int x), a5, a6, a7, a8] S M := (rn_at k_X3_nextDesk_32).trans rfl
theorem k_X3_nextDesk_34 : lk 34 C_X3_nextDesk = some (.iconst 0, (0, 0, 0, 0)) := by decide +kernel
theorem s_X3_nextDesk_34 {ca : Nat → List Value → tM → tO} {M : tM} {L : tL} {S : List Value} : rn ca C_X3_nextDesk 34 L S M = rn ca C_X3_nextDesk 35 L (.int (iI 0) :: S) M := (rn_at k_X3_nextDesk_34).trans rfl
theorem k_X3_nextDesk_35 : lk 35 C_X3_nextDesk = some (.istore 5, (0, 0, 0, 0)) := by decide +kernel
theorem s_X3_nextDesk_35 {ca : Nat → List Value → tM → tO} {M : tM} {a0 a1 a2 a3 a4 a5 a6 a7 a8 : Option Value} {x : Int32} {S : List Value} : rn ca C_X3_nextDesk 35 [a0, a1, a2, a3, a4, a5, a6, a7, a8] (.int x :: S) M = rn ca C_X3_nextDesk 37 [a0, a1, a2, a3, a4, some (.int x), a6, a7, a8] S M := (rn_at k_X3_nextDesk_35).trans rfl
theorem k_X3_nextDesk_37 : lk 37 C_X3_nextDesk = some (.iload 5, (0, 0, 0, 0)) := by decide +kernel
theorem s_X3_nextDesk_37 {ca : Nat → List Value → tM → tO} {M : tM} {a0 a1 a2 a3 a4 a6 a7 a8 : Option Value} {x : Int32} {S : List Value} : rn ca C_X3_nextDesk 37 [a0, a1, a2, a3, a4, some (.int x), a6, a7, a8] S M = rn ca C_X3_nextDesk 39 [a0, a1, a2, a3, a4, some (.int x), a6, a7, a8] (.int x :: S) M := (rn_at k_X3_nextDesk_37).trans rfl
theorem k_X3_nextDesk_39 : lk 39 C_X3_nextDesk = some (.aload_n 0, (0, 0, 0, 0)) := by decide +kernel
theorem s_X3_nextDesk_39 {ca : Nat → List Value → tM → tO} {M : tM} {a1 a2 a3 a4 a5 a6 a7 a8 : Option Value} {x : Nat} {S : List Value} : rn ca C_X3_nextDesk 39 [some (.ref x), a1, a2, a3, a4, a5, a6, a7, a8] S M = rn ca C_X3_nextDesk 40 [some (.ref x), a1, a2, a3, a4, a5, a6, a7, a8] (.ref x :: S) M := (rn_at k_X3_nextDesk_39).trans rfl
theorem k_X3_nextDesk_40 : lk 40 C_X3_nextDesk = some (.getfield 18, (3, 2, 0, 111)) := by decide +kernel
theorem s_X3_nextDesk_40 {ca : Nat → List Value → tM → tO} {M : tM} {L : tL} {b : Nat} {S : List Value} : rn ca C_X3_nextDesk 40 L (.ref b :: S) M = if clsO b = some 3 then rn ca C_X3_nextDesk 43 L (fv M b 2 :: S) M else none := (rn_at k_X3_nextDesk_40).trans rnx_ite
theorem k_X3_nextDesk_43 : lk 43 C_X3_nextDesk = some (.if_icmp .ge 30, (73, 0, 0, 0)) := by decide +kernel
theorem s_X3_nextDesk_43 {ca : Nat → List Value → tM → tO} {M : tM} {L : tL} {x y : Int32} {S : List Value} : rn ca C_X3_nextDesk 43 L (.int y :: .int x :: S) M = if y ≤ x then rn ca C_X3_nextDesk 73 L S M else rn ca C_X3_nextDesk 46 L S M := (rn_at k_X3_nextDesk_43).trans rnx_ite
theorem k_X3_nextDesk_46 : lk 46 C_X3_nextDesk = some (.iload 5, (0, 0, 0, 0)) := by decide +kernel
theorem s_X3_nextDesk_46 {ca : Nat → List Value → tM → tO} {M : tM} {a0 a1 a2 a3 a4 a6 a7 a8 : Option Value} {x : Int32} {S : List Value} : rn ca C_X3_nextDesk 46 [a0, a1, a2, a3, a4, some (.int x), a6, a7, a8] S M = rn ca C_X3_nextDesk 48 [a0, a1, a2, a3, a4, some (.int x), a6, a7, a8] (.int x :: S) M := (rn_at k_X3_nextDesk_46).trans rfl
theorem k_X3_nextDesk_48 : lk 48 C_X3_nextDesk = some (.bipush 8, (0, 0, 0, 0)) := by decide +kernel
theorem s_X3_nextDesk_48 {ca : Nat → List Value → tM → tO} {M : tM} {L : tL} {S : List Value} : rn ca C_X3_nextDesk 48 L S M = rn ca C_X3_nextDesk 50 L (.int (iI 8) :: S) M := (rn_at k_X3_nextDesk_48).trans rfl
theorem k_X3_nextDesk_50 : lk 50 C_X3_nextDesk = some (.if_icmp .ge 23, (73, 0, 0, 0)) := by decide +kernel
theorem s_X3_nextDesk_50 {ca : Nat → List Value → tM → tO} {M : tM} {L : tL} {x y : Int32} {S : List Value} : rn ca C_X3_nextDesk 50 L (.int y :: .int x :: S) M = if y ≤ x then rn ca C_X3_nextDesk 73 L S M else rn ca C_X3_nextDesk 53 L S M := (rn_at k_X3_nextDesk_50).trans rnx_ite
theorem k_X3_nextDesk_53 : lk 53 C_X3_nextDesk = some (.iload 4, (0, 0, 0, 0)) := by decide +kernel
theorem s_X3_nextDesk_53 {ca : Nat → List Value → tM → tO} {M : tM} {a0 a1 a2 a3 a5 a6 a7 a8 : Option Value} {x : Int32} {S : List Value} : rn ca C_X3_nextDesk 53 [a0, a1, a2, a3, some (.int x), a5, a6, a7, a8] S M = rn ca C_X3_nextDesk 55 [a0, a1, a2, a3, some (.int x), a5, a6, a7, a8] (.int x :: S) M := (rn_at k_X3_nextDesk_53).trans rfl
theorem k_X3_nextDesk_55 : lk 55 C_X3_nextDesk = some (.iconst 1, (0, 0, 0, 0)) := by decide +kernel
theorem s_X3_nextDesk_55 {ca : Nat → List Value → tM → tO} {M : tM} {L : tL} {S : List Value} : rn ca C_X3_nextDesk 55 L S M = rn ca C_X3_nextDesk 56 L (.int (iI 1) :: S) M := (rn_at k_X3_nextDesk_55).trans rfl
theorem k_X3_nextDesk_56 : lk 56 C_X3_nextDesk = some (.aload_n 0, (0, 0, 0, 0)) := by decide +kernel
theorem s_X3_nextDesk_56 {ca : Nat → List Value → tM → tO} {M : tM} {a1 a2 a3 a4 a5 a6 a7 a8 : Option Value} {x : Nat} {S : List Value} : rn ca C_X3_nextDesk 56 [some (.ref x), a1, a2, a3, a4, a5, a6, a7, a8] S M = rn ca C_X3_nextDesk 57 [some (.ref x), a1, a2, a3, a4, a5, a6, a7, a8] (.ref x :: S) M := (rn_at k_X3_nextDesk_56).trans rfl
theorem k_X3_nextDesk_57 : lk 57 C_X3_nextDesk = some (.getfield 9, (3, 0, 0, 109)) := by decide +kernel
theorem s_X3_nextDesk_57 {ca : Nat → List Value → tM → tO} {M : tM} {L : tL} {b : Nat} {S : List Value} : rn ca C_X3_nextDesk 57 L (.ref b :: S) M = if clsO b = some 3 then rn ca C_X3_nextDesk 60 L (fv M b 0 :: S) M else none := (rn_at k_X3_nextDesk_57).trans rnx_ite
theorem k_X3_nextDesk_60 : lk 60 C_X3_nextDesk = some (.iload 5, (0, 0, 0, 0)) := by decide +kernel
theorem s_X3_nextDesk_60 {ca : Nat → List Value → tM → tO} {M : tM} {a0 a1 a2 a3 a4 a6 a7 a8 : Option Value} {x : Int32} {S : List Value} : rn ca C_X3_nextDesk 60 [a0, a1, a2, a3, a4, some (.int x), a6, a7, a8] S M = rn ca C_X3_nextDesk 62 [a0, a1, a2, a3, a4, some (.int x), a6, a7, a8] (.int x :: S) M := (rn_at k_X3_nextDesk_60).trans rfl
theorem k_X3_nextDesk_62 : lk 62 C_X3_nextDesk = some (.iaload, (0, 0, 0, 0)) := by decide +kernel
theorem s_X3_nextDesk_62 {ca : Nat → List Value → tM → tO} {M : tM} {L : tL} {a : Nat} {i : Int32} {S : List Value} : rn ca C_X3_nextDesk 62 L (.int i :: .ref a :: S) M = if (akind a = 0 ∨ akind a = 6 ∨ akind a = 7) ∧ inb i (alen M a) then rn ca C_X3_nextDesk 63 L (.int (M.1 a i.toInt.toNat) :: S) M else none := (rn_at k_X3_nextDesk_62).trans rnx_ite
theorem k_X3_nextDesk_63 : lk 63 C_X3_nextDesk = some (.ishl, (0, 0, 0, 0)) := by decide +kernel
theorem s_X3_nextDesk_63 {ca : Nat → List Value → tM → tO} {M : tM} {L : tL} {x y : Int32} {S : List Value} : rn ca C_X3_nextDesk 63 L (.int y :: .int x :: S) M = rn ca C_X3_nextDesk 64 L (.int (x <<< (y &&& 31)) :: S) M := (rn_at k_X3_nextDesk_63).trans rfl
theorem k_X3_nextDesk_64 : lk 64 C_X3_nextDesk = some (.ior, (0, 0, 0, 0)) := by decide +kernel
theorem s_X3_nextDesk_64 {ca : Nat → List Value → tM → tO} {M : tM} {L : tL} {x y : Int32} {S : List Value} : rn ca C_X3_nextDesk 64 L (.int y :: .int x :: S) M = rn ca C_X3_nextDesk 65 L (.int (x ||| y) :: S) M := (rn_at k_X3_nextDesk_64).trans rfl
theorem k_X3_nextDesk_65 : lk 65 C_X3_nextDesk = some (.istore 4, (0, 0, 0, 0)) := by decide +kernel
theorem s_X3_nextDesk_65 {ca : Nat → List Value → tM → tO} {M : tM} {a0 a1 a2 a3 a4 a5 a6 a7 a8 : Option Value} {x : Int32} {S : List Value} : rn ca C_X3_nextDesk 65 [a0, a1, a2, a3, a4, a5, a6, a7, a8] (.int x :: S) M = rn ca C_X3_nextDesk 67 [a0, a1, a2, a3, some (.int x), a5, a6, a7, a8] S M := (rn_at k_X3_nextDesk_65).trans rfl
theorem k_X3_nextDesk_67 : lk 67 C_X3_nextDesk = some (.iinc 5 1, (0, 0, 0, 0)) := by decide +kernel
theorem s_X3_nextDesk_67 {ca : Nat → List Value → tM → tO} {M : tM} {a0 a1 a2 a3 a4 a6 a7 a8 : Option Value} {x : Int32} {S : List Value} : rn ca C_X3_nextDesk 67 [a0, a1, a2, a3, a4, some (.int x), a6, a7, a8] S M = rn ca C_X3_nextDesk 70 [a0, a1, a2, a3, a4, some (.int (x + iI 1)), a6, a7, a8] S M := (rn_at k_X3_nextDesk_67).trans rfl
theorem k_X3_nextDesk_70 : lk 70 C_X3_nextDesk = some (.goto (-33), (37, 0, 0, 0)) := by decide +kernel
theorem s_X3_nextDesk_70 {ca : Nat → List Value → tM → tO} {M : tM} {L : tL} {S : List Value} : rn ca C_X3_nextDesk 70 L S M = rn ca C_X3_nextDesk 37 L S M := (rn_at k_X3_nextDesk_70).trans rfl
theorem k_X3_nextDesk_73 : lk 73 C_X3_nextDesk = some (.iconst (-1), (0, 0, 0, 0)) := by decide +kernel
theorem s_X3_nextDesk_73 {ca : Nat → List Value → tM → tO} {M : tM} {L : tL} {S : List Value} : rn ca C_X3_nextDesk 73 L S M = rn ca C_X3_nextDesk 74 L (.int (iI (-1)) :: S) M := (rn_at k_X3_nextDesk_73).trans rfl
theorem k_X3_nextDesk_74 : lk 74 C_X3_nextDesk = some (.istore 5, (0, 0, 0, 0)) := by decide +kernel
theorem s_X3_nextDesk_74 {ca : Nat → List Value → tM → tO} {M : tM} {a0 a1 a2 a3 a4 a5 a6 a7 a8 : Option Value} {x : Int32} {S : List Value} : rn ca C_X3_nextDesk 74 [a0, a1, a2, a3, a4, a5, a6, a7, a8] (.int x :: S) M = rn ca C_X3_nextDesk 76 [a0, a1, a2, a3, a4, some (.int x), a6, a7, a8] S M := (rn_at k_X3_nextDesk_74).trans rfl
theorem k_X3_nextDesk_76 : lk 76 C_X3_nextDesk = some (.bipush 17, (0, 0, 0, 0)) := by decide +kernel
theorem s_X3_nextDesk_76 {ca : Nat → List Value → tM → tO} {M : tM} {L : tL} {S : List Value} : rn ca C_X3_nextDesk 76 L S M = rn ca C_X3_nextDesk 78 L (.int (iI 17) :: S) M := (rn_at k_X3_nextDesk_76).trans rfl
theorem k_X3_nextDesk_78 : lk 78 C_X3_nextDesk = some (.istore 6, (0, 0, 0, 0)) := by decide +kernel
theorem s_X3_nextDesk_78 {ca : Nat → List Value → tM → tO} {M : tM} {a0 a1 a2 a3 a4 a5 a6 a7 a8 : Option Value} {x : Int32} {S : List Value} : rn ca C_X3_nextDesk 78 [a0, a1, a2, a3, a4, a5, a6, a7, a8] (.int x :: S) M = rn ca C_X3_nextDesk 80 [a0, a1, a2, a3, a4, a5, some (.int x), a7, a8] S M := (rn_at k_X3_nextDesk_78).trans rfl
theorem k_X3_nextDesk_80 : lk 80 C_X3_nextDesk = some (.iconst 0, (0, 0, 0, 0)) := by decide +kernel
theorem s_X3_nextDesk_80 {ca : Nat → List Value → tM → tO} {M : tM} {L : tL} {S : List Value} : rn ca C_X3_nextDesk 80 L S M = rn ca C_X3_nextDesk 81 L (.int (iI 0) :: S) M := (rn_at k_X3_nextDesk_80).trans rfl
theorem k_X3_nextDesk_81 : lk 81 C_X3_nextDesk = some (.istore 7, (0, 0, 0, 0)) := by decide +kernel
theorem s_X3_nextDesk_81 {ca : Nat → List Value → tM → tO} {M : tM} {a0 a1 a2 a3 a4 a5 a6 a7 a8 : Option Value} {x : Int32} {S : List Value} : rn ca C_X3_nextDesk 81 [a0, a1, a2, a3, a4, a5, a6, a7, a8] (.int x :: S) M = rn ca C_X3_nextDesk 83 [a0, a1, a2, a3, a4, a5, a6, some (.int x), a8] S M := (rn_at k_X3_nextDesk_81).trans rfl
theorem k_X3_nextDesk_83 : lk 83 C_X3_nextDesk = some (.iload 7, (0, 0, 0, 0)) := by decide +kernel
theorem s_X3_nextDesk_83 {ca : Nat → List Value → tM → tO} {M : tM} {a0 a1 a2 a3 a4 a5 a6 a8 : Option Value} {x : Int32} {S : List Value} : rn ca C_X3_nextDesk 83 [a0, a1, a2, a3, a4, a5, a6, some (.int x), a8] S M = rn ca C_X3_nextDesk 85 [a0, a1, a2, a3, a4, a5, a6, some (.int x), a8] (.int x :: S) M := (rn_at k_X3_nextDesk_83).trans rfl
theorem k_X3_nextDesk_85 : lk 85 C_X3_nextDesk = some (.aload_n 1, (0, 0, 0, 0)) := by decide +kernel
theorem s_X3_nextDesk_85 {ca : Nat → List Value → tM → tO} {M : tM} {a0 a2 a3 a4 a5 a6 a7 a8 : Option Value} {x : Nat} {S : List Value} : rn ca C_X3_nextDesk 85 [a0, some (.ref x), a2, a3, a4, a5, a6, a7, a8] S M = rn ca C_X3_nextDesk 86 [a0, some (.ref x), a2, a3, a4, a5, a6, a7, a8] (.ref x :: S) M := (rn_at k_X3_nextDesk_85).trans rfl
theorem k_X3_nextDesk_86 : lk 86 C_X3_nextDesk = some (.getfield 52, (4, 0, 0, 100001)) := by decide +kernel
theorem s_X3_nextDesk_86 {ca : Nat → List Value → tM → tO} {M : tM} {L : tL} {b : Nat} {S : List Value} : rn ca C_X3_nextDesk 86 L (.ref b :: S) M = if clsO b = some 4 then rn ca C_X3_nextDesk 89 L (fv M b 0 :: S) M else none := (rn_at k_X3_nextDesk_86).trans rnx_ite
theorem k_X3_nextDesk_89 : lk 89 C_X3_nextDesk = some (.if_icmp .ge 52, (141, 0, 0, 0)) := by decide +kernel
theorem s_X3_nextDesk_89 {ca : Nat → List Value → tM → tO} {M : tM} {L : tL} {x y : Int32} {S : List Value} : rn ca C_X3_nextDesk 89 L (.int y :: .int x :: S) M = if y ≤ x then rn ca C_X3_nextDesk 141 L S M else rn ca C_X3_nextDesk 92 L S M := (rn_at k_X3_nextDesk_89).trans rnx_ite
theorem k_X3_nextDesk_92 : lk 92 C_X3_nextDesk = some (.iload 7, (0, 0, 0, 0)) := by decide +kernel
theorem s_X3_nextDesk_92 {ca : Nat → List Value → tM → tO} {M : tM} {a0 a1 a2 a3 a4 a5 a6 a8 : Option Value} {x : Int32} {S : List Value} : rn ca C_X3_nextDesk 92 [a0, a1, a2, a3, a4, a5, a6, some (.int x), a8] S M = rn ca C_X3_nextDesk 94 [a0, a1, a2, a3, a4, a5, a6, some (.int x), a8] (.int x :: S) M := (rn_at k_X3_nextDesk_92).trans rfl
theorem k_X3_nextDesk_94 : lk 94 C_X3_nextDesk = some (.bipush 8, (0, 0, 0, 0)) := by decide +kernel
theorem s_X3_nextDesk_94 {ca : Nat → List Value → tM → tO} {M : tM} {L : tL} {S : List Value} : rn ca C_X3_nextDesk 94 L S M = rn ca C_X3_nextDesk 96 L (.int (iI 8) :: S) M := (rn_at k_X3_nextDesk_94).trans rfl
theorem k_X3_nextDesk_96 : lk 96 C_X3_nextDesk = some (.if_icmp .ge 45, (141, 0, 0, 0)) := by decide +kernel
theorem s_X3_nextDesk_96 {ca : Nat → List Value → tM → tO} {M : tM} {L : tL} {x y : Int32} {S : List Value} : rn ca C_X3_nextDesk 96 L (.int y :: .int x :: S) M = if y ≤ x then rn ca C_X3_nextDesk 141 L S M else rn ca C_X3_nextDesk 99 L S M := (rn_at k_X3_nextDesk_96).trans rnx_ite
theorem k_X3_nextDesk_99 : lk 99 C_X3_nextDesk = some (.iload 4, (0, 0, 0, 0)) := by decide +kernel
theorem s_X3_nextDesk_99 {ca : Nat → List Value → tM → tO} {M : tM} {a0 a1 a2 a3 a5 a6 a7 a8 : Option Value} {x : Int32} {S : List Value} : rn ca C_X3_nextDesk 99 [a0, a1, a2, a3, some (.int x), a5, a6, a7, a8] S M = rn ca C_X3_nextDesk 101 [a0, a1, a2, a3, some (.int x), a5, a6, a7, a8] (.int x :: S) M := (rn_at k_X3_nextDesk_99).trans rfl
theorem k_X3_nextDesk_101 : lk 101 C_X3_nextDesk = some (.iconst 1, (0, 0, 0, 0)) := by decide +kernel
theorem s_X3_nextDesk_101 {ca : Nat → List Value → tM → tO} {M : tM} {L : tL} {S : List Value} : rn ca C_X3_nextDesk 101 L S M = rn ca C_X3_nextDesk 102 L (.int (iI 1) :: S) M := (rn_at k_X3_nextDesk_101).trans rfl
theorem k_X3_nextDesk_102 : lk 102 C_X3_nextDesk = some (.iload 7, (0, 0, 0, 0)) := by decide +kernel
theorem s_X3_nextDesk_102 {ca : Nat → List Value → tM → tO} {M : tM} {a0 a1 a2 a3 a4 a5 a6 a8 : Option Value} {x : Int32} {S : List Value} : rn ca C_X3_nextDesk 102 [a0, a1, a2, a3, a4, a5, a6, some (.int x), a8] S M = rn ca C_X3_nextDesk 104 [a0, a1, a2, a3, a4, a5, a6, some (.int x), a8] (.int x :: S) M := (rn_at k_X3_nextDesk_102).trans rfl
theorem k_X3_nextDesk_104 : lk 104 C_X3_nextDesk = some (.ishl, (0, 0, 0, 0)) := by decide +kernel
theorem s_X3_nextDesk_104 {ca : Nat → List Value → tM → tO} {M : tM} {L : tL} {x y : Int32} {S : List Value} : rn ca C_X3_nextDesk 104 L (.int y :: .int x :: S) M = rn ca C_X3_nextDesk 105 L (.int (x <<< (y &&& 31)) :: S) M := (rn_at k_X3_nextDesk_104).trans rfl
theorem k_X3_nextDesk_105 : lk 105 C_X3_nextDesk = some (.iand, (0, 0, 0, 0)) := by decide +kernel
theorem s_X3_nextDesk_105 {ca : Nat → List Value → tM → tO} {M : tM} {L : tL} {x y : Int32} {S : List Value} : rn ca C_X3_nextDesk 105 L (.int y :: .int x :: S) M = rn ca C_X3_nextDesk 106 L (.int (x &&& y) :: S) M := (rn_at k_X3_nextDesk_105).trans rfl
theorem k_X3_nextDesk_106 : lk 106 C_X3_nextDesk = some (.ifCond .ne 29, (135, 0, 0, 0)) := by decide +kernel
theorem s_X3_nextDesk_106 {ca : Nat → List Value → tM → tO} {M : tM} {L : tL} {x : Int32} {S : List Value} : rn ca C_X3_nextDesk 106 L (.int x :: S) M = if ¬ x = iI 0 then rn ca C_X3_nextDesk 135 L S M else rn ca C_X3_nextDesk 109 L S M := (rn_at k_X3_nextDesk_106).trans rnx_ite
theorem k_X3_nextDesk_109 : lk 109 C_X3_nextDesk = some (.aload_n 0, (0, 0, 0, 0)) := by decide +kernel
theorem s_X3_nextDesk_109 {ca : Nat → List Value → tM → tO} {M : tM} {a1 a2 a3 a4 a5 a6 a7 a8 : Option Value} {x : Nat} {S : List Value} : rn ca C_X3_nextDesk 109 [some (.ref x), a1, a2, a3, a4, a5, a6, a7, a8] S M = rn ca C_X3_nextDesk 110 [some (.ref x), a1, a2, a3, a4, a5, a6, a7, a8] (.ref x :: S) M := (rn_at k_X3_nextDesk_109).trans rfl
theorem k_X3_nextDesk_110 : lk 110 C_X3_nextDesk = some (.aload_n 1, (0, 0, 0, 0)) := by decide +kernel
theorem s_X3_nextDesk_110 {ca : Nat → List Value → tM → tO} {M : tM} {a0 a2 a3 a4 a5 a6 a7 a8 : Option Value} {x : Nat} {S : List Value} : rn ca C_X3_nextDesk 110 [a0, some (.ref x), a2, a3, a4, a5, a6, a7, a8] S M = rn ca C_X3_nextDesk 111 [a0, some (.ref x), a2, a3, a4, a5, a6, a7, a8] (.ref x :: S) M := (rn_at k_X3_nextDesk_110).trans rfl
theorem k_X3_nextDesk_111 : lk 111 C_X3_nextDesk = some (.iload_n 2, (0, 0, 0, 0)) := by decide +kernel
theorem s_X3_nextDesk_111 {ca : Nat → List Value → tM → tO} {M : tM} {a0 a1 a3 a4 a5 a6 a7 a8 : Option Value} {x : Int32} {S : List Value} : rn ca C_X3_nextDesk 111 [a0, a1, some (.int x), a3, a4, a5, a6, a7, a8] S M = rn ca C_X3_nextDesk 112 [a0, a1, some (.int x), a3, a4, a5, a6, a7, a8] (.int x :: S) M := (rn_at k_X3_nextDesk_111).trans rfl
theorem k_X3_nextDesk_112 : lk 112 C_X3_nextDesk = some (.iload_n 3, (0, 0, 0, 0)) := by decide +kernel
theorem s_X3_nextDesk_112 {ca : Nat → List Value → tM → tO} {M : tM} {a0 a1 a2 a4 a5 a6 a7 a8 : Option Value} {x : Int32} {S : List Value} : rn ca C_X3_nextDesk 112 [a0, a1, a2, some (.int x), a4, a5, a6, a7, a8] S M = rn ca C_X3_nextDesk 113 [a0, a1, a2, some (.int x), a4, a5, a6, a7, a8] (.int x :: S) M := (rn_at k_X3_nextDesk_112).trans rfl
theorem k_X3_nextDesk_113 : lk 113 C_X3_nextDesk = some (.iload 7, (0, 0, 0, 0)) := by decide +kernel
theorem s_X3_nextDesk_113 {ca : Nat → List Value → tM → tO} {M : tM} {a0 a1 a2 a3 a4 a5 a6 a8 : Option Value} {x : Int32} {S : List Value} : rn ca C_X3_nextDesk 113 [a0, a1, a2, a3, a4, a5, a6, some (.int x), a8] S M = rn ca C_X3_nextDesk 115 [a0, a1, a2, a3, a4, a5, a6, some (.int x), a8] (.int x :: S) M := (rn_at k_X3_nextDesk_113).trans rfl
theorem k_X3_nextDesk_115 : lk 115 C_X3_nextDesk = some (.invokevirtual 82, (16, 4, 3, 1003)) := by decide +kernel
theorem s_X3_nextDesk_115 {ca : Nat → List Value → tM → tO} {M : tM} {L : tL} {v1 v2 v3 v4 : Value} {b : Nat} : rn ca C_X3_nextDesk 115 L [v4, v3, v2, v1, .ref b] M = if clsO b = some 3 then rnk ca C_X3_nextDesk 118 L [] (ca m_X3_mostLeft [.ref b, v1, v2, v3, v4] M) else none := (rn_at k_X3_nextDesk_115).trans rnx_ite
theorem k_X3_nextDesk_118 : lk 118 C_X3_nextDesk = some (.istore 8, (0, 0, 0, 0)) := by decide +kernel
theorem s_X3_nextDesk_118 {ca : Nat → List Value → tM → tO} {M : tM} {a0 a1 a2 a3 a4 a5 a6 a7 a8 : Option Value} {x : Int32} {S : List Value} : rn ca C_X3_nextDesk 118 [a0, a1, a2, a3, a4, a5, a6, a7, a8] (.int x :: S) M = rn ca C_X3_nextDesk 120 [a0, a1, a2, a3, a4, a5, a6, a7, some (.int x)] S M := (rn_at k_X3_nextDesk_118).trans rfl
theorem k_X3_nextDesk_120 : lk 120 C_X3_nextDesk = some (.iload 8, (0, 0, 0, 0)) := by decide +kernel
theorem s_X3_nextDesk_120 {ca : Nat → List Value → tM → tO} {M : tM} {a0 a1 a2 a3 a4 a5 a6 a7 : Option Value} {x : Int32} {S : List Value} : rn ca C_X3_nextDesk 120 [a0, a1, a2, a3, a4, a5, a6, a7, some (.int x)] S M = rn ca C_X3_nextDesk 122 [a0, a1, a2, a3, a4, a5, a6, a7, some (.int x)] (.int x :: S) M := (rn_at k_X3_nextDesk_120).trans rfl
theorem k_X3_nextDesk_122 : lk 122 C_X3_nextDesk = some (.iload 6, (0, 0, 0, 0)) := by decide +kernel
theorem s_X3_nextDesk_122 {ca : Nat → List Value → tM → tO} {M : tM} {a0 a1 a2 a3 a4 a5 a7 a8 : Option Value} {x : Int32} {S : List Value} : rn ca C_X3_nextDesk 122 [a0, a1, a2, a3, a4, a5, some (.int x), a7, a8] S M = rn ca C_X3_nextDesk 124 [a0, a1, a2, a3, a4, a5, some (.int x), a7, a8] (.int x :: S) M := (rn_at k_X3_nextDesk_122).trans rfl
theorem k_X3_nextDesk_124 : lk 124 C_X3_nextDesk = some (.if_icmp .ge 11, (135, 0, 0, 0)) := by decide +kernel
theorem s_X3_nextDesk_124 {ca : Nat → List Value → tM → tO} {M : tM} {L : tL} {x y : Int32} {S : List Value} : rn ca C_X3_nextDesk 124 L (.int y :: .int x :: S) M = if y ≤ x then rn ca C_X3_nextDesk 135 L S M else rn ca C_X3_nextDesk 127 L S M := (rn_at k_X3_nextDesk_124).trans rnx_ite
theorem k_X3_nextDesk_127 : lk 127 C_X3_nextDesk = some (.iload 8, (0, 0, 0, 0)) := by decide +kernel
theorem s_X3_nextDesk_127 {ca : Nat → List Value → tM → tO} {M : tM} {a0 a1 a2 a3 a4 a5 a6 a7 : Option Value} {x : Int32} {S : List Value} : rn ca C_X3_nextDesk 127 [a0, a1, a2, a3, a4, a5, a6, a7, some (.int x)] S M = rn ca C_X3_nextDesk 129 [a0, a1, a2, a3, a4, a5, a6, a7, some (.int x)] (.int x :: S) M := (rn_at k_X3_nextDesk_127).trans rfl
theorem k_X3_nextDesk_129 : lk 129 C_X3_nextDesk = some (.istore 6, (0, 0, 0, 0)) := by decide +kernel
theorem s_X3_nextDesk_129 {ca : Nat → List Value → tM → tO} {M : tM} {a0 a1 a2 a3 a4 a5 a6 a7 a8 : Option Value} {x : Int32} {S : List Value} : rn ca C_X3_nextDesk 129 [a0, a1, a2, a3, a4, a5, a6, a7, a8] (.int x :: S) M = rn ca C_X3_nextDesk 131 [a0, a1, a2, a3, a4, a5, some (.int x), a7, a8] S M := (rn_at k_X3_nextDesk_129).trans rfl
theorem k_X3_nextDesk_131 : lk 131 C_X3_nextDesk = some (.iload 7, (0, 0, 0, 0)) := by decide +kernel
theorem s_X3_nextDesk_131 {ca : Nat → List Value → tM → tO} {M : tM} {a0 a1 a2 a3 a4 a5 a6 a8 : Option Value} {x : Int32} {S : List Value} : rn ca C_X3_nextDesk 131 [a0, a1, a2, a3, a4, a5, a6, some (.int x), a8] S M = rn ca C_X3_nextDesk 133 [a0, a1, a2, a3, a4, a5, a6, some (.int x), a8] (.int x :: S) M := (rn_at k_X3_nextDesk_131).trans rfl
theorem k_X3_nextDesk_133 : lk 133 C_X3_nextDesk = some (.istore 5, (0, 0, 0, 0)) := by decide +kernel
theorem s_X3_nextDesk_133 {ca : Nat → List Value → tM → tO} {M : tM} {a0 a1 a2 a3 a4 a5 a6 a7 a8 : Option Value} {x : Int32} {S : List Value} : rn ca C_X3_nextDesk 133 [a0, a1, a2, a3, a4, a5, a6, a7, a8] (.int x :: S) M = rn ca C_X3_nextDesk 135 [a0, a1, a2, a3, a4, some (.int x), a6, a7, a8] S M := (rn_at k_X3_nextDesk_133).trans rfl
theorem k_X3_nextDesk_135 : lk 135 C_X3_nextDesk = some (.iinc 7 1, (0, 0, 0, 0)) := by decide +kernel
theorem s_X3_nextDesk_135 {ca : Nat → List Value → tM → tO} {M : tM} {a0 a1 a2 a3 a4 a5 a6 a8 : Option Value} {x : Int32} {S : List Value} : rn ca C_X3_nextDesk 135 [a0, a1, a2, a3, a4, a5, a6, some (.int x), a8] S M = rn ca C_X3_nextDesk 138 [a0, a1, a2, a3, a4, a5, a6, some (.int (x + iI 1)), a8] S M := (rn_at k_X3_nextDesk_135).trans rfl
theorem k_X3_nextDesk_138 : lk 138 C_X3_nextDesk = some (.goto (-55), (83, 0, 0, 0)) := by decide +kernel
theorem s_X3_nextDesk_138 {ca : Nat → List Value → tM → tO} {M : tM} {L : tL} {S : List Value} : rn ca C_X3_nextDesk 138 L S M = rn ca C_X3_nextDesk 83 L S M := (rn_at k_X3_nextDesk_138).trans rfl
theorem k_X3_nextDesk_141 : lk 141 C_X3_nextDesk = some (.iload 5, (0, 0, 0, 0)) := by decide +kernel
theorem s_X3_nextDesk_141 {ca : Nat → List Value → tM → tO} {M : tM} {a0 a1 a2 a3 a4 a6 a7 a8 : Option Value} {x : Int32} {S : List Value} : rn ca C_X3_nextDesk 141 [a0, a1, a2, a3, a4, some (.int x), a6, a7, a8] S M = rn ca C_X3_nextDesk 143 [a0, a1, a2, a3, a4, some (.int x), a6, a7, a8] (.int x :: S) M := (rn_at k_X3_nextDesk_141).trans rfl
theorem k_X3_nextDesk_143 : lk 143 C_X3_nextDesk = some (.ireturn, (0, 0, 0, 0)) := by decide +kernel
theorem s_X3_nextDesk_143 {ca : Nat → List Value → tM → tO} {M : tM} {L : tL} {x : Int32} : rn ca C_X3_nextDesk 143 L [.int x] M = some (some (.int x), M) := (rn_at k_X3_nextDesk_143).trans rfl
theorem k_X3_mostLeft_0 : lk 0 C_X3_mostLeft = some (.iconst 0, (0, 0, 0, 0)) := by decide +kernel
theorem s_X3_mostLeft_0 {ca : Nat → List Value → tM → tO} {M : tM} {L : tL} {S : List Value} : rn ca C_X3_mostLeft 0 L S M = rn ca C_X3_mostLeft 1 L (.int (iI 0) :: S) M := (rn_at k_X3_mostLeft_0).trans rfl
theorem k_X3_mostLeft_1 : lk 1 C_X3_mostLeft = some (.istore 5, (0, 0, 0, 0)) := by decide +kernel
theorem s_X3_mostLeft_1 {ca : Nat → List Value → tM → tO} {M : tM} {a0 a1 a2 a3 a4 a5 a6 a7 a8 : Option Value} {x : Int32} {S : List Value} : rn ca C_X3_mostLeft 1 [a0, a1, a2, a3, a4, a5, a6, a7, a8] (.int x :: S) M = rn ca C_X3_mostLeft 3 [a0, a1, a2, a3, a4, some (.int x), a6, a7, a8] S M := (rn_at k_X3_mostLeft_1).trans rfl
theorem k_X3_mostLeft_3 : lk 3 C_X3_mostLeft = some (.iconst 0, (0, 0, 0, 0)) := by decide +kernel
theorem s_X3_mostLeft_3 {ca : Nat → List Value → tM → tO} {M : tM} {L : tL} {S : List Value} : rn ca C_X3_mostLeft 3 L S M = rn ca C_X3_mostLeft 4 L (.int (iI 0) :: S) M := (rn_at k_X3_mostLeft_3).trans rfl
theorem k_X3_mostLeft_4 : lk 4 C_X3_mostLeft = some (.istore 6, (0, 0, 0, 0)) := by decide +kernel
theorem s_X3_mostLeft_4 {ca : Nat → List Value → tM → tO} {M : tM} {a0 a1 a2 a3 a4 a5 a6 a7 a8 : Option Value} {x : Int32} {S : List Value} : rn ca C_X3_mostLeft 4 [a0, a1, a2, a3, a4, a5, a6, a7, a8] (.int x :: S) M = rn ca C_X3_mostLeft 6 [a0, a1, a2, a3, a4, a5, some (.int x), a7, a8] S M := (rn_at k_X3_mostLeft_4).trans rfl
theorem k_X3_mostLeft_6 : lk 6 C_X3_mostLeft = some (.iload 6, (0, 0, 0, 0)) := by decide +kernel
theorem s_X3_mostLeft_6 {ca : Nat → List Value → tM → tO} {M : tM} {a0 a1 a2 a3 a4 a5 a7 a8 : Option Value} {x : Int32} {S : List Value} : rn ca C_X3_mostLeft 6 [a0, a1, a2, a3, a4, a5, some (.int x), a7, a8] S M = rn ca C_X3_mostLeft 8 [a0, a1, a2, a3, a4, a5, some (.int x), a7, a8] (.int x :: S) M := (rn_at k_X3_mostLeft_6).trans rfl
theorem k_X3_mostLeft_8 : lk 8 C_X3_mostLeft = some (.aload_n 1, (0, 0, 0, 0)) := by decide +kernel
theorem s_X3_mostLeft_8 {ca : Nat → List Value → tM → tO} {M : tM} {a0 a2 a3 a4 a5 a6 a7 a8 : Option Value} {x : Nat} {S : List Value} : rn ca C_X3_mostLeft 8 [a0, some (.ref x), a2, a3, a4, a5, a6, a7, a8] S M = rn ca C_X3_mostLeft 9 [a0, some (.ref x), a2, a3, a4, a5, a6, a7, a8] (.ref x :: S) M := (rn_at k_X3_mostLeft_8).trans rfl
theorem k_X3_mostLeft_9 : lk 9 C_X3_mostLeft = some (.getfield 47, (4, 2, 0, 100009)) := by decide +kernel
theorem s_X3_mostLeft_9 {ca : Nat → List Value → tM → tO} {M : tM} {L : tL} {b : Nat} {S : List Value} : rn ca C_X3_mostLeft 9 L (.ref b :: S) M = if clsO b = some 4 then rn ca C_X3_mostLeft 12 L (fv M b 2 :: S) M else none := (rn_at k_X3_mostLeft_9).trans rnx_ite
theorem k_X3_mostLeft_12 : lk 12 C_X3_mostLeft = some (.if_icmp .ge 95, (107, 0, 0, 0)) := by decide +kernel
theorem s_X3_mostLeft_12 {ca : Nat → List Value → tM → tO} {M : tM} {L : tL} {x y : Int32} {S : List Value} : rn ca C_X3_mostLeft 12 L (.int y :: .int x :: S) M = if y ≤ x then rn ca C_X3_mostLeft 107 L S M else rn ca C_X3_mostLeft 15 L S M := (rn_at k_X3_mostLeft_12).trans rnx_ite
theorem k_X3_mostLeft_15 : lk 15 C_X3_mostLeft = some (.iload 6, (0, 0, 0, 0)) := by decide +kernel
theorem s_X3_mostLeft_15 {ca : Nat → List Value → tM → tO} {M : tM} {a0 a1 a2 a3 a4 a5 a7 a8 : Option Value} {x : Int32} {S : List Value} : rn ca C_X3_mostLeft 15 [a0, a1, a2, a3, a4, a5, some (.int x), a7, a8] S M = rn ca C_X3_mostLeft 17 [a0, a1, a2, a3, a4, a5, some (.int x), a7, a8] (.int x :: S) M := (rn_at k_X3_mostLeft_15).trans rfl
theorem k_X3_mostLeft_17 : lk 17 C_X3_mostLeft = some (.bipush 16, (0, 0, 0, 0)) := by decide +kernel
theorem s_X3_mostLeft_17 {ca : Nat → List Value → tM → tO} {M : tM} {L : tL} {S : List Value} : rn ca C_X3_mostLeft 17 L S M = rn ca C_X3_mostLeft 19 L (.int (iI 16) :: S) M := (rn_at k_X3_mostLeft_17).trans rfl
theorem k_X3_mostLeft_19 : lk 19 C_X3_mostLeft = some (.if_icmp .ge 88, (107, 0, 0, 0)) := by decide +kernel
theorem s_X3_mostLeft_19 {ca : Nat → List Value → tM → tO} {M : tM} {L : tL} {x y : Int32} {S : List Value} : rn ca C_X3_mostLeft 19 L (.int y :: .int x :: S) M = if y ≤ x then rn ca C_X3_mostLeft 107 L S M else rn ca C_X3_mostLeft 22 L S M := (rn_at k_X3_mostLeft_19).trans rnx_ite
theorem k_X3_mostLeft_22 : lk 22 C_X3_mostLeft = some (.iconst 0, (0, 0, 0, 0)) := by decide +kernel
theorem s_X3_mostLeft_22 {ca : Nat → List Value → tM → tO} {M : tM} {L : tL} {S : List Value} : rn ca C_X3_mostLeft 22 L S M = rn ca C_X3_mostLeft 23 L (.int (iI 0) :: S) M := (rn_at k_X3_mostLeft_22).trans rfl
theorem k_X3_mostLeft_23 : lk 23 C_X3_mostLeft = some (.istore 7, (0, 0, 0, 0)) := by decide +kernel
theorem s_X3_mostLeft_23 {ca : Nat → List Value → tM → tO} {M : tM} {a0 a1 a2 a3 a4 a5 a6 a7 a8 : Option Value} {x : Int32} {S : List Value} : rn ca C_X3_mostLeft 23 [a0, a1, a2, a3, a4, a5, a6, a7, a8] (.int x :: S) M = rn ca C_X3_mostLeft 25 [a0, a1, a2, a3, a4, a5, a6, some (.int x), a8] S M := (rn_at k_X3_mostLeft_23).trans rfl
theorem k_X3_mostLeft_25 : lk 25 C_X3_mostLeft = some (.iconst 0, (0, 0, 0, 0)) := by decide +kernel
theorem s_X3_mostLeft_25 {ca : Nat → List Value → tM → tO} {M : tM} {L : tL} {S : List Value} : rn ca C_X3_mostLeft 25 L S M = rn ca C_X3_mostLeft 26 L (.int (iI 0) :: S) M := (rn_at k_X3_mostLeft_25).trans rfl
theorem k_X3_mostLeft_26 : lk 26 C_X3_mostLeft = some (.istore 8, (0, 0, 0, 0)) := by decide +kernel
theorem s_X3_mostLeft_26 {ca : Nat → List Value → tM → tO} {M : tM} {a0 a1 a2 a3 a4 a5 a6 a7 a8 : Option Value} {x : Int32} {S : List Value} : rn ca C_X3_mostLeft 26 [a0, a1, a2, a3, a4, a5, a6, a7, a8] (.int x :: S) M = rn ca C_X3_mostLeft 28 [a0, a1, a2, a3, a4, a5, a6, a7, some (.int x)] S M := (rn_at k_X3_mostLeft_26).trans rfl
theorem k_X3_mostLeft_28 : lk 28 C_X3_mostLeft = some (.iload 8, (0, 0, 0, 0)) := by decide +kernel
theorem s_X3_mostLeft_28 {ca : Nat → List Value → tM → tO} {M : tM} {a0 a1 a2 a3 a4 a5 a6 a7 : Option Value} {x : Int32} {S : List Value} : rn ca C_X3_mostLeft 28 [a0, a1, a2, a3, a4, a5, a6, a7, some (.int x)] S M = rn ca C_X3_mostLeft 30 [a0, a1, a2, a3, a4, a5, a6, a7, some (.int x)] (.int x :: S) M := (rn_at k_X3_mostLeft_28).trans rfl
theorem k_X3_mostLeft_30 : lk 30 C_X3_mostLeft = some (.aload_n 1, (0, 0, 0, 0)) := by decide +kernel
theorem s_X3_mostLeft_30 {ca : Nat → List Value → tM → tO} {M : tM} {a0 a2 a3 a4 a5 a6 a7 a8 : Option Value} {x : Nat} {S : List Value} : rn ca C_X3_mostLeft 30 [a0, some (.ref x), a2, a3, a4, a5, a6, a7, a8] S M = rn ca C_X3_mostLeft 31 [a0, some (.ref x), a2, a3, a4, a5, a6, a7, a8] (.ref x :: S) M := (rn_at k_X3_mostLeft_30).trans rfl
theorem k_X3_mostLeft_31 : lk 31 C_X3_mostLeft = some (.getfield 47, (4, 2, 0, 100009)) := by decide +kernel
theorem s_X3_mostLeft_31 {ca : Nat → List Value → tM → tO} {M : tM} {L : tL} {b : Nat} {S : List Value} : rn ca C_X3_mostLeft 31 L (.ref b :: S) M = if clsO b = some 4 then rn ca C_X3_mostLeft 34 L (fv M b 2 :: S) M else none := (rn_at k_X3_mostLeft_31).trans rnx_ite
theorem k_X3_mostLeft_34 : lk 34 C_X3_mostLeft = some (.if_icmp .ge 58, (92, 0, 0, 0)) := by decide +kernel
theorem s_X3_mostLeft_34 {ca : Nat → List Value → tM → tO} {M : tM} {L : tL} {x y : Int32} {S : List Value} : rn ca C_X3_mostLeft 34 L (.int y :: .int x :: S) M = if y ≤ x then rn ca C_X3_mostLeft 92 L S M else rn ca C_X3_mostLeft 37 L S M := (rn_at k_X3_mostLeft_34).trans rnx_ite
theorem k_X3_mostLeft_37 : lk 37 C_X3_mostLeft = some (.iload 8, (0, 0, 0, 0)) := by decide +kernel
theorem s_X3_mostLeft_37 {ca : Nat → List Value → tM → tO} {M : tM} {a0 a1 a2 a3 a4 a5 a6 a7 : Option Value} {x : Int32} {S : List Value} : rn ca C_X3_mostLeft 37 [a0, a1, a2, a3, a4, a5, a6, a7, some (.int x)] S M = rn ca C_X3_mostLeft 39 [a0, a1, a2, a3, a4, a5, a6, a7, some (.int x)] (.int x :: S) M := (rn_at k_X3_mostLeft_37).trans rfl
theorem k_X3_mostLeft_39 : lk 39 C_X3_mostLeft = some (.bipush 16, (0, 0, 0, 0)) := by decide +kernel
theorem s_X3_mostLeft_39 {ca : Nat → List Value → tM → tO} {M : tM} {L : tL} {S : List Value} : rn ca C_X3_mostLeft 39 L S M = rn ca C_X3_mostLeft 41 L (.int (iI 16) :: S) M := (rn_at k_X3_mostLeft_39).trans rfl
theorem k_X3_mostLeft_41 : lk 41 C_X3_mostLeft = some (.if_icmp .ge 51, (92, 0, 0, 0)) := by decide +kernel
theorem s_X3_mostLeft_41 {ca : Nat → List Value → tM → tO} {M : tM} {L : tL} {x y : Int32} {S : List Value} : rn ca C_X3_mostLeft 41 L (.int y :: .int x :: S) M = if y ≤ x then rn ca C_X3_mostLeft 92 L S M else rn ca C_X3_mostLeft 44 L S M := (rn_at k_X3_mostLeft_41).trans rnx_ite
theorem k_X3_mostLeft_44 : lk 44 C_X3_mostLeft = some (.iload_n 2, (0, 0, 0, 0)) := by decide +kernel
theorem s_X3_mostLeft_44 {ca : Nat → List Value → tM → tO} {M : tM} {a0 a1 a3 a4 a5 a6 a7 a8 : Option Value} {x : Int32} {S : List Value} : rn ca C_X3_mostLeft 44 [a0, a1, some (.int x), a3, a4, a5, a6, a7, a8] S M = rn ca C_X3_mostLeft 45 [a0, a1, some (.int x), a3, a4, a5, a6, a7, a8] (.int x :: S) M := (rn_at k_X3_mostLeft_44).trans rfl
theorem k_X3_mostLeft_45 : lk 45 C_X3_mostLeft = some (.iconst 1, (0, 0, 0, 0)) := by decide +kernel
theorem s_X3_mostLeft_45 {ca : Nat → List Value → tM → tO} {M : tM} {L : tL} {S : List Value} : rn ca C_X3_mostLeft 45 L S M = rn ca C_X3_mostLeft 46 L (.int (iI 1) :: S) M := (rn_at k_X3_mostLeft_45).trans rfl
theorem k_X3_mostLeft_46 : lk 46 C_X3_mostLeft = some (.iload 6, (0, 0, 0, 0)) := by decide +kernel
theorem s_X3_mostLeft_46 {ca : Nat → List Value → tM → tO} {M : tM} {a0 a1 a2 a3 a4 a5 a7 a8 : Option Value} {x : Int32} {S : List Value} : rn ca C_X3_mostLeft 46 [a0, a1, a2, a3, a4, a5, some (.int x), a7, a8] S M = rn ca C_X3_mostLeft 48 [a0, a1, a2, a3, a4, a5, some (.int x), a7, a8] (.int x :: S) M := (rn_at k_X3_mostLeft_46).trans rfl
theorem k_X3_mostLeft_48 : lk 48 C_X3_mostLeft = some (.ishl, (0, 0, 0, 0)) := by decide +kernel
theorem s_X3_mostLeft_48 {ca : Nat → List Value → tM → tO} {M : tM} {L : tL} {x y : Int32} {S : List Value} : rn ca C_X3_mostLeft 48 L (.int y :: .int x :: S) M = rn ca C_X3_mostLeft 49 L (.int (x <<< (y &&& 31)) :: S) M := (rn_at k_X3_mostLeft_48).trans rfl
theorem k_X3_mostLeft_49 : lk 49 C_X3_mostLeft = some (.iand, (0, 0, 0, 0)) := by decide +kernel
theorem s_X3_mostLeft_49 {ca : Nat → List Value → tM → tO} {M : tM} {L : tL} {x y : Int32} {S : List Value} : rn ca C_X3_mostLeft 49 L (.int y :: .int x :: S) M = rn ca C_X3_mostLeft 50 L (.int (x &&& y) :: S) M := (rn_at k_X3_mostLeft_49).trans rfl
theorem k_X3_mostLeft_50 : lk 50 C_X3_mostLeft = some (.ifCond .eq 36, (86, 0, 0, 0)) := by decide +kernel
theorem s_X3_mostLeft_50 {ca : Nat → List Value → tM → tO} {M : tM} {L : tL} {x : Int32} {S : List Value} : rn ca C_X3_mostLeft 50 L (.int x :: S) M = if x = iI 0 then rn ca C_X3_mostLeft 86 L S M else rn ca C_X3_mostLeft 53 L S M := (rn_at k_X3_mostLeft_50).trans rnx_ite
theorem k_X3_mostLeft_53 : lk 53 C_X3_mostLeft = some (.iload_n 2, (0, 0, 0, 0)) := by decide +kernel
theorem s_X3_mostLeft_53 {ca : Nat → List Value → tM → tO} {M : tM} {a0 a1 a3 a4 a5 a6 a7 a8 : Option Value} {x : Int32} {S : List Value} : rn ca C_X3_mostLeft 53 [a0, a1, some (.int x), a3, a4, a5, a6, a7, a8] S M = rn ca C_X3_mostLeft 54 [a0, a1, some (.int x), a3, a4, a5, a6, a7, a8] (.int x :: S) M := (rn_at k_X3_mostLeft_53).trans rfl
theorem k_X3_mostLeft_54 : lk 54 C_X3_mostLeft = some (.iconst 1, (0, 0, 0, 0)) := by decide +kernel
theorem s_X3_mostLeft_54 {ca : Nat → List Value → tM → tO} {M : tM} {L : tL} {S : List Value} : rn ca C_X3_mostLeft 54 L S M = rn ca C_X3_mostLeft 55 L (.int (iI 1) :: S) M := (rn_at k_X3_mostLeft_54).trans rfl
theorem k_X3_mostLeft_55 : lk 55 C_X3_mostLeft = some (.iload 8, (0, 0, 0, 0)) := by decide +kernel
theorem s_X3_mostLeft_55 {ca : Nat → List Value → tM → tO} {M : tM} {a0 a1 a2 a3 a4 a5 a6 a7 : Option Value} {x : Int32} {S : List Value} : rn ca C_X3_mostLeft 55 [a0, a1, a2, a3, a4, a5, a6, a7, some (.int x)] S M = rn ca C_X3_mostLeft 57 [a0, a1, a2, a3, a4, a5, a6, a7, some (.int x)] (.int x :: S) M := (rn_at k_X3_mostLeft_55).trans rfl
theorem k_X3_mostLeft_57 : lk 57 C_X3_mostLeft = some (.ishl, (0, 0, 0, 0)) := by decide +kernel
theorem s_X3_mostLeft_57 {ca : Nat → List Value → tM → tO} {M : tM} {L : tL} {x y : Int32} {S : List Value} : rn ca C_X3_mostLeft 57 L (.int y :: .int x :: S) M = rn ca C_X3_mostLeft 58 L (.int (x <<< (y &&& 31)) :: S) M := (rn_at k_X3_mostLeft_57).trans rfl
theorem k_X3_mostLeft_58 : lk 58 C_X3_mostLeft = some (.iand, (0, 0, 0, 0)) := by decide +kernel
theorem s_X3_mostLeft_58 {ca : Nat → List Value → tM → tO} {M : tM} {L : tL} {x y : Int32} {S : List Value} : rn ca C_X3_mostLeft 58 L (.int y :: .int x :: S) M = rn ca C_X3_mostLeft 59 L (.int (x &&& y) :: S) M := (rn_at k_X3_mostLeft_58).trans rfl
theorem k_X3_mostLeft_59 : lk 59 C_X3_mostLeft = some (.ifCond .eq 27, (86, 0, 0, 0)) := by decide +kernel
theorem s_X3_mostLeft_59 {ca : Nat → List Value → tM → tO} {M : tM} {L : tL} {x : Int32} {S : List Value} : rn ca C_X3_mostLeft 59 L (.int x :: S) M = if x = iI 0 then rn ca C_X3_mostLeft 86 L S M else rn ca C_X3_mostLeft 62 L S M := (rn_at k_X3_mostLeft_59).trans rnx_ite
theorem k_X3_mostLeft_62 : lk 62 C_X3_mostLeft = some (.aload_n 0, (0, 0, 0, 0)) := by decide +kernel
theorem s_X3_mostLeft_62 {ca : Nat → List Value → tM → tO} {M : tM} {a1 a2 a3 a4 a5 a6 a7 a8 : Option Value} {x : Nat} {S : List Value} : rn ca C_X3_mostLeft 62 [some (.ref x), a1, a2, a3, a4, a5, a6, a7, a8] S M = rn ca C_X3_mostLeft 63 [some (.ref x), a1, a2, a3, a4, a5, a6, a7, a8] (.ref x :: S) M := (rn_at k_X3_mostLeft_62).trans rfl
theorem k_X3_mostLeft_63 : lk 63 C_X3_mostLeft = some (.iload 6, (0, 0, 0, 0)) := by decide +kernel
theorem s_X3_mostLeft_63 {ca : Nat → List Value → tM → tO} {M : tM} {a0 a1 a2 a3 a4 a5 a7 a8 : Option Value} {x : Int32} {S : List Value} : rn ca C_X3_mostLeft 63 [a0, a1, a2, a3, a4, a5, some (.int x), a7, a8] S M = rn ca C_X3_mostLeft 65 [a0, a1, a2, a3, a4, a5, some (.int x), a7, a8] (.int x :: S) M := (rn_at k_X3_mostLeft_63).trans rfl
theorem k_X3_mostLeft_65 : lk 65 C_X3_mostLeft = some (.iload_n 3, (0, 0, 0, 0)) := by decide +kernel
theorem s_X3_mostLeft_65 {ca : Nat → List Value → tM → tO} {M : tM} {a0 a1 a2 a4 a5 a6 a7 a8 : Option Value} {x : Int32} {S : List Value} : rn ca C_X3_mostLeft 65 [a0, a1, a2, some (.int x), a4, a5, a6, a7, a8] S M = rn ca C_X3_mostLeft 66 [a0, a1, a2, some (.int x), a4, a5, a6, a7, a8] (.int x :: S) M := (rn_at k_X3_mostLeft_65).trans rfl
theorem k_X3_mostLeft_66 : lk 66 C_X3_mostLeft = some (.iload 4, (0, 0, 0, 0)) := by decide +kernel
theorem s_X3_mostLeft_66 {ca : Nat → List Value → tM → tO} {M : tM} {a0 a1 a2 a3 a5 a6 a7 a8 : Option Value} {x : Int32} {S : List Value} : rn ca C_X3_mostLeft 66 [a0, a1, a2, a3, some (.int x), a5, a6, a7, a8] S M = rn ca C_X3_mostLeft 68 [a0, a1, a2, a3, some (.int x), a5, a6, a7, a8] (.int x :: S) M := (rn_at k_X3_mostLeft_66).trans rfl
theorem k_X3_mostLeft_68 : lk 68 C_X3_mostLeft = some (.invokevirtual 86, (17, 3, 3, 1008)) := by decide +kernel
theorem s_X3_mostLeft_68 {ca : Nat → List Value → tM → tO} {M : tM} {L : tL} {v1 v2 v3 : Value} {b : Nat} : rn ca C_X3_mostLeft 68 L [v3, v2, v1, .ref b] M = if clsO b = some 3 then rnk ca C_X3_mostLeft 71 L [] (ca m_X3_lateness [.ref b, v1, v2, v3] M) else none := (rn_at k_X3_mostLeft_68).trans rnx_ite
theorem k_X3_mostLeft_71 : lk 71 C_X3_mostLeft = some (.aload_n 0, (0, 0, 0, 0)) := by decide +kernel
theorem s_X3_mostLeft_71 {ca : Nat → List Value → tM → tO} {M : tM} {a1 a2 a3 a4 a5 a6 a7 a8 : Option Value} {x : Nat} {S : List Value} : rn ca C_X3_mostLeft 71 [some (.ref x), a1, a2, a3, a4, a5, a6, a7, a8] S M = rn ca C_X3_mostLeft 72 [some (.ref x), a1, a2, a3, a4, a5, a6, a7, a8] (.ref x :: S) M := (rn_at k_X3_mostLeft_71).trans rfl
theorem k_X3_mostLeft_72 : lk 72 C_X3_mostLeft = some (.iload 8, (0, 0, 0, 0)) := by decide +kernel
theorem s_X3_mostLeft_72 {ca : Nat → List Value → tM → tO} {M : tM} {a0 a1 a2 a3 a4 a5 a6 a7 : Option Value} {x : Int32} {S : List Value} : rn ca C_X3_mostLeft 72 [a0, a1, a2, a3, a4, a5, a6, a7, some (.int x)] S M = rn ca C_X3_mostLeft 74 [a0, a1, a2, a3, a4, a5, a6, a7, some (.int x)] (.int x :: S) M := (rn_at k_X3_mostLeft_72).trans rfl
theorem k_X3_mostLeft_74 : lk 74 C_X3_mostLeft = some (.iload_n 3, (0, 0, 0, 0)) := by decide +kernel
theorem s_X3_mostLeft_74 {ca : Nat → List Value → tM → tO} {M : tM} {a0 a1 a2 a4 a5 a6 a7 a8 : Option Value} {x : Int32} {S : List Value} : rn ca C_X3_mostLeft 74 [a0, a1, a2, some (.int x), a4, a5, a6, a7, a8] S M = rn ca C_X3_mostLeft 75 [a0, a1, a2, some (.int x), a4, a5, a6, a7, a8] (.int x :: S) M := (rn_at k_X3_mostLeft_74).trans rfl
theorem k_X3_mostLeft_75 : lk 75 C_X3_mostLeft = some (.iload 4, (0, 0, 0, 0)) := by decide +kernel
theorem s_X3_mostLeft_75 {ca : Nat → List Value → tM → tO} {M : tM} {a0 a1 a2 a3 a5 a6 a7 a8 : Option Value} {x : Int32} {S : List Value} : rn ca C_X3_mostLeft 75 [a0, a1, a2, a3, some (.int x), a5, a6, a7, a8] S M = rn ca C_X3_mostLeft 77 [a0, a1, a2, a3, some (.int x), a5, a6, a7, a8] (.int x :: S) M := (rn_at k_X3_mostLeft_75).trans rfl
theorem k_X3_mostLeft_77 : lk 77 C_X3_mostLeft = some (.invokevirtual 86, (17, 3, 3, 1008)) := by decide +kernel
theorem s_X3_mostLeft_77 {ca : Nat → List Value → tM → tO} {M : tM} {L : tL} {v1 v2 v3 : Value} {r0 : Int32} {b : Nat} : rn ca C_X3_mostLeft 77 L [v3, v2, v1, .ref b, .int r0] M = if clsO b = some 3 then rnk ca C_X3_mostLeft 80 L [.int r0] (ca m_X3_lateness [.ref b, v1, v2, v3] M) else none := (rn_at k_X3_mostLeft_77).trans rnx_ite
theorem k_X3_mostLeft_80 : lk 80 C_X3_mostLeft = some (.if_icmp .ne 6, (86, 0, 0, 0)) := by decide +kernel
theorem s_X3_mostLeft_80 {ca : Nat → List Value → tM → tO} {M : tM} {L : tL} {x y : Int32} {S : List Value} : rn ca C_X3_mostLeft 80 L (.int y :: .int x :: S) M = if ¬ x = y then rn ca C_X3_mostLeft 86 L S M else rn ca C_X3_mostLeft 83 L S M := (rn_at k_X3_mostLeft_80).trans rnx_ite
theorem k_X3_mostLeft_83 : lk 83 C_X3_mostLeft = some (.iinc 7 1, (0, 0, 0, 0)) := by decide +kernel
theorem s_X3_mostLeft_83 {ca : Nat → List Value → tM → tO} {M : tM} {a0 a1 a2 a3 a4 a5 a6 a8 : Option Value} {x : Int32} {S : List Value} : rn ca C_X3_mostLeft 83 [a0, a1, a2, a3, a4, a5, a6, some (.int x), a8] S M = rn ca C_X3_mostLeft 86 [a0, a1, a2, a3, a4, a5, a6, some (.int (x + iI 1)), a8] S M := (rn_at k_X3_mostLeft_83).trans rfl
theorem k_X3_mostLeft_86 : lk 86 C_X3_mostLeft = some (.iinc 8 1, (0, 0, 0, 0)) := by decide +kernel
theorem s_X3_mostLeft_86 {ca : Nat → List Value → tM → tO} {M : tM} {a0 a1 a2 a3 a4 a5 a6 a7 : Option Value} {x : Int32} {S : List Value} : rn ca C_X3_mostLeft 86 [a0, a1, a2, a3, a4, a5, a6, a7, some (.int x)] S M = rn ca C_X3_mostLeft 89 [a0, a1, a2, a3, a4, a5, a6, a7, some (.int (x + iI 1))] S M := (rn_at k_X3_mostLeft_86).trans rfl
theorem k_X3_mostLeft_89 : lk 89 C_X3_mostLeft = some (.goto (-61), (28, 0, 0, 0)) := by decide +kernel
theorem s_X3_mostLeft_89 {ca : Nat → List Value → tM → tO} {M : tM} {L : tL} {S : List Value} : rn ca C_X3_mostLeft 89 L S M = rn ca C_X3_mostLeft 28 L S M := (rn_at k_X3_mostLeft_89).trans rfl
theorem k_X3_mostLeft_92 : lk 92 C_X3_mostLeft = some (.iload 5, (0, 0, 0, 0)) := by decide +kernel
theorem s_X3_mostLeft_92 {ca : Nat → List Value → tM → tO} {M : tM} {a0 a1 a2 a3 a4 a6 a7 a8 : Option Value} {x : Int32} {S : List Value} : rn ca C_X3_mostLeft 92 [a0, a1, a2, a3, a4, some (.int x), a6, a7, a8] S M = rn ca C_X3_mostLeft 94 [a0, a1, a2, a3, a4, some (.int x), a6, a7, a8] (.int x :: S) M := (rn_at k_X3_mostLeft_92).trans rfl
theorem k_X3_mostLeft_94 : lk 94 C_X3_mostLeft = some (.iload 7, (0, 0, 0, 0)) := by decide +kernel
theorem s_X3_mostLeft_94 {ca : Nat → List Value → tM → tO} {M : tM} {a0 a1 a2 a3 a4 a5 a6 a8 : Option Value} {x : Int32} {S : List Value} : rn ca C_X3_mostLeft 94 [a0, a1, a2, a3, a4, a5, a6, some (.int x), a8] S M = rn ca C_X3_mostLeft 96 [a0, a1, a2, a3, a4, a5, a6, some (.int x), a8] (.int x :: S) M := (rn_at k_X3_mostLeft_94).trans rfl
theorem k_X3_mostLeft_96 : lk 96 C_X3_mostLeft = some (.invokestatic 90, (0, 2, 2, 1007)) := by decide +kernel
theorem s_X3_mostLeft_96 {ca : Nat → List Value → tM → tO} {M : tM} {L : tL} {x y : Int32} : rn ca C_X3_mostLeft 96 L [.int y, .int x] M = rn ca C_X3_mostLeft 99 L [.int (mxI x y)] M := (rn_at k_X3_mostLeft_96).trans rfl
theorem k_X3_mostLeft_99 : lk 99 C_X3_mostLeft = some (.istore 5, (0, 0, 0, 0)) := by decide +kernel
theorem s_X3_mostLeft_99 {ca : Nat → List Value → tM → tO} {M : tM} {a0 a1 a2 a3 a4 a5 a6 a7 a8 : Option Value} {x : Int32} {S : List Value} : rn ca C_X3_mostLeft 99 [a0, a1, a2, a3, a4, a5, a6, a7, a8] (.int x :: S) M = rn ca C_X3_mostLeft 101 [a0, a1, a2, a3, a4, some (.int x), a6, a7, a8] S M := (rn_at k_X3_mostLeft_99).trans rfl
theorem k_X3_mostLeft_101 : lk 101 C_X3_mostLeft = some (.iinc 6 1, (0, 0, 0, 0)) := by decide +kernel
theorem s_X3_mostLeft_101 {ca : Nat → List Value → tM → tO} {M : tM} {a0 a1 a2 a3 a4 a5 a7 a8 : Option Value} {x : Int32} {S : List Value} : rn ca C_X3_mostLeft 101 [a0, a1, a2, a3, a4, a5, some (.int x), a7, a8] S M = rn ca C_X3_mostLeft 104 [a0, a1, a2, a3, a4, a5, some (.int (x + iI 1)), a7, a8] S M := (rn_at k_X3_mostLeft_101).trans rfl
theorem k_X3_mostLeft_104 : lk 104 C_X3_mostLeft = some (.goto (-98), (6, 0, 0, 0)) := by decide +kernel
theorem s_X3_mostLeft_104 {ca : Nat → List Value → tM → tO} {M : tM} {L : tL} {S : List Value} : rn ca C_X3_mostLeft 104 L S M = rn ca C_X3_mostLeft 6 L S M := (rn_at k_X3_mostLeft_104).trans rfl
theorem k_X3_mostLeft_107 : lk 107 C_X3_mostLeft = some (.iload 5, (0, 0, 0, 0)) := by decide +kernel
theorem s_X3_mostLeft_107 {ca : Nat → List Value → tM → tO} {M : tM} {a0 a1 a2 a3 a4 a6 a7 a8 : Option Value} {x : Int32} {S : List Value} : rn ca C_X3_mostLeft 107 [a0, a1, a2, a3, a4, some (.int x), a6, a7, a8] S M = rn ca C_X3_mostLeft 109 [a0, a1, a2, a3, a4, some (.int x), a6, a7, a8] (.int x :: S) M := (rn_at k_X3_mostLeft_107).trans rfl
theorem k_X3_mostLeft_109 : lk 109 C_X3_mostLeft = some (.ireturn, (0, 0, 0, 0)) := by decide +kernel
theorem s_X3_mostLeft_109 {ca : Nat → List Value → tM → tO} {M : tM} {L : tL} {x : Int32} : rn ca C_X3_mostLeft 109 L [.int x] M = some (some (.int x), M) := (rn_at k_X3_mostLeft_109).trans rfl
theorem k_X3_lateness_0 : lk 0 C_X3_lateness = some (.aload_n 0, (0, 0, 0, 0)) := by decide +kernel
theorem s_X3_lateness_0 {ca : Nat → List Value → tM → tO} {M : tM} {a1 a2 a3 : Option Value} {x : Nat} {S : List Value} : rn ca C_X3_lateness 0 [some (.ref x), a1, a2, a3] S M = rn ca C_X3_lateness 1 [some (.ref x), a1, a2, a3] (.ref x :: S) M := (rn_at k_X3_lateness_0).trans rfl
theorem k_X3_lateness_1 : lk 1 C_X3_lateness = some (.getfield 24, (3, 3, 0, 113)) := by decide +kernel
theorem s_X3_lateness_1 {ca : Nat → List Value → tM → tO} {M : tM} {L : tL} {b : Nat} {S : List Value} : rn ca C_X3_lateness 1 L (.ref b :: S) M = if clsO b = some 3 then rn ca C_X3_lateness 4 L (fv M b 3 :: S) M else none := (rn_at k_X3_lateness_1).trans rnx_ite
theorem k_X3_lateness_4 : lk 4 C_X3_lateness = some (.iload_n 1, (0, 0, 0, 0)) := by decide +kernel
theorem s_X3_lateness_4 {ca : Nat → List Value → tM → tO} {M : tM} {a0 a2 a3 : Option Value} {x : Int32} {S : List Value} : rn ca C_X3_lateness 4 [a0, some (.int x), a2, a3] S M = rn ca C_X3_lateness 5 [a0, some (.int x), a2, a3] (.int x :: S) M := (rn_at k_X3_lateness_4).trans rfl
theorem k_X3_lateness_5 : lk 5 C_X3_lateness = some (.aaload, (0, 0, 0, 0)) := by decide +kernel
theorem s_X3_lateness_5 {ca : Nat → List Value → tM → tO} {M : tM} {L : tL} {a : Nat} {i : Int32} {S : List Value} : rn ca C_X3_lateness 5 L (.int i :: .ref a :: S) M = if (akind a = 3 ∨ akind a = 4 ∨ akind a = 5) ∧ inb i (alen M a) then rn ca C_X3_lateness 6 L (.ref (rfe a i.toInt.toNat) :: S) M else none := (rn_at k_X3_lateness_5).trans rnx_ite
theorem k_X3_lateness_6 : lk 6 C_X3_lateness = some (.iload_n 3, (0, 0, 0, 0)) := by decide +kernel
theorem s_X3_lateness_6 {ca : Nat → List Value → tM → tO} {M : tM} {a0 a1 a2 : Option Value} {x : Int32} {S : List Value} : rn ca C_X3_lateness 6 [a0, a1, a2, some (.int x)] S M = rn ca C_X3_lateness 7 [a0, a1, a2, some (.int x)] (.int x :: S) M := (rn_at k_X3_lateness_6).trans rfl
theorem k_X3_lateness_7 : lk 7 C_X3_lateness = some (.iaload, (0, 0, 0, 0)) := by decide +kernel
theorem s_X3_lateness_7 {ca : Nat → List Value → tM → tO} {M : tM} {L : tL} {a : Nat} {i : Int32} {S : List Value} : rn ca C_X3_lateness 7 L (.int i :: .ref a :: S) M = if (akind a = 0 ∨ akind a = 6 ∨ akind a = 7) ∧ inb i (alen M a) then rn ca C_X3_lateness 8 L (.int (M.1 a i.toInt.toNat) :: S) M else none := (rn_at k_X3_lateness_7).trans rnx_ite
theorem k_X3_lateness_8 : lk 8 C_X3_lateness = some (.sipush 9999, (0, 0, 0, 0)) := by decide +kernel
theorem s_X3_lateness_8 {ca : Nat → List Value → tM → tO} {M : tM} {L : tL} {S : List Value} : rn ca C_X3_lateness 8 L S M = rn ca C_X3_lateness 11 L (.int (iI 9999) :: S) M := (rn_at k_X3_lateness_8).trans rfl
theorem k_X3_lateness_11 : lk 11 C_X3_lateness = some (.if_icmp .ne 9, (20, 0, 0, 0)) := by decide +kernel
theorem s_X3_lateness_11 {ca : Nat → List Value → tM → tO} {M : tM} {L : tL} {x y : Int32} {S : List Value} : rn ca C_X3_lateness 11 L (.int y :: .int x :: S) M = if ¬ x = y then rn ca C_X3_lateness 20 L S M else rn ca C_X3_lateness 14 L S M := (rn_at k_X3_lateness_11).trans rnx_ite
theorem k_X3_lateness_14 : lk 14 C_X3_lateness = some (.sipush 9999, (0, 0, 0, 0)) := by decide +kernel
theorem s_X3_lateness_14 {ca : Nat → List Value → tM → tO} {M : tM} {L : tL} {S : List Value} : rn ca C_X3_lateness 14 L S M = rn ca C_X3_lateness 17 L (.int (iI 9999) :: S) M := (rn_at k_X3_lateness_14).trans rfl
theorem k_X3_lateness_17 : lk 17 C_X3_lateness = some (.goto 20, (37, 0, 0, 0)) := by decide +kernel
theorem s_X3_lateness_17 {ca : Nat → List Value → tM → tO} {M : tM} {L : tL} {S : List Value} : rn ca C_X3_lateness 17 L S M = rn ca C_X3_lateness 37 L S M := (rn_at k_X3_lateness_17).trans rfl
theorem k_X3_lateness_20 : lk 20 C_X3_lateness = some (.aload_n 0, (0, 0, 0, 0)) := by decide +kernel
theorem s_X3_lateness_20 {ca : Nat → List Value → tM → tO} {M : tM} {a1 a2 a3 : Option Value} {x : Nat} {S : List Value} : rn ca C_X3_lateness 20 [some (.ref x), a1, a2, a3] S M = rn ca C_X3_lateness 21 [some (.ref x), a1, a2, a3] (.ref x :: S) M := (rn_at k_X3_lateness_20).trans rfl
theorem k_X3_lateness_21 : lk 21 C_X3_lateness = some (.getfield 24, (3, 3, 0, 113)) := by decide +kernel
theorem s_X3_lateness_21 {ca : Nat → List Value → tM → tO} {M : tM} {L : tL} {b : Nat} {S : List Value} : rn ca C_X3_lateness 21 L (.ref b :: S) M = if clsO b = some 3 then rn ca C_X3_lateness 24 L (fv M b 3 :: S) M else none := (rn_at k_X3_lateness_21).trans rnx_ite
theorem k_X3_lateness_24 : lk 24 C_X3_lateness = some (.iload_n 1, (0, 0, 0, 0)) := by decide +kernel
theorem s_X3_lateness_24 {ca : Nat → List Value → tM → tO} {M : tM} {a0 a2 a3 : Option Value} {x : Int32} {S : List Value} : rn ca C_X3_lateness 24 [a0, some (.int x), a2, a3] S M = rn ca C_X3_lateness 25 [a0, some (.int x), a2, a3] (.int x :: S) M := (rn_at k_X3_lateness_24).trans rfl
theorem k_X3_lateness_25 : lk 25 C_X3_lateness = some (.aaload, (0, 0, 0, 0)) := by decide +kernel
theorem s_X3_lateness_25 {ca : Nat → List Value → tM → tO} {M : tM} {L : tL} {a : Nat} {i : Int32} {S : List Value} : rn ca C_X3_lateness 25 L (.int i :: .ref a :: S) M = if (akind a = 3 ∨ akind a = 4 ∨ akind a = 5) ∧ inb i (alen M a) then rn ca C_X3_lateness 26 L (.ref (rfe a i.toInt.toNat) :: S) M else none := (rn_at k_X3_lateness_25).trans rnx_ite
theorem k_X3_lateness_26 : lk 26 C_X3_lateness = some (.iload_n 3, (0, 0, 0, 0)) := by decide +kernel
theorem s_X3_lateness_26 {ca : Nat → List Value → tM → tO} {M : tM} {a0 a1 a2 : Option Value} {x : Int32} {S : List Value} : rn ca C_X3_lateness 26 [a0, a1, a2, some (.int x)] S M = rn ca C_X3_lateness 27 [a0, a1, a2, some (.int x)] (.int x :: S) M := (rn_at k_X3_lateness_26).trans rfl
theorem k_X3_lateness_27 : lk 27 C_X3_lateness = some (.iaload, (0, 0, 0, 0)) := by decide +kernel
theorem s_X3_lateness_27 {ca : Nat → List Value → tM → tO} {M : tM} {L : tL} {a : Nat} {i : Int32} {S : List Value} : rn ca C_X3_lateness 27 L (.int i :: .ref a :: S) M = if (akind a = 0 ∨ akind a = 6 ∨ akind a = 7) ∧ inb i (alen M a) then rn ca C_X3_lateness 28 L (.int (M.1 a i.toInt.toNat) :: S) M else none := (rn_at k_X3_lateness_27).trans rnx_ite
theorem k_X3_lateness_28 : lk 28 C_X3_lateness = some (.aload_n 0, (0, 0, 0, 0)) := by decide +kernel
theorem s_X3_lateness_28 {ca : Nat → List Value → tM → tO} {M : tM} {a1 a2 a3 : Option Value} {x : Nat} {S : List Value} : rn ca C_X3_lateness 28 [some (.ref x), a1, a2, a3] S M = rn ca C_X3_lateness 29 [some (.ref x), a1, a2, a3] (.ref x :: S) M := (rn_at k_X3_lateness_28).trans rfl
theorem k_X3_lateness_29 : lk 29 C_X3_lateness = some (.getfield 24, (3, 3, 0, 113)) := by decide +kernel
theorem s_X3_lateness_29 {ca : Nat → List Value → tM → tO} {M : tM} {L : tL} {b : Nat} {S : List Value} : rn ca C_X3_lateness 29 L (.ref b :: S) M = if clsO b = some 3 then rn ca C_X3_lateness 32 L (fv M b 3 :: S) M else none := (rn_at k_X3_lateness_29).trans rnx_ite
theorem k_X3_lateness_32 : lk 32 C_X3_lateness = some (.iload_n 1, (0, 0, 0, 0)) := by decide +kernel
theorem s_X3_lateness_32 {ca : Nat → List Value → tM → tO} {M : tM} {a0 a2 a3 : Option Value} {x : Int32} {S : List Value} : rn ca C_X3_lateness 32 [a0, some (.int x), a2, a3] S M = rn ca C_X3_lateness 33 [a0, some (.int x), a2, a3] (.int x :: S) M := (rn_at k_X3_lateness_32).trans rfl
theorem k_X3_lateness_33 : lk 33 C_X3_lateness = some (.aaload, (0, 0, 0, 0)) := by decide +kernel
theorem s_X3_lateness_33 {ca : Nat → List Value → tM → tO} {M : tM} {L : tL} {a : Nat} {i : Int32} {S : List Value} : rn ca C_X3_lateness 33 L (.int i :: .ref a :: S) M = if (akind a = 3 ∨ akind a = 4 ∨ akind a = 5) ∧ inb i (alen M a) then rn ca C_X3_lateness 34 L (.ref (rfe a i.toInt.toNat) :: S) M else none := (rn_at k_X3_lateness_33).trans rnx_ite
theorem k_X3_lateness_34 : lk 34 C_X3_lateness = some (.iload_n 2, (0, 0, 0, 0)) := by decide +kernel
theorem s_X3_lateness_34 {ca : Nat → List Value → tM → tO} {M : tM} {a0 a1 a3 : Option Value} {x : Int32} {S : List Value} : rn ca C_X3_lateness 34 [a0, a1, some (.int x), a3] S M = rn ca C_X3_lateness 35 [a0, a1, some (.int x), a3] (.int x :: S) M := (rn_at k_X3_lateness_34).trans rfl
theorem k_X3_lateness_35 : lk 35 C_X3_lateness = some (.iaload, (0, 0, 0, 0)) := by decide +kernel
theorem s_X3_lateness_35 {ca : Nat → List Value → tM → tO} {M : tM} {L : tL} {a : Nat} {i : Int32} {S : List Value} : rn ca C_X3_lateness 35 L (.int i :: .ref a :: S) M = if (akind a = 0 ∨ akind a = 6 ∨ akind a = 7) ∧ inb i (alen M a) then rn ca C_X3_lateness 36 L (.int (M.1 a i.toInt.toNat) :: S) M else none := (rn_at k_X3_lateness_35).trans rnx_ite
theorem k_X3_lateness_36 : lk 36 C_X3_lateness = some (.isub, (0, 0, 0, 0)) := by decide +kernel
theorem s_X3_lateness_36 {ca : Nat → List Value → tM → tO} {M : tM} {L : tL} {x y : Int32} {S : List Value} : rn ca C_X3_lateness 36 L (.int y :: .int x :: S) M = rn ca C_X3_lateness 37 L (.int (x - y) :: S) M := (rn_at k_X3_lateness_36).trans rfl
theorem k_X3_lateness_37 : lk 37 C_X3_lateness = some (.ireturn, (0, 0, 0, 0)) := by decide +kernel
theorem s_X3_lateness_37 {ca : Nat → List Value → tM → tO} {M : tM} {L : tL} {x : Int32} : rn ca C_X3_lateness 37 L [.int x] M = some (some (.int x), M) := (rn_at k_X3_lateness_37).trans rfl
theorem k_X4_hasDesk_0 : lk 0 C_X4_hasDesk = some (.iload_n 1, (0, 0, 0, 0)) := by decide +kernel
theorem s_X4_hasDesk_0 {ca : Nat → List Value → tM → tO} {M : tM} {a0 : Option Value} {x : Int32} {S : List Value} : rn ca C_X4_hasDesk 0 [a0, some (.int x)] S M = rn ca C_X4_hasDesk 1 [a0, some (.int x)] (.int x :: S) M := (rn_at k_X4_hasDesk_0).trans rfl
theorem k_X4_hasDesk_1 : lk 1 C_X4_hasDesk = some (.ifCond .lt 15, (16, 0, 0, 0)) := by decide +kernel
theorem s_X4_hasDesk_1 {ca : Nat → List Value → tM → tO} {M : tM} {L : tL} {x : Int32} {S : List Value} : rn ca C_X4_hasDesk 1 L (.int x :: S) M = if x < iI 0 then rn ca C_X4_hasDesk 16 L S M else rn ca C_X4_hasDesk 4 L S M := (rn_at k_X4_hasDesk_1).trans rnx_ite
theorem k_X4_hasDesk_4 : lk 4 C_X4_hasDesk = some (.iload_n 1, (0, 0, 0, 0)) := by decide +kernel
theorem s_X4_hasDesk_4 {ca : Nat → List Value → tM → tO} {M : tM} {a0 : Option Value} {x : Int32} {S : List Value} : rn ca C_X4_hasDesk 4 [a0, some (.int x)] S M = rn ca C_X4_hasDesk 5 [a0, some (.int x)] (.int x :: S) M := (rn_at k_X4_hasDesk_4).trans rfl
theorem k_X4_hasDesk_5 : lk 5 C_X4_hasDesk = some (.aload_n 0, (0, 0, 0, 0)) := by decide +kernel
theorem s_X4_hasDesk_5 {ca : Nat → List Value → tM → tO} {M : tM} {a1 : Option Value} {x : Nat} {S : List Value} : rn ca C_X4_hasDesk 5 [some (.ref x), a1] S M = rn ca C_X4_hasDesk 6 [some (.ref x), a1] (.ref x :: S) M := (rn_at k_X4_hasDesk_5).trans rfl
theorem k_X4_hasDesk_6 : lk 6 C_X4_hasDesk = some (.getfield 9, (4, 0, 0, 62)) := by decide +kernel
theorem s_X4_hasDesk_6 {ca : Nat → List Value → tM → tO} {M : tM} {L : tL} {b : Nat} {S : List Value} : rn ca C_X4_hasDesk 6 L (.ref b :: S) M = if clsO b = some 4 then rn ca C_X4_hasDesk 9 L (fv M b 0 :: S) M else none := (rn_at k_X4_hasDesk_6).trans rnx_ite
theorem k_X4_hasDesk_9 : lk 9 C_X4_hasDesk = some (.if_icmp .ge 7, (16, 0, 0, 0)) := by decide +kernel
theorem s_X4_hasDesk_9 {ca : Nat → List Value → tM → tO} {M : tM} {L : tL} {x y : Int32} {S : List Value} : rn ca C_X4_hasDesk 9 L (.int y :: .int x :: S) M = if y ≤ x then rn ca C_X4_hasDesk 16 L S M else rn ca C_X4_hasDesk 12 L S M := (rn_at k_X4_hasDesk_9).trans rnx_ite
theorem k_X4_hasDesk_12 : lk 12 C_X4_hasDesk = some (.iconst 1, (0, 0, 0, 0)) := by decide +kernel
theorem s_X4_hasDesk_12 {ca : Nat → List Value → tM → tO} {M : tM} {L : tL} {S : List Value} : rn ca C_X4_hasDesk 12 L S M = rn ca C_X4_hasDesk 13 L (.int (iI 1) :: S) M := (rn_at k_X4_hasDesk_12).trans rfl
theorem k_X4_hasDesk_13 : lk 13 C_X4_hasDesk = some (.goto 4, (17, 0, 0, 0)) := by decide +kernel
theorem s_X4_hasDesk_13 {ca : Nat → List Value → tM → tO} {M : tM} {L : tL} {S : List Value} : rn ca C_X4_hasDesk 13 L S M = rn ca C_X4_hasDesk 17 L S M := (rn_at k_X4_hasDesk_13).trans rfl
theorem k_X4_hasDesk_16 : lk 16 C_X4_hasDesk = some (.iconst 0, (0, 0, 0, 0)) := by decide +kernel
theorem s_X4_hasDesk_16 {ca : Nat → List Value → tM → tO} {M : tM} {L : tL} {S : List Value} : rn ca C_X4_hasDesk 16 L S M = rn ca C_X4_hasDesk 17 L (.int (iI 0) :: S) M := (rn_at k_X4_hasDesk_16).trans rfl
theorem k_X4_hasDesk_17 : lk 17 C_X4_hasDesk = some (.ireturn, (1, 0, 0, 0)) := by decide +kernel
theorem s_X4_hasDesk_17 {ca : Nat → List Value → tM → tO} {M : tM} {L : tL} {x : Int32} : rn ca C_X4_hasDesk 17 L [.int x] M = if x = iI 0 ∨ x = iI 1 then some (some (.int x), M) else none := (rn_at k_X4_hasDesk_17).trans rnx_ite
theorem k_X4_hasTube_0 : lk 0 C_X4_hasTube = some (.iload_n 1, (0, 0, 0, 0)) := by decide +kernel
theorem s_X4_hasTube_0 {ca : Nat → List Value → tM → tO} {M : tM} {a0 : Option Value} {x : Int32} {S : List Value} : rn ca C_X4_hasTube 0 [a0, some (.int x)] S M = rn ca C_X4_hasTube 1 [a0, some (.int x)] (.int x :: S) M := (rn_at k_X4_hasTube_0).trans rfl
theorem k_X4_hasTube_1 : lk 1 C_X4_hasTube = some (.ifCond .lt 15, (16, 0, 0, 0)) := by decide +kernel
theorem s_X4_hasTube_1 {ca : Nat → List Value → tM → tO} {M : tM} {L : tL} {x : Int32} {S : List Value} : rn ca C_X4_hasTube 1 L (.int x :: S) M = if x < iI 0 then rn ca C_X4_hasTube 16 L S M else rn ca C_X4_hasTube 4 L S M := (rn_at k_X4_hasTube_1).trans rnx_ite
theorem k_X4_hasTube_4 : lk 4 C_X4_hasTube = some (.iload_n 1, (0, 0, 0, 0)) := by decide +kernel
theorem s_X4_hasTube_4 {ca : Nat → List Value → tM → tO} {M : tM} {a0 : Option Value} {x : Int32} {S : List Value} : rn ca C_X4_hasTube 4 [a0, some (.int x)] S M = rn ca C_X4_hasTube 5 [a0, some (.int x)] (.int x :: S) M := (rn_at k_X4_hasTube_4).trans rfl
theorem k_X4_hasTube_5 : lk 5 C_X4_hasTube = some (.aload_n 0, (0, 0, 0, 0)) := by decide +kernel
theorem s_X4_hasTube_5 {ca : Nat → List Value → tM → tO} {M : tM} {a1 : Option Value} {x : Nat} {S : List Value} : rn ca C_X4_hasTube 5 [some (.ref x), a1] S M = rn ca C_X4_hasTube 6 [some (.ref x), a1] (.ref x :: S) M := (rn_at k_X4_hasTube_5).trans rfl
theorem k_X4_hasTube_6 : lk 6 C_X4_hasTube = some (.getfield 19, (4, 2, 0, 64)) := by decide +kernel
theorem s_X4_hasTube_6 {ca : Nat → List Value → tM → tO} {M : tM} {L : tL} {b : Nat} {S : List Value} : rn ca C_X4_hasTube 6 L (.ref b :: S) M = if clsO b = some 4 then rn ca C_X4_hasTube 9 L (fv M b 2 :: S) M else none := (rn_at k_X4_hasTube_6).trans rnx_ite
theorem k_X4_hasTube_9 : lk 9 C_X4_hasTube = some (.if_icmp .ge 7, (16, 0, 0, 0)) := by decide +kernel
theorem s_X4_hasTube_9 {ca : Nat → List Value → tM → tO} {M : tM} {L : tL} {x y : Int32} {S : List Value} : rn ca C_X4_hasTube 9 L (.int y :: .int x :: S) M = if y ≤ x then rn ca C_X4_hasTube 16 L S M else rn ca C_X4_hasTube 12 L S M := (rn_at k_X4_hasTube_9).trans rnx_ite
theorem k_X4_hasTube_12 : lk 12 C_X4_hasTube = some (.iconst 1, (0, 0, 0, 0)) := by decide +kernel
theorem s_X4_hasTube_12 {ca : Nat → List Value → tM → tO} {M : tM} {L : tL} {S : List Value} : rn ca C_X4_hasTube 12 L S M = rn ca C_X4_hasTube 13 L (.int (iI 1) :: S) M := (rn_at k_X4_hasTube_12).trans rfl
theorem k_X4_hasTube_13 : lk 13 C_X4_hasTube = some (.goto 4, (17, 0, 0, 0)) := by decide +kernel
theorem s_X4_hasTube_13 {ca : Nat → List Value → tM → tO} {M : tM} {L : tL} {S : List Value} : rn ca C_X4_hasTube 13 L S M = rn ca C_X4_hasTube 17 L S M := (rn_at k_X4_hasTube_13).trans rfl
theorem k_X4_hasTube_16 : lk 16 C_X4_hasTube = some (.iconst 0, (0, 0, 0, 0)) := by decide +kernel
theorem s_X4_hasTube_16 {ca : Nat → List Value → tM → tO} {M : tM} {L : tL} {S : List Value} : rn ca C_X4_hasTube 16 L S M = rn ca C_X4_hasTube 17 L (.int (iI 0) :: S) M := (rn_at k_X4_hasTube_16).trans rfl
theorem k_X4_hasTube_17 : lk 17 C_X4_hasTube = some (.ireturn, (1, 0, 0, 0)) := by decide +kernel
theorem s_X4_hasTube_17 {ca : Nat → List Value → tM → tO} {M : tM} {L : tL} {x : Int32} : rn ca C_X4_hasTube 17 L [.int x] M = if x = iI 0 ∨ x = iI 1 then some (some (.int x), M) else none := (rn_at k_X4_hasTube_17).trans rnx_ite
theorem k_X4_hasCapsule_0 : lk 0 C_X4_hasCapsule = some (.iload_n 1, (0, 0, 0, 0)) := by decide +kernel
theorem s_X4_hasCapsule_0 {ca : Nat → List Value → tM → tO} {M : tM} {a0 : Option Value} {x : Int32} {S : List Value} : rn ca C_X4_hasCapsule 0 [a0, some (.int x)] S M = rn ca C_X4_hasCapsule 1 [a0, some (.int x)] (.int x :: S) M := (rn_at k_X4_hasCapsule_0).trans rfl
theorem k_X4_hasCapsule_1 : lk 1 C_X4_hasCapsule = some (.ifCond .lt 15, (16, 0, 0, 0)) := by decide +kernel
theorem s_X4_hasCapsule_1 {ca : Nat → List Value → tM → tO} {M : tM} {L : tL} {x : Int32} {S : List Value} : rn ca C_X4_hasCapsule 1 L (.int x :: S) M = if x < iI 0 then rn ca C_X4_hasCapsule 16 L S M else rn ca C_X4_hasCapsule 4 L S M := (rn_at k_X4_hasCapsule_1).trans rnx_ite
theorem k_X4_hasCapsule_4 : lk 4 C_X4_hasCapsule = some (.iload_n 1, (0, 0, 0, 0)) := by decide +kernel
theorem s_X4_hasCapsule_4 {ca : Nat → List Value → tM → tO} {M : tM} {a0 : Option Value} {x : Int32} {S : List Value} : rn ca C_X4_hasCapsule 4 [a0, some (.int x)] S M = rn ca C_X4_hasCapsule 5 [a0, some (.int x)] (.int x :: S) M := (rn_at k_X4_hasCapsule_4).trans rfl
theorem k_X4_hasCapsule_5 : lk 5 C_X4_hasCapsule = some (.aload_n 0, (0, 0, 0, 0)) := by decide +kernel
theorem s_X4_hasCapsule_5 {ca : Nat → List Value → tM → tO} {M : tM} {a1 : Option Value} {x : Nat} {S : List Value} : rn ca C_X4_hasCapsule 5 [some (.ref x), a1] S M = rn ca C_X4_hasCapsule 6 [some (.ref x), a1] (.ref x :: S) M := (rn_at k_X4_hasCapsule_5).trans rfl
theorem k_X4_hasCapsule_6 : lk 6 C_X4_hasCapsule = some (.getfield 37, (4, 8, 0, 70)) := by decide +kernel
theorem s_X4_hasCapsule_6 {ca : Nat → List Value → tM → tO} {M : tM} {L : tL} {b : Nat} {S : List Value} : rn ca C_X4_hasCapsule 6 L (.ref b :: S) M = if clsO b = some 4 then rn ca C_X4_hasCapsule 9 L (fv M b 8 :: S) M else none := (rn_at k_X4_hasCapsule_6).trans rnx_ite
theorem k_X4_hasCapsule_9 : lk 9 C_X4_hasCapsule = some (.if_icmp .ge 7, (16, 0, 0, 0)) := by decide +kernel
theorem s_X4_hasCapsule_9 {ca : Nat → List Value → tM → tO} {M : tM} {L : tL} {x y : Int32} {S : List Value} : rn ca C_X4_hasCapsule 9 L (.int y :: .int x :: S) M = if y ≤ x then rn ca C_X4_hasCapsule 16 L S M else rn ca C_X4_hasCapsule 12 L S M := (rn_at k_X4_hasCapsule_9).trans rnx_ite
theorem k_X4_hasCapsule_12 : lk 12 C_X4_hasCapsule = some (.iconst 1, (0, 0, 0, 0)) := by decide +kernel
theorem s_X4_hasCapsule_12 {ca : Nat → List Value → tM → tO} {M : tM} {L : tL} {S : List Value} : rn ca C_X4_hasCapsule 12 L S M = rn ca C_X4_hasCapsule 13 L (.int (iI 1) :: S) M := (rn_at k_X4_hasCapsule_12).trans rfl
theorem k_X4_hasCapsule_13 : lk 13 C_X4_hasCapsule = some (.goto 4, (17, 0, 0, 0)) := by decide +kernel
theorem s_X4_hasCapsule_13 {ca : Nat → List Value → tM → tO} {M : tM} {L : tL} {S : List Value} : rn ca C_X4_hasCapsule 13 L S M = rn ca C_X4_hasCapsule 17 L S M := (rn_at k_X4_hasCapsule_13).trans rfl
theorem k_X4_hasCapsule_16 : lk 16 C_X4_hasCapsule = some (.iconst 0, (0, 0, 0, 0)) := by decide +kernel
theorem s_X4_hasCapsule_16 {ca : Nat → List Value → tM → tO} {M : tM} {L : tL} {S : List Value} : rn ca C_X4_hasCapsule 16 L S M = rn ca C_X4_hasCapsule 17 L (.int (iI 0) :: S) M := (rn_at k_X4_hasCapsule_16).trans rfl
theorem k_X4_hasCapsule_17 : lk 17 C_X4_hasCapsule = some (.ireturn, (1, 0, 0, 0)) := by decide +kernel
theorem s_X4_hasCapsule_17 {ca : Nat → List Value → tM → tO} {M : tM} {L : tL} {x : Int32} : rn ca C_X4_hasCapsule 17 L [.int x] M = if x = iI 0 ∨ x = iI 1 then some (some (.int x), M) else none := (rn_at k_X4_hasCapsule_17).trans rnx_ite
theorem k_X4_hasRoomForDesk_0 : lk 0 C_X4_hasRoomForDesk = some (.aload_n 0, (0, 0, 0, 0)) := by decide +kernel
theorem s_X4_hasRoomForDesk_0 {ca : Nat → List Value → tM → tO} {M : tM} {x : Nat} {S : List Value} : rn ca C_X4_hasRoomForDesk 0 [some (.ref x)] S M = rn ca C_X4_hasRoomForDesk 1 [some (.ref x)] (.ref x :: S) M := (rn_at k_X4_hasRoomForDesk_0).trans rfl
theorem k_X4_hasRoomForDesk_1 : lk 1 C_X4_hasRoomForDesk = some (.getfield 9, (4, 0, 0, 62)) := by decide +kernel
theorem s_X4_hasRoomForDesk_1 {ca : Nat → List Value → tM → tO} {M : tM} {L : tL} {b : Nat} {S : List Value} : rn ca C_X4_hasRoomForDesk 1 L (.ref b :: S) M = if clsO b = some 4 then rn ca C_X4_hasRoomForDesk 4 L (fv M b 0 :: S) M else none := (rn_at k_X4_hasRoomForDesk_1).trans rnx_ite
theorem k_X4_hasRoomForDesk_4 : lk 4 C_X4_hasRoomForDesk = some (.bipush 8, (0, 0, 0, 0)) := by decide +kernel
theorem s_X4_hasRoomForDesk_4 {ca : Nat → List Value → tM → tO} {M : tM} {L : tL} {S : List Value} : rn ca C_X4_hasRoomForDesk 4 L S M = rn ca C_X4_hasRoomForDesk 6 L (.int (iI 8) :: S) M := (rn_at k_X4_hasRoomForDesk_4).trans rfl
theorem k_X4_hasRoomForDesk_6 : lk 6 C_X4_hasRoomForDesk = some (.if_icmp .ge 7, (13, 0, 0, 0)) := by decide +kernel
theorem s_X4_hasRoomForDesk_6 {ca : Nat → List Value → tM → tO} {M : tM} {L : tL} {x y : Int32} {S : List Value} : rn ca C_X4_hasRoomForDesk 6 L (.int y :: .int x :: S) M = if y ≤ x then rn ca C_X4_hasRoomForDesk 13 L S M else rn ca C_X4_hasRoomForDesk 9 L S M := (rn_at k_X4_hasRoomForDesk_6).trans rnx_ite
theorem k_X4_hasRoomForDesk_9 : lk 9 C_X4_hasRoomForDesk = some (.iconst 1, (0, 0, 0, 0)) := by decide +kernel
theorem s_X4_hasRoomForDesk_9 {ca : Nat → List Value → tM → tO} {M : tM} {L : tL} {S : List Value} : rn ca C_X4_hasRoomForDesk 9 L S M = rn ca C_X4_hasRoomForDesk 10 L (.int (iI 1) :: S) M := (rn_at k_X4_hasRoomForDesk_9).trans rfl
theorem k_X4_hasRoomForDesk_10 : lk 10 C_X4_hasRoomForDesk = some (.goto 4, (14, 0, 0, 0)) := by decide +kernel
theorem s_X4_hasRoomForDesk_10 {ca : Nat → List Value → tM → tO} {M : tM} {L : tL} {S : List Value} : rn ca C_X4_hasRoomForDesk 10 L S M = rn ca C_X4_hasRoomForDesk 14 L S M := (rn_at k_X4_hasRoomForDesk_10).trans rfl
theorem k_X4_hasRoomForDesk_13 : lk 13 C_X4_hasRoomForDesk = some (.iconst 0, (0, 0, 0, 0)) := by decide +kernel
theorem s_X4_hasRoomForDesk_13 {ca : Nat → List Value → tM → tO} {M : tM} {L : tL} {S : List Value} : rn ca C_X4_hasRoomForDesk 13 L S M = rn ca C_X4_hasRoomForDesk 14 L (.int (iI 0) :: S) M := (rn_at k_X4_hasRoomForDesk_13).trans rfl
theorem k_X4_hasRoomForDesk_14 : lk 14 C_X4_hasRoomForDesk = some (.ireturn, (1, 0, 0, 0)) := by decide +kernel
theorem s_X4_hasRoomForDesk_14 {ca : Nat → List Value → tM → tO} {M : tM} {L : tL} {x : Int32} : rn ca C_X4_hasRoomForDesk 14 L [.int x] M = if x = iI 0 ∨ x = iI 1 then some (some (.int x), M) else none := (rn_at k_X4_hasRoomForDesk_14).trans rnx_ite
theorem k_X4_hasRoomForTube_0 : lk 0 C_X4_hasRoomForTube = some (.aload_n 0, (0, 0, 0, 0)) := by decide +kernel
theorem s_X4_hasRoomForTube_0 {ca : Nat → List Value → tM → tO} {M : tM} {x : Nat} {S : List Value} : rn ca C_X4_hasRoomForTube 0 [some (.ref x)] S M = rn ca C_X4_hasRoomForTube 1 [some (.ref x)] (.ref x :: S) M := (rn_at k_X4_hasRoomForTube_0).trans rfl
theorem k_X4_hasRoomForTube_1 : lk 1 C_X4_hasRoomForTube = some (.getfield 19, (4, 2, 0, 64)) := by decide +kernel
theorem s_X4_hasRoomForTube_1 {ca : Nat → List Value → tM → tO} {M : tM} {L : tL} {b : Nat} {S : List Value} : rn ca C_X4_hasRoomForTube 1 L (.ref b :: S) M = if clsO b = some 4 then rn ca C_X4_hasRoomForTube 4 L (fv M b 2 :: S) M else none := (rn_at k_X4_hasRoomForTube_1).trans rnx_ite
theorem k_X4_hasRoomForTube_4 : lk 4 C_X4_hasRoomForTube = some (.bipush 16, (0, 0, 0, 0)) := by decide +kernel
theorem s_X4_hasRoomForTube_4 {ca : Nat → List Value → tM → tO} {M : tM} {L : tL} {S : List Value} : rn ca C_X4_hasRoomForTube 4 L S M = rn ca C_X4_hasRoomForTube 6 L (.int (iI 16) :: S) M := (rn_at k_X4_hasRoomForTube_4).trans rfl
theorem k_X4_hasRoomForTube_6 : lk 6 C_X4_hasRoomForTube = some (.if_icmp .ge 7, (13, 0, 0, 0)) := by decide +kernel
theorem s_X4_hasRoomForTube_6 {ca : Nat → List Value → tM → tO} {M : tM} {L : tL} {x y : Int32} {S : List Value} : rn ca C_X4_hasRoomForTube 6 L (.int y :: .int x :: S) M = if y ≤ x then rn ca C_X4_hasRoomForTube 13 L S M else rn ca C_X4_hasRoomForTube 9 L S M := (rn_at k_X4_hasRoomForTube_6).trans rnx_ite
theorem k_X4_hasRoomForTube_9 : lk 9 C_X4_hasRoomForTube = some (.iconst 1, (0, 0, 0, 0)) := by decide +kernel
theorem s_X4_hasRoomForTube_9 {ca : Nat → List Value → tM → tO} {M : tM} {L : tL} {S : List Value} : rn ca C_X4_hasRoomForTube 9 L S M = rn ca C_X4_hasRoomForTube 10 L (.int (iI 1) :: S) M := (rn_at k_X4_hasRoomForTube_9).trans rfl
theorem k_X4_hasRoomForTube_10 : lk 10 C_X4_hasRoomForTube = some (.goto 4, (14, 0, 0, 0)) := by decide +kernel
theorem s_X4_hasRoomForTube_10 {ca : Nat → List Value → tM → tO} {M : tM} {L : tL} {S : List Value} : rn ca C_X4_hasRoomForTube 10 L S M = rn ca C_X4_hasRoomForTube 14 L S M := (rn_at k_X4_hasRoomForTube_10).trans rfl
theorem k_X4_hasRoomForTube_13 : lk 13 C_X4_hasRoomForTube = some (.iconst 0, (0, 0, 0, 0)) := by decide +kernel
theorem s_X4_hasRoomForTube_13 {ca : Nat → List Value → tM → tO} {M : tM} {L : tL} {S : List Value} : rn ca C_X4_hasRoomForTube 13 L S M = rn ca C_X4_hasRoomForTube 14 L (.int (iI 0) :: S) M := (rn_at k_X4_hasRoomForTube_13).trans rfl
theorem k_X4_hasRoomForTube_14 : lk 14 C_X4_hasRoomForTube = some (.ireturn, (1, 0, 0, 0)) := by decide +kernel
theorem s_X4_hasRoomForTube_14 {ca : Nat → List Value → tM → tO} {M : tM} {L : tL} {x : Int32} : rn ca C_X4_hasRoomForTube 14 L [.int x] M = if x = iI 0 ∨ x = iI 1 then some (some (.int x), M) else none := (rn_at k_X4_hasRoomForTube_14).trans rnx_ite
theorem k_X4_hasRoomForCapsule_0 : lk 0 C_X4_hasRoomForCapsule = some (.aload_n 0, (0, 0, 0, 0)) := by decide +kernel
theorem s_X4_hasRoomForCapsule_0 {ca : Nat → List Value → tM → tO} {M : tM} {x : Nat} {S : List Value} : rn ca C_X4_hasRoomForCapsule 0 [some (.ref x)] S M = rn ca C_X4_hasRoomForCapsule 1 [some (.ref x)] (.ref x :: S) M := (rn_at k_X4_hasRoomForCapsule_0).trans rfl
theorem k_X4_hasRoomForCapsule_1 : lk 1 C_X4_hasRoomForCapsule = some (.getfield 37, (4, 8, 0, 70)) := by decide +kernel
theorem s_X4_hasRoomForCapsule_1 {ca : Nat → List Value → tM → tO} {M : tM} {L : tL} {b : Nat} {S : List Value} : rn ca C_X4_hasRoomForCapsule 1 L (.ref b :: S) M = if clsO b = some 4 then rn ca C_X4_hasRoomForCapsule 4 L (fv M b 8 :: S) M else none := (rn_at k_X4_hasRoomForCapsule_1).trans rnx_ite
theorem k_X4_hasRoomForCapsule_4 : lk 4 C_X4_hasRoomForCapsule = some (.iconst 5, (0, 0, 0, 0)) := by decide +kernel
theorem s_X4_hasRoomForCapsule_4 {ca : Nat → List Value → tM → tO} {M : tM} {L : tL} {S : List Value} : rn ca C_X4_hasRoomForCapsule 4 L S M = rn ca C_X4_hasRoomForCapsule 5 L (.int (iI 5) :: S) M := (rn_at k_X4_hasRoomForCapsule_4).trans rfl
theorem k_X4_hasRoomForCapsule_5 : lk 5 C_X4_hasRoomForCapsule = some (.if_icmp .ge 7, (12, 0, 0, 0)) := by decide +kernel
theorem s_X4_hasRoomForCapsule_5 {ca : Nat → List Value → tM → tO} {M : tM} {L : tL} {x y : Int32} {S : List Value} : rn ca C_X4_hasRoomForCapsule 5 L (.int y :: .int x :: S) M = if y ≤ x then rn ca C_X4_hasRoomForCapsule 12 L S M else rn ca C_X4_hasRoomForCapsule 8 L S M := (rn_at k_X4_hasRoomForCapsule_5).trans rnx_ite
theorem k_X4_hasRoomForCapsule_8 : lk 8 C_X4_hasRoomForCapsule = some (.iconst 1, (0, 0, 0, 0)) := by decide +kernel
theorem s_X4_hasRoomForCapsule_8 {ca : Nat → List Value → tM → tO} {M : tM} {L : tL} {S : List Value} : rn ca C_X4_hasRoomForCapsule 8 L S M = rn ca C_X4_hasRoomForCapsule 9 L (.int (iI 1) :: S) M := (rn_at k_X4_hasRoomForCapsule_8).trans rfl
theorem k_X4_hasRoomForCapsule_9 : lk 9 C_X4_hasRoomForCapsule = some (.goto 4, (13, 0, 0, 0)) := by decide +kernel
theorem s_X4_hasRoomForCapsule_9 {ca : Nat → List Value → tM → tO} {M : tM} {L : tL} {S : List Value} : rn ca C_X4_hasRoomForCapsule 9 L S M = rn ca C_X4_hasRoomForCapsule 13 L S M := (rn_at k_X4_hasRoomForCapsule_9).trans rfl
theorem k_X4_hasRoomForCapsule_12 : lk 12 C_X4_hasRoomForCapsule = some (.iconst 0, (0, 0, 0, 0)) := by decide +kernel
theorem s_X4_hasRoomForCapsule_12 {ca : Nat → List Value → tM → tO} {M : tM} {L : tL} {S : List Value} : rn ca C_X4_hasRoomForCapsule 12 L S M = rn ca C_X4_hasRoomForCapsule 13 L (.int (iI 0) :: S) M := (rn_at k_X4_hasRoomForCapsule_12).trans rfl
theorem k_X4_hasRoomForCapsule_13 : lk 13 C_X4_hasRoomForCapsule = some (.ireturn, (1, 0, 0, 0)) := by decide +kernel
theorem s_X4_hasRoomForCapsule_13 {ca : Nat → List Value → tM → tO} {M : tM} {L : tL} {x : Int32} : rn ca C_X4_hasRoomForCapsule 13 L [.int x] M = if x = iI 0 ∨ x = iI 1 then some (some (.int x), M) else none := (rn_at k_X4_hasRoomForCapsule_13).trans rnx_ite
theorem k_X4_addDesk_0 : lk 0 C_X4_addDesk = some (.aload_n 0, (0, 0, 0, 0)) := by decide +kernel
theorem s_X4_addDesk_0 {ca : Nat → List Value → tM → tO} {M : tM} {x : Nat} {S : List Value} : rn ca C_X4_addDesk 0 [some (.ref x)] S M = rn ca C_X4_addDesk 1 [some (.ref x)] (.ref x :: S) M := (rn_at k_X4_addDesk_0).trans rfl
theorem k_X4_addDesk_1 : lk 1 C_X4_addDesk = some (.invokevirtual 61, (21, 0, 4, 355)) := by decide +kernel
theorem s_X4_addDesk_1 {ca : Nat → List Value → tM → tO} {M : tM} {L : tL} {b : Nat} : rn ca C_X4_addDesk 1 L [.ref b] M = if clsO b = some 4 then rnk ca C_X4_addDesk 4 L [] (ca m_X4_hasRoomForDesk [.ref b] M) else none := (rn_at k_X4_addDesk_1).trans rnx_ite
theorem k_X4_addDesk_4 : lk 4 C_X4_addDesk = some (.ifCond .eq 23, (27, 0, 0, 0)) := by decide +kernel
theorem s_X4_addDesk_4 {ca : Nat → List Value → tM → tO} {M : tM} {L : tL} {x : Int32} {S : List Value} : rn ca C_X4_addDesk 4 L (.int x :: S) M = if x = iI 0 then rn ca C_X4_addDesk 27 L S M else rn ca C_X4_addDesk 7 L S M := (rn_at k_X4_addDesk_4).trans rnx_ite
theorem k_X4_addDesk_7 : lk 7 C_X4_addDesk = some (.aload_n 0, (0, 0, 0, 0)) := by decide +kernel
theorem s_X4_addDesk_7 {ca : Nat → List Value → tM → tO} {M : tM} {x : Nat} {S : List Value} : rn ca C_X4_addDesk 7 [some (.ref x)] S M = rn ca C_X4_addDesk 8 [some (.ref x)] (.ref x :: S) M := (rn_at k_X4_addDesk_7).trans rfl
theorem k_X4_addDesk_8 : lk 8 C_X4_addDesk = some (.getfield 15, (4, 1, 0, 63)) := by decide +kernel
theorem s_X4_addDesk_8 {ca : Nat → List Value → tM → tO} {M : tM} {L : tL} {b : Nat} {S : List Value} : rn ca C_X4_addDesk 8 L (.ref b :: S) M = if clsO b = some 4 then rn ca C_X4_addDesk 11 L (fv M b 1 :: S) M else none := (rn_at k_X4_addDesk_8).trans rnx_ite
theorem k_X4_addDesk_11 : lk 11 C_X4_addDesk = some (.aload_n 0, (0, 0, 0, 0)) := by decide +kernel
theorem s_X4_addDesk_11 {ca : Nat → List Value → tM → tO} {M : tM} {x : Nat} {S : List Value} : rn ca C_X4_addDesk 11 [some (.ref x)] S M = rn ca C_X4_addDesk 12 [some (.ref x)] (.ref x :: S) M := (rn_at k_X4_addDesk_11).trans rfl
theorem k_X4_addDesk_12 : lk 12 C_X4_addDesk = some (.getfield 9, (4, 0, 0, 62)) := by decide +kernel
theorem s_X4_addDesk_12 {ca : Nat → List Value → tM → tO} {M : tM} {L : tL} {b : Nat} {S : List Value} : rn ca C_X4_addDesk 12 L (.ref b :: S) M = if clsO b = some 4 then rn ca C_X4_addDesk 15 L (fv M b 0 :: S) M else none := (rn_at k_X4_addDesk_12).trans rnx_ite
theorem k_X4_addDesk_15 : lk 15 C_X4_addDesk = some (.iconst 0, (0, 0, 0, 0)) := by decide +kernel
theorem s_X4_addDesk_15 {ca : Nat → List Value → tM → tO} {M : tM} {L : tL} {S : List Value} : rn ca C_X4_addDesk 15 L S M = rn ca C_X4_addDesk 16 L (.int (iI 0) :: S) M := (rn_at k_X4_addDesk_15).trans rfl
theorem k_X4_addDesk_16 : lk 16 C_X4_addDesk = some (.iastore, (0, 0, 0, 0)) := by decide +kernel
theorem s_X4_addDesk_16 {ca : Nat → List Value → tM → tO} {M : tM} {L : tL} {a : Nat} {i x : Int32} {S : List Value} : rn ca C_X4_addDesk 16 L (.int x :: .int i :: .ref a :: S) M = if akind a = 0 ∧ inb i (alen M a) then rn ca C_X4_addDesk 17 L S (sI M a i.toInt.toNat x) else none := (rn_at k_X4_addDesk_16).trans rnx_ite
theorem k_X4_addDesk_17 : lk 17 C_X4_addDesk = some (.aload_n 0, (0, 0, 0, 0)) := by decide +kernel
theorem s_X4_addDesk_17 {ca : Nat → List Value → tM → tO} {M : tM} {x : Nat} {S : List Value} : rn ca C_X4_addDesk 17 [some (.ref x)] S M = rn ca C_X4_addDesk 18 [some (.ref x)] (.ref x :: S) M := (rn_at k_X4_addDesk_17).trans rfl
theorem k_X4_addDesk_18 : lk 18 C_X4_addDesk = some (.dup, (0, 0, 0, 0)) := by decide +kernel
theorem s_X4_addDesk_18 {ca : Nat → List Value → tM → tO} {M : tM} {L : tL} {x : Nat} {S : List Value} : rn ca C_X4_addDesk 18 L (.ref x :: S) M = rn ca C_X4_addDesk 19 L (.ref x :: .ref x :: S) M := (rn_at k_X4_addDesk_18).trans rfl
theorem s_X4_addDesk_18b {ca : Nat → List Value → tM → tO} {M : tM} {L : tL} {x : Int32} {S : List Value} : rn ca C_X4_addDesk 18 L (.int x :: S) M = rn ca C_X4_addDesk 19 L (.int x :: .int x :: S) M := (rn_at k_X4_addDesk_18).trans rfl
theorem k_X4_addDesk_19 : lk 19 C_X4_addDesk = some (.getfield 9, (4, 0, 0, 62)) := by decide +kernel
theorem s_X4_addDesk_19 {ca : Nat → List Value → tM → tO} {M : tM} {L : tL} {b : Nat} {S : List Value} : rn ca C_X4_addDesk 19 L (.ref b :: S) M = if clsO b = some 4 then rn ca C_X4_addDesk 22 L (fv M b 0 :: S) M else none := (rn_at k_X4_addDesk_19).trans rnx_ite
theorem k_X4_addDesk_22 : lk 22 C_X4_addDesk = some (.iconst 1, (0, 0, 0, 0)) := by decide +kernel
theorem s_X4_addDesk_22 {ca : Nat → List Value → tM → tO} {M : tM} {L : tL} {S : List Value} : rn ca C_X4_addDesk 22 L S M = rn ca C_X4_addDesk 23 L (.int (iI 1) :: S) M := (rn_at k_X4_addDesk_22).trans rfl
theorem k_X4_addDesk_23 : lk 23 C_X4_addDesk = some (.iadd, (0, 0, 0, 0)) := by decide +kernel
theorem s_X4_addDesk_23 {ca : Nat → List Value → tM → tO} {M : tM} {L : tL} {x y : Int32} {S : List Value} : rn ca C_X4_addDesk 23 L (.int y :: .int x :: S) M = rn ca C_X4_addDesk 24 L (.int (x + y) :: S) M := (rn_at k_X4_addDesk_23).trans rfl
theorem k_X4_addDesk_24 : lk 24 C_X4_addDesk = some (.putfield 9, (4, 0, 0, 62)) := by decide +kernel
theorem s_X4_addDesk_24 {ca : Nat → List Value → tM → tO} {M : tM} {L : tL} {b : Nat} {v : Int32} {S : List Value} : rn ca C_X4_addDesk 24 L (.int v :: .ref b :: S) M = if clsO b = some 4 then rn ca C_X4_addDesk 27 L S (sI M b 0 v) else none := (rn_at k_X4_addDesk_24).trans rnx_ite
theorem k_X4_addDesk_27 : lk 27 C_X4_addDesk = some (.return_, (0, 0, 0, 0)) := by decide +kernel
theorem s_X4_addDesk_27 {ca : Nat → List Value → tM → tO} {M : tM} {L : tL} : rn ca C_X4_addDesk 27 L [] M = some (none, M) := (rn_at k_X4_addDesk_27).trans rfl
theorem k_X4_addTube_0 : lk 0 C_X4_addTube = some (.aload_n 0, (0, 0, 0, 0)) := by decide +kernel
theorem s_X4_addTube_0 {ca : Nat → List Value → tM → tO} {M : tM} {a1 a2 a3 a4 : Option Value} {x : Nat} {S : List Value} : rn ca C_X4_addTube 0 [some (.ref x), a1, a2, a3, a4] S M = rn ca C_X4_addTube 1 [some (.ref x), a1, a2, a3, a4] (.ref x :: S) M := (rn_at k_X4_addTube_0).trans rfl
theorem k_X4_addTube_1 : lk 1 C_X4_addTube = some (.invokevirtual 65, (22, 0, 4, 383)) := by decide +kernel
theorem s_X4_addTube_1 {ca : Nat → List Value → tM → tO} {M : tM} {L : tL} {b : Nat} : rn ca C_X4_addTube 1 L [.ref b] M = if clsO b = some 4 then rnk ca C_X4_addTube 4 L [] (ca m_X4_hasRoomForTube [.ref b] M) else none := (rn_at k_X4_addTube_1).trans rnx_ite
theorem k_X4_addTube_4 : lk 4 C_X4_addTube = some (.ifCond .eq 65, (69, 0, 0, 0)) := by decide +kernel
theorem s_X4_addTube_4 {ca : Nat → List Value → tM → tO} {M : tM} {L : tL} {x : Int32} {S : List Value} : rn ca C_X4_addTube 4 L (.int x :: S) M = if x = iI 0 then rn ca C_X4_addTube 69 L S M else rn ca C_X4_addTube 7 L S M := (rn_at k_X4_addTube_4).trans rnx_ite
theorem k_X4_addTube_7 : lk 7 C_X4_addTube = some (.aload_n 0, (0, 0, 0, 0)) := by decide +kernel
theorem s_X4_addTube_7 {ca : Nat → List Value → tM → tO} {M : tM} {a1 a2 a3 a4 : Option Value} {x : Nat} {S : List Value} : rn ca C_X4_addTube 7 [some (.ref x), a1, a2, a3, a4] S M = rn ca C_X4_addTube 8 [some (.ref x), a1, a2, a3, a4] (.ref x :: S) M := (rn_at k_X4_addTube_7).trans rfl
theorem k_X4_addTube_8 : lk 8 C_X4_addTube = some (.getfield 22, (4, 3, 0, 65)) := by decide +kernel
theorem s_X4_addTube_8 {ca : Nat → List Value → tM → tO} {M : tM} {L : tL} {b : Nat} {S : List Value} : rn ca C_X4_addTube 8 L (.ref b :: S) M = if clsO b = some 4 then rn ca C_X4_addTube 11 L (fv M b 3 :: S) M else none := (rn_at k_X4_addTube_8).trans rnx_ite
theorem k_X4_addTube_11 : lk 11 C_X4_addTube = some (.aload_n 0, (0, 0, 0, 0)) := by decide +kernel
theorem s_X4_addTube_11 {ca : Nat → List Value → tM → tO} {M : tM} {a1 a2 a3 a4 : Option Value} {x : Nat} {S : List Value} : rn ca C_X4_addTube 11 [some (.ref x), a1, a2, a3, a4] S M = rn ca C_X4_addTube 12 [some (.ref x), a1, a2, a3, a4] (.ref x :: S) M := (rn_at k_X4_addTube_11).trans rfl
theorem k_X4_addTube_12 : lk 12 C_X4_addTube = some (.getfield 19, (4, 2, 0, 64)) := by decide +kernel
theorem s_X4_addTube_12 {ca : Nat → List Value → tM → tO} {M : tM} {L : tL} {b : Nat} {S : List Value} : rn ca C_X4_addTube 12 L (.ref b :: S) M = if clsO b = some 4 then rn ca C_X4_addTube 15 L (fv M b 2 :: S) M else none := (rn_at k_X4_addTube_12).trans rnx_ite
theorem k_X4_addTube_15 : lk 15 C_X4_addTube = some (.iload_n 1, (0, 0, 0, 0)) := by decide +kernel
theorem s_X4_addTube_15 {ca : Nat → List Value → tM → tO} {M : tM} {a0 a2 a3 a4 : Option Value} {x : Int32} {S : List Value} : rn ca C_X4_addTube 15 [a0, some (.int x), a2, a3, a4] S M = rn ca C_X4_addTube 16 [a0, some (.int x), a2, a3, a4] (.int x :: S) M := (rn_at k_X4_addTube_15).trans rfl
theorem k_X4_addTube_16 : lk 16 C_X4_addTube = some (.iastore, (0, 0, 0, 0)) := by decide +kernel
theorem s_X4_addTube_16 {ca : Nat → List Value → tM → tO} {M : tM} {L : tL} {a : Nat} {i x : Int32} {S : List Value} : rn ca C_X4_addTube 16 L (.int x :: .int i :: .ref a :: S) M = if akind a = 0 ∧ inb i (alen M a) then rn ca C_X4_addTube 17 L S (sI M a i.toInt.toNat x) else none := (rn_at k_X4_addTube_16).trans rnx_ite
theorem k_X4_addTube_17 : lk 17 C_X4_addTube = some (.aload_n 0, (0, 0, 0, 0)) := by decide +kernel
theorem s_X4_addTube_17 {ca : Nat → List Value → tM → tO} {M : tM} {a1 a2 a3 a4 : Option Value} {x : Nat} {S : List Value} : rn ca C_X4_addTube 17 [some (.ref x), a1, a2, a3, a4] S M = rn ca C_X4_addTube 18 [some (.ref x), a1, a2, a3, a4] (.ref x :: S) M := (rn_at k_X4_addTube_17).trans rfl
theorem k_X4_addTube_18 : lk 18 C_X4_addTube = some (.getfield 25, (4, 4, 0, 66)) := by decide +kernel
theorem s_X4_addTube_18 {ca : Nat → List Value → tM → tO} {M : tM} {L : tL} {b : Nat} {S : List Value} : rn ca C_X4_addTube 18 L (.ref b :: S) M = if clsO b = some 4 then rn ca C_X4_addTube 21 L (fv M b 4 :: S) M else none := (rn_at k_X4_addTube_18).trans rnx_ite
theorem k_X4_addTube_21 : lk 21 C_X4_addTube = some (.aload_n 0, (0, 0, 0, 0)) := by decide +kernel
theorem s_X4_addTube_21 {ca : Nat → List Value → tM → tO} {M : tM} {a1 a2 a3 a4 : Option Value} {x : Nat} {S : List Value} : rn ca C_X4_addTube 21 [some (.ref x), a1, a2, a3, a4] S M = rn ca C_X4_addTube 22 [some (.ref x), a1, a2, a3, a4] (.ref x :: S) M := (rn_at k_X4_addTube_21).trans rfl
theorem k_X4_addTube_22 : lk 22 C_X4_addTube = some (.getfield 19, (4, 2, 0, 64)) := by decide +kernel
theorem s_X4_addTube_22 {ca : Nat → List Value → tM → tO} {M : tM} {L : tL} {b : Nat} {S : List Value} : rn ca C_X4_addTube 22 L (.ref b :: S) M = if clsO b = some 4 then rn ca C_X4_addTube 25 L (fv M b 2 :: S) M else none := (rn_at k_X4_addTube_22).trans rnx_ite
theorem k_X4_addTube_25 : lk 25 C_X4_addTube = some (.iload_n 2, (0, 0, 0, 0)) := by decide +kernel
theorem s_X4_addTube_25 {ca : Nat → List Value → tM → tO} {M : tM} {a0 a1 a3 a4 : Option Value} {x : Int32} {S : List Value} : rn ca C_X4_addTube 25 [a0, a1, some (.int x), a3, a4] S M = rn ca C_X4_addTube 26 [a0, a1, some (.int x), a3, a4] (.int x :: S) M := (rn_at k_X4_addTube_25).trans rfl
theorem k_X4_addTube_26 : lk 26 C_X4_addTube = some (.iastore, (0, 0, 0, 0)) := by decide +kernel
theorem s_X4_addTube_26 {ca : Nat → List Value → tM → tO} {M : tM} {L : tL} {a : Nat} {i x : Int32} {S : List Value} : rn ca C_X4_addTube 26 L (.int x :: .int i :: .ref a :: S) M = if akind a = 0 ∧ inb i (alen M a) then rn ca C_X4_addTube 27 L S (sI M a i.toInt.toNat x) else none := (rn_at k_X4_addTube_26).trans rnx_ite
theorem k_X4_addTube_27 : lk 27 C_X4_addTube = some (.aload_n 0, (0, 0, 0, 0)) := by decide +kernel
theorem s_X4_addTube_27 {ca : Nat → List Value → tM → tO} {M : tM} {a1 a2 a3 a4 : Option Value} {x : Nat} {S : List Value} : rn ca C_X4_addTube 27 [some (.ref x), a1, a2, a3, a4] S M = rn ca C_X4_addTube 28 [some (.ref x), a1, a2, a3, a4] (.ref x :: S) M := (rn_at k_X4_addTube_27).trans rfl
theorem k_X4_addTube_28 : lk 28 C_X4_addTube = some (.getfield 28, (4, 5, 0, 67)) := by decide +kernel
theorem s_X4_addTube_28 {ca : Nat → List Value → tM → tO} {M : tM} {L : tL} {b : Nat} {S : List Value} : rn ca C_X4_addTube 28 L (.ref b :: S) M = if clsO b = some 4 then rn ca C_X4_addTube 31 L (fv M b 5 :: S) M else none := (rn_at k_X4_addTube_28).trans rnx_ite
theorem k_X4_addTube_31 : lk 31 C_X4_addTube = some (.aload_n 0, (0, 0, 0, 0)) := by decide +kernel
theorem s_X4_addTube_31 {ca : Nat → List Value → tM → tO} {M : tM} {a1 a2 a3 a4 : Option Value} {x : Nat} {S : List Value} : rn ca C_X4_addTube 31 [some (.ref x), a1, a2, a3, a4] S M = rn ca C_X4_addTube 32 [some (.ref x), a1, a2, a3, a4] (.ref x :: S) M := (rn_at k_X4_addTube_31).trans rfl
theorem k_X4_addTube_32 : lk 32 C_X4_addTube = some (.getfield 19, (4, 2, 0, 64)) := by decide +kernel
theorem s_X4_addTube_32 {ca : Nat → List Value → tM → tO} {M : tM} {L : tL} {b : Nat} {S : List Value} : rn ca C_X4_addTube 32 L (.ref b :: S) M = if clsO b = some 4 then rn ca C_X4_addTube 35 L (fv M b 2 :: S) M else none := (rn_at k_X4_addTube_32).trans rnx_ite
theorem k_X4_addTube_35 : lk 35 C_X4_addTube = some (.iload_n 3, (0, 0, 0, 0)) := by decide +kernel
theorem s_X4_addTube_35 {ca : Nat → List Value → tM → tO} {M : tM} {a0 a1 a2 a4 : Option Value} {x : Int32} {S : List Value} : rn ca C_X4_addTube 35 [a0, a1, a2, some (.int x), a4] S M = rn ca C_X4_addTube 36 [a0, a1, a2, some (.int x), a4] (.int x :: S) M := (rn_at k_X4_addTube_35).trans rfl
theorem k_X4_addTube_36 : lk 36 C_X4_addTube = some (.iastore, (0, 0, 0, 0)) := by decide +kernel
theorem s_X4_addTube_36 {ca : Nat → List Value → tM → tO} {M : tM} {L : tL} {a : Nat} {i x : Int32} {S : List Value} : rn ca C_X4_addTube 36 L (.int x :: .int i :: .ref a :: S) M = if akind a = 0 ∧ inb i (alen M a) then rn ca C_X4_addTube 37 L S (sI M a i.toInt.toNat x) else none := (rn_at k_X4_addTube_36).trans rnx_ite
theorem k_X4_addTube_37 : lk 37 C_X4_addTube = some (.aload_n 0, (0, 0, 0, 0)) := by decide +kernel
theorem s_X4_addTube_37 {ca : Nat → List Value → tM → tO} {M : tM} {a1 a2 a3 a4 : Option Value} {x : Nat} {S : List Value} : rn ca C_X4_addTube 37 [some (.ref x), a1, a2, a3, a4] S M = rn ca C_X4_addTube 38 [some (.ref x), a1, a2, a3, a4] (.ref x :: S) M := (rn_at k_X4_addTube_37).trans rfl
theorem k_X4_addTube_38 : lk 38 C_X4_addTube = some (.getfield 31, (4, 6, 0, 68)) := by decide +kernel
theorem s_X4_addTube_38 {ca : Nat → List Value → tM → tO} {M : tM} {L : tL} {b : Nat} {S : List Value} : rn ca C_X4_addTube 38 L (.ref b :: S) M = if clsO b = some 4 then rn ca C_X4_addTube 41 L (fv M b 6 :: S) M else none := (rn_at k_X4_addTube_38).trans rnx_ite
theorem k_X4_addTube_41 : lk 41 C_X4_addTube = some (.aload_n 0, (0, 0, 0, 0)) := by decide +kernel
theorem s_X4_addTube_41 {ca : Nat → List Value → tM → tO} {M : tM} {a1 a2 a3 a4 : Option Value} {x : Nat} {S : List Value} : rn ca C_X4_addTube 41 [some (.ref x), a1, a2, a3, a4] S M = rn ca C_X4_addTube 42 [some (.ref x), a1, a2, a3, a4] (.ref x :: S) M := (rn_at k_X4_addTube_41).trans rfl
theorem k_X4_addTube_42 : lk 42 C_X4_addTube = some (.getfield 19, (4, 2, 0, 64)) := by decide +kernel
theorem s_X4_addTube_42 {ca : Nat → List Value → tM → tO} {M : tM} {L : tL} {b : Nat} {S : List Value} : rn ca C_X4_addTube 42 L (.ref b :: S) M = if clsO b = some 4 then rn ca C_X4_addTube 45 L (fv M b 2 :: S) M else none := (rn_at k_X4_addTube_42).trans rnx_ite
theorem k_X4_addTube_45 : lk 45 C_X4_addTube = some (.iload 4, (0, 0, 0, 0)) := by decide +kernel
theorem s_X4_addTube_45 {ca : Nat → List Value → tM → tO} {M : tM} {a0 a1 a2 a3 : Option Value} {x : Int32} {S : List Value} : rn ca C_X4_addTube 45 [a0, a1, a2, a3, some (.int x)] S M = rn ca C_X4_addTube 47 [a0, a1, a2, a3, some (.int x)] (.int x :: S) M := (rn_at k_X4_addTube_45).trans rfl
theorem k_X4_addTube_47 : lk 47 C_X4_addTube = some (.iastore, (0, 0, 0, 0)) := by decide +kernel
theorem s_X4_addTube_47 {ca : Nat → List Value → tM → tO} {M : tM} {L : tL} {a : Nat} {i x : Int32} {S : List Value} : rn ca C_X4_addTube 47 L (.int x :: .int i :: .ref a :: S) M = if akind a = 0 ∧ inb i (alen M a) then rn ca C_X4_addTube 48 L S (sI M a i.toInt.toNat x) else none := (rn_at k_X4_addTube_47).trans rnx_ite
theorem k_X4_addTube_48 : lk 48 C_X4_addTube = some (.aload_n 0, (0, 0, 0, 0)) := by decide +kernel
theorem s_X4_addTube_48 {ca : Nat → List Value → tM → tO} {M : tM} {a1 a2 a3 a4 : Option Value} {x : Nat} {S : List Value} : rn ca C_X4_addTube 48 [some (.ref x), a1, a2, a3, a4] S M = rn ca C_X4_addTube 49 [some (.ref x), a1, a2, a3, a4] (.ref x :: S) M := (rn_at k_X4_addTube_48).trans rfl
theorem k_X4_addTube_49 : lk 49 C_X4_addTube = some (.dup, (0, 0, 0, 0)) := by decide +kernel
theorem s_X4_addTube_49 {ca : Nat → List Value → tM → tO} {M : tM} {L : tL} {x : Nat} {S : List Value} : rn ca C_X4_addTube 49 L (.ref x :: S) M = rn ca C_X4_addTube 50 L (.ref x :: .ref x :: S) M := (rn_at k_X4_addTube_49).trans rfl
theorem s_X4_addTube_49b {ca : Nat → List Value → tM → tO} {M : tM} {L : tL} {x : Int32} {S : List Value} : rn ca C_X4_addTube 49 L (.int x :: S) M = rn ca C_X4_addTube 50 L (.int x :: .int x :: S) M := (rn_at k_X4_addTube_49).trans rfl
theorem k_X4_addTube_50 : lk 50 C_X4_addTube = some (.getfield 19, (4, 2, 0, 64)) := by decide +kernel
theorem s_X4_addTube_50 {ca : Nat → List Value → tM → tO} {M : tM} {L : tL} {b : Nat} {S : List Value} : rn ca C_X4_addTube 50 L (.ref b :: S) M = if clsO b = some 4 then rn ca C_X4_addTube 53 L (fv M b 2 :: S) M else none := (rn_at k_X4_addTube_50).trans rnx_ite
theorem k_X4_addTube_53 : lk 53 C_X4_addTube = some (.iconst 1, (0, 0, 0, 0)) := by decide +kernel
theorem s_X4_addTube_53 {ca : Nat → List Value → tM → tO} {M : tM} {L : tL} {S : List Value} : rn ca C_X4_addTube 53 L S M = rn ca C_X4_addTube 54 L (.int (iI 1) :: S) M := (rn_at k_X4_addTube_53).trans rfl
theorem k_X4_addTube_54 : lk 54 C_X4_addTube = some (.iadd, (0, 0, 0, 0)) := by decide +kernel
theorem s_X4_addTube_54 {ca : Nat → List Value → tM → tO} {M : tM} {L : tL} {x y : Int32} {S : List Value} : rn ca C_X4_addTube 54 L (.int y :: .int x :: S) M = rn ca C_X4_addTube 55 L (.int (x + y) :: S) M := (rn_at k_X4_addTube_54).trans rfl
theorem k_X4_addTube_55 : lk 55 C_X4_addTube = some (.putfield 19, (4, 2, 0, 64)) := by decide +kernel
theorem s_X4_addTube_55 {ca : Nat → List Value → tM → tO} {M : tM} {L : tL} {b : Nat} {v : Int32} {S : List Value} : rn ca C_X4_addTube 55 L (.int v :: .ref b :: S) M = if clsO b = some 4 then rn ca C_X4_addTube 58 L S (sI M b 2 v) else none := (rn_at k_X4_addTube_55).trans rnx_ite
theorem k_X4_addTube_58 : lk 58 C_X4_addTube = some (.aload_n 0, (0, 0, 0, 0)) := by decide +kernel
theorem s_X4_addTube_58 {ca : Nat → List Value → tM → tO} {M : tM} {a1 a2 a3 a4 : Option Value} {x : Nat} {S : List Value} : rn ca C_X4_addTube 58 [some (.ref x), a1, a2, a3, a4] S M = rn ca C_X4_addTube 59 [some (.ref x), a1, a2, a3, a4] (.ref x :: S) M := (rn_at k_X4_addTube_58).trans rfl
theorem k_X4_addTube_59 : lk 59 C_X4_addTube = some (.aload_n 0, (0, 0, 0, 0)) := by decide +kernel
theorem s_X4_addTube_59 {ca : Nat → List Value → tM → tO} {M : tM} {a1 a2 a3 a4 : Option Value} {x : Nat} {S : List Value} : rn ca C_X4_addTube 59 [some (.ref x), a1, a2, a3, a4] S M = rn ca C_X4_addTube 60 [some (.ref x), a1, a2, a3, a4] (.ref x :: S) M := (rn_at k_X4_addTube_59).trans rfl
theorem k_X4_addTube_60 : lk 60 C_X4_addTube = some (.getfield 19, (4, 2, 0, 64)) := by decide +kernel
theorem s_X4_addTube_60 {ca : Nat → List Value → tM → tO} {M : tM} {L : tL} {b : Nat} {S : List Value} : rn ca C_X4_addTube 60 L (.ref b :: S) M = if clsO b = some 4 then rn ca C_X4_addTube 63 L (fv M b 2 :: S) M else none := (rn_at k_X4_addTube_60).trans rnx_ite
theorem k_X4_addTube_63 : lk 63 C_X4_addTube = some (.iconst 1, (0, 0, 0, 0)) := by decide +kernel
theorem s_X4_addTube_63 {ca : Nat → List Value → tM → tO} {M : tM} {L : tL} {S : List Value} : rn ca C_X4_addTube 63 L S M = rn ca C_X4_addTube 64 L (.int (iI 1) :: S) M := (rn_at k_X4_addTube_63).trans rfl
theorem k_X4_addTube_64 : lk 64 C_X4_addTube = some (.isub, (0, 0, 0, 0)) := by decide +kernel
theorem s_X4_addTube_64 {ca : Nat → List Value → tM → tO} {M : tM} {L : tL} {x y : Int32} {S : List Value} : rn ca C_X4_addTube 64 L (.int y :: .int x :: S) M = rn ca C_X4_addTube 65 L (.int (x - y) :: S) M := (rn_at k_X4_addTube_64).trans rfl
theorem k_X4_addTube_65 : lk 65 C_X4_addTube = some (.iconst 0, (0, 0, 0, 0)) := by decide +kernel
theorem s_X4_addTube_65 {ca : Nat → List Value → tM → tO} {M : tM} {L : tL} {S : List Value} : rn ca C_X4_addTube 65 L S M = rn ca C_X4_addTube 66 L (.int (iI 0) :: S) M := (rn_at k_X4_addTube_65).trans rfl
theorem k_X4_addTube_66 : lk 66 C_X4_addTube = some (.invokevirtual 68, (28, 2, 4, 384)) := by decide +kernel
theorem s_X4_addTube_66 {ca : Nat → List Value → tM → tO} {M : tM} {L : tL} {v1 v2 : Value} {b : Nat} : rn ca C_X4_addTube 66 L [v2, v1, .ref b] M = if clsO b = some 4 then rnk ca C_X4_addTube 69 L [] (ca m_X4_putShut [.ref b, v1, v2] M) else none := (rn_at k_X4_addTube_66).trans rnx_ite
theorem k_X4_addTube_69 : lk 69 C_X4_addTube = some (.return_, (0, 0, 0, 0)) := by decide +kernel
theorem s_X4_addTube_69 {ca : Nat → List Value → tM → tO} {M : tM} {L : tL} : rn ca C_X4_addTube 69 L [] M = some (none, M) := (rn_at k_X4_addTube_69).trans rfl
theorem k_X4_addCapsule_0 : lk 0 C_X4_addCapsule = some (.aload_n 0, (0, 0, 0, 0)) := by decide +kernel
theorem s_X4_addCapsule_0 {ca : Nat → List Value → tM → tO} {M : tM} {a1 a2 a3 a4 : Option Value} {x : Nat} {S : List Value} : rn ca C_X4_addCapsule 0 [some (.ref x), a1, a2, a3, a4] S M = rn ca C_X4_addCapsule 1 [some (.ref x), a1, a2, a3, a4] (.ref x :: S) M := (rn_at k_X4_addCapsule_0).trans rfl
theorem k_X4_addCapsule_1 : lk 1 C_X4_addCapsule = some (.invokevirtual 72, (23, 0, 4, 417)) := by decide +kernel
theorem s_X4_addCapsule_1 {ca : Nat → List Value → tM → tO} {M : tM} {L : tL} {b : Nat} : rn ca C_X4_addCapsule 1 L [.ref b] M = if clsO b = some 4 then rnk ca C_X4_addCapsule 4 L [] (ca m_X4_hasRoomForCapsule [.ref b] M) else none := (rn_at k_X4_addCapsule_1).trans rnx_ite
theorem k_X4_addCapsule_4 : lk 4 C_X4_addCapsule = some (.ifCond .eq 54, (58, 0, 0, 0)) := by decide +kernel
theorem s_X4_addCapsule_4 {ca : Nat → List Value → tM → tO} {M : tM} {L : tL} {x : Int32} {S : List Value} : rn ca C_X4_addCapsule 4 L (.int x :: S) M = if x = iI 0 then rn ca C_X4_addCapsule 58 L S M else rn ca C_X4_addCapsule 7 L S M := (rn_at k_X4_addCapsule_4).trans rnx_ite
theorem k_X4_addCapsule_7 : lk 7 C_X4_addCapsule = some (.aload_n 0, (0, 0, 0, 0)) := by decide +kernel
theorem s_X4_addCapsule_7 {ca : Nat → List Value → tM → tO} {M : tM} {a1 a2 a3 a4 : Option Value} {x : Nat} {S : List Value} : rn ca C_X4_addCapsule 7 [some (.ref x), a1, a2, a3, a4] S M = rn ca C_X4_addCapsule 8 [some (.ref x), a1, a2, a3, a4] (.ref x :: S) M := (rn_at k_X4_addCapsule_7).trans rfl
theorem k_X4_addCapsule_8 : lk 8 C_X4_addCapsule = some (.getfield 40, (4, 9, 0, 71)) := by decide +kernel
theorem s_X4_addCapsule_8 {ca : Nat → List Value → tM → tO} {M : tM} {L : tL} {b : Nat} {S : List Value} : rn ca C_X4_addCapsule 8 L (.ref b :: S) M = if clsO b = some 4 then rn ca C_X4_addCapsule 11 L (fv M b 9 :: S) M else none := (rn_at k_X4_addCapsule_8).trans rnx_ite
theorem k_X4_addCapsule_11 : lk 11 C_X4_addCapsule = some (.aload_n 0, (0, 0, 0, 0)) := by decide +kernel
theorem s_X4_addCapsule_11 {ca : Nat → List Value → tM → tO} {M : tM} {a1 a2 a3 a4 : Option Value} {x : Nat} {S : List Value} : rn ca C_X4_addCapsule 11 [some (.ref x), a1, a2, a3, a4] S M = rn ca C_X4_addCapsule 12 [some (.ref x), a1, a2, a3, a4] (.ref x :: S) M := (rn_at k_X4_addCapsule_11).trans rfl
theorem k_X4_addCapsule_12 : lk 12 C_X4_addCapsule = some (.getfield 37, (4, 8, 0, 70)) := by decide +kernel
theorem s_X4_addCapsule_12 {ca : Nat → List Value → tM → tO} {M : tM} {L : tL} {b : Nat} {S : List Value} : rn ca C_X4_addCapsule 12 L (.ref b :: S) M = if clsO b = some 4 then rn ca C_X4_addCapsule 15 L (fv M b 8 :: S) M else none := (rn_at k_X4_addCapsule_12).trans rnx_ite
theorem k_X4_addCapsule_15 : lk 15 C_X4_addCapsule = some (.iload_n 1, (0, 0, 0, 0)) := by decide +kernel
theorem s_X4_addCapsule_15 {ca : Nat → List Value → tM → tO} {M : tM} {a0 a2 a3 a4 : Option Value} {x : Int32} {S : List Value} : rn ca C_X4_addCapsule 15 [a0, some (.int x), a2, a3, a4] S M = rn ca C_X4_addCapsule 16 [a0, some (.int x), a2, a3, a4] (.int x :: S) M := (rn_at k_X4_addCapsule_15).trans rfl
theorem k_X4_addCapsule_16 : lk 16 C_X4_addCapsule = some (.iastore, (0, 0, 0, 0)) := by decide +kernel
theorem s_X4_addCapsule_16 {ca : Nat → List Value → tM → tO} {M : tM} {L : tL} {a : Nat} {i x : Int32} {S : List Value} : rn ca C_X4_addCapsule 16 L (.int x :: .int i :: .ref a :: S) M = if akind a = 0 ∧ inb i (alen M a) then rn ca C_X4_addCapsule 17 L S (sI M a i.toInt.toNat x) else none := (rn_at k_X4_addCapsule_16).trans rnx_ite
theorem k_X4_addCapsule_17 : lk 17 C_X4_addCapsule = some (.aload_n 0, (0, 0, 0, 0)) := by decide +kernel
theorem s_X4_addCapsule_17 {ca : Nat → List Value → tM → tO} {M : tM} {a1 a2 a3 a4 : Option Value} {x : Nat} {S : List Value} : rn ca C_X4_addCapsule 17 [some (.ref x), a1, a2, a3, a4] S M = rn ca C_X4_addCapsule 18 [some (.ref x), a1, a2, a3, a4] (.ref x :: S) M := (rn_at k_X4_addCapsule_17).trans rfl
theorem k_X4_addCapsule_18 : lk 18 C_X4_addCapsule = some (.getfield 43, (4, 10, 0, 72)) := by decide +kernel
theorem s_X4_addCapsule_18 {ca : Nat → List Value → tM → tO} {M : tM} {L : tL} {b : Nat} {S : List Value} : rn ca C_X4_addCapsule 18 L (.ref b :: S) M = if clsO b = some 4 then rn ca C_X4_addCapsule 21 L (fv M b 10 :: S) M else none := (rn_at k_X4_addCapsule_18).trans rnx_ite
theorem k_X4_addCapsule_21 : lk 21 C_X4_addCapsule = some (.aload_n 0, (0, 0, 0, 0)) := by decide +kernel
theorem s_X4_addCapsule_21 {ca : Nat → List Value → tM → tO} {M : tM} {a1 a2 a3 a4 : Option Value} {x : Nat} {S : List Value} : rn ca C_X4_addCapsule 21 [some (.ref x), a1, a2, a3, a4] S M = rn ca C_X4_addCapsule 22 [some (.ref x), a1, a2, a3, a4] (.ref x :: S) M := (rn_at k_X4_addCapsule_21).trans rfl
theorem k_X4_addCapsule_22 : lk 22 C_X4_addCapsule = some (.getfield 37, (4, 8, 0, 70)) := by decide +kernel
theorem s_X4_addCapsule_22 {ca : Nat → List Value → tM → tO} {M : tM} {L : tL} {b : Nat} {S : List Value} : rn ca C_X4_addCapsule 22 L (.ref b :: S) M = if clsO b = some 4 then rn ca C_X4_addCapsule 25 L (fv M b 8 :: S) M else none := (rn_at k_X4_addCapsule_22).trans rnx_ite
theorem k_X4_addCapsule_25 : lk 25 C_X4_addCapsule = some (.iload_n 2, (0, 0, 0, 0)) := by decide +kernel
theorem s_X4_addCapsule_25 {ca : Nat → List Value → tM → tO} {M : tM} {a0 a1 a3 a4 : Option Value} {x : Int32} {S : List Value} : rn ca C_X4_addCapsule 25 [a0, a1, some (.int x), a3, a4] S M = rn ca C_X4_addCapsule 26 [a0, a1, some (.int x), a3, a4] (.int x :: S) M := (rn_at k_X4_addCapsule_25).trans rfl
theorem k_X4_addCapsule_26 : lk 26 C_X4_addCapsule = some (.iastore, (0, 0, 0, 0)) := by decide +kernel
theorem s_X4_addCapsule_26 {ca : Nat → List Value → tM → tO} {M : tM} {L : tL} {a : Nat} {i x : Int32} {S : List Value} : rn ca C_X4_addCapsule 26 L (.int x :: .int i :: .ref a :: S) M = if akind a = 0 ∧ inb i (alen M a) then rn ca C_X4_addCapsule 27 L S (sI M a i.toInt.toNat x) else none := (rn_at k_X4_addCapsule_26).trans rnx_ite
theorem k_X4_addCapsule_27 : lk 27 C_X4_addCapsule = some (.aload_n 0, (0, 0, 0, 0)) := by decide +kernel
theorem s_X4_addCapsule_27 {ca : Nat → List Value → tM → tO} {M : tM} {a1 a2 a3 a4 : Option Value} {x : Nat} {S : List Value} : rn ca C_X4_addCapsule 27 [some (.ref x), a1, a2, a3, a4] S M = rn ca C_X4_addCapsule 28 [some (.ref x), a1, a2, a3, a4] (.ref x :: S) M := (rn_at k_X4_addCapsule_27).trans rfl
theorem k_X4_addCapsule_28 : lk 28 C_X4_addCapsule = some (.getfield 46, (4, 11, 0, 73)) := by decide +kernel
theorem s_X4_addCapsule_28 {ca : Nat → List Value → tM → tO} {M : tM} {L : tL} {b : Nat} {S : List Value} : rn ca C_X4_addCapsule 28 L (.ref b :: S) M = if clsO b = some 4 then rn ca C_X4_addCapsule 31 L (fv M b 11 :: S) M else none := (rn_at k_X4_addCapsule_28).trans rnx_ite
theorem k_X4_addCapsule_31 : lk 31 C_X4_addCapsule = some (.aload_n 0, (0, 0, 0, 0)) := by decide +kernel
theorem s_X4_addCapsule_31 {ca : Nat → List Value → tM → tO} {M : tM} {a1 a2 a3 a4 : Option Value} {x : Nat} {S : List Value} : rn ca C_X4_addCapsule 31 [some (.ref x), a1, a2, a3, a4] S M = rn ca C_X4_addCapsule 32 [some (.ref x), a1, a2, a3, a4] (.ref x :: S) M := (rn_at k_X4_addCapsule_31).trans rfl
theorem k_X4_addCapsule_32 : lk 32 C_X4_addCapsule = some (.getfield 37, (4, 8, 0, 70)) := by decide +kernel
theorem s_X4_addCapsule_32 {ca : Nat → List Value → tM → tO} {M : tM} {L : tL} {b : Nat} {S : List Value} : rn ca C_X4_addCapsule 32 L (.ref b :: S) M = if clsO b = some 4 then rn ca C_X4_addCapsule 35 L (fv M b 8 :: S) M else none := (rn_at k_X4_addCapsule_32).trans rnx_ite
theorem k_X4_addCapsule_35 : lk 35 C_X4_addCapsule = some (.iload_n 3, (0, 0, 0, 0)) := by decide +kernel
theorem s_X4_addCapsule_35 {ca : Nat → List Value → tM → tO} {M : tM} {a0 a1 a2 a4 : Option Value} {x : Int32} {S : List Value} : rn ca C_X4_addCapsule 35 [a0, a1, a2, some (.int x), a4] S M = rn ca C_X4_addCapsule 36 [a0, a1, a2, some (.int x), a4] (.int x :: S) M := (rn_at k_X4_addCapsule_35).trans rfl
theorem k_X4_addCapsule_36 : lk 36 C_X4_addCapsule = some (.iastore, (0, 0, 0, 0)) := by decide +kernel
theorem s_X4_addCapsule_36 {ca : Nat → List Value → tM → tO} {M : tM} {L : tL} {a : Nat} {i x : Int32} {S : List Value} : rn ca C_X4_addCapsule 36 L (.int x :: .int i :: .ref a :: S) M = if akind a = 0 ∧ inb i (alen M a) then rn ca C_X4_addCapsule 37 L S (sI M a i.toInt.toNat x) else none := (rn_at k_X4_addCapsule_36).trans rnx_ite
theorem k_X4_addCapsule_37 : lk 37 C_X4_addCapsule = some (.aload_n 0, (0, 0, 0, 0)) := by decide +kernel
theorem s_X4_addCapsule_37 {ca : Nat → List Value → tM → tO} {M : tM} {a1 a2 a3 a4 : Option Value} {x : Nat} {S : List Value} : rn ca C_X4_addCapsule 37 [some (.ref x), a1, a2, a3, a4] S M = rn ca C_X4_addCapsule 38 [some (.ref x), a1, a2, a3, a4] (.ref x :: S) M := (rn_at k_X4_addCapsule_37).trans rfl
theorem k_X4_addCapsule_38 : lk 38 C_X4_addCapsule = some (.getfield 49, (4, 12, 0, 74)) := by decide +kernel
theorem s_X4_addCapsule_38 {ca : Nat → List Value → tM → tO} {M : tM} {L : tL} {b : Nat} {S : List Value} : rn ca C_X4_addCapsule 38 L (.ref b :: S) M = if clsO b = some 4 then rn ca C_X4_addCapsule 41 L (fv M b 12 :: S) M else none := (rn_at k_X4_addCapsule_38).trans rnx_ite
theorem k_X4_addCapsule_41 : lk 41 C_X4_addCapsule = some (.aload_n 0, (0, 0, 0, 0)) := by decide +kernel
theorem s_X4_addCapsule_41 {ca : Nat → List Value → tM → tO} {M : tM} {a1 a2 a3 a4 : Option Value} {x : Nat} {S : List Value} : rn ca C_X4_addCapsule 41 [some (.ref x), a1, a2, a3, a4] S M = rn ca C_X4_addCapsule 42 [some (.ref x), a1, a2, a3, a4] (.ref x :: S) M := (rn_at k_X4_addCapsule_41).trans rfl
theorem k_X4_addCapsule_42 : lk 42 C_X4_addCapsule = some (.getfield 37, (4, 8, 0, 70)) := by decide +kernel
theorem s_X4_addCapsule_42 {ca : Nat → List Value → tM → tO} {M : tM} {L : tL} {b : Nat} {S : List Value} : rn ca C_X4_addCapsule 42 L (.ref b :: S) M = if clsO b = some 4 then rn ca C_X4_addCapsule 45 L (fv M b 8 :: S) M else none := (rn_at k_X4_addCapsule_42).trans rnx_ite
theorem k_X4_addCapsule_45 : lk 45 C_X4_addCapsule = some (.iload 4, (0, 0, 0, 0)) := by decide +kernel
theorem s_X4_addCapsule_45 {ca : Nat → List Value → tM → tO} {M : tM} {a0 a1 a2 a3 : Option Value} {x : Int32} {S : List Value} : rn ca C_X4_addCapsule 45 [a0, a1, a2, a3, some (.int x)] S M = rn ca C_X4_addCapsule 47 [a0, a1, a2, a3, some (.int x)] (.int x :: S) M := (rn_at k_X4_addCapsule_45).trans rfl
theorem k_X4_addCapsule_47 : lk 47 C_X4_addCapsule = some (.iastore, (0, 0, 0, 0)) := by decide +kernel
theorem s_X4_addCapsule_47 {ca : Nat → List Value → tM → tO} {M : tM} {L : tL} {a : Nat} {i x : Int32} {S : List Value} : rn ca C_X4_addCapsule 47 L (.int x :: .int i :: .ref a :: S) M = if akind a = 0 ∧ inb i (alen M a) then rn ca C_X4_addCapsule 48 L S (sI M a i.toInt.toNat x) else none := (rn_at k_X4_addCapsule_47).trans rnx_ite
theorem k_X4_addCapsule_48 : lk 48 C_X4_addCapsule = some (.aload_n 0, (0, 0, 0, 0)) := by decide +kernel
theorem s_X4_addCapsule_48 {ca : Nat → List Value → tM → tO} {M : tM} {a1 a2 a3 a4 : Option Value} {x : Nat} {S : List Value} : rn ca C_X4_addCapsule 48 [some (.ref x), a1, a2, a3, a4] S M = rn ca C_X4_addCapsule 49 [some (.ref x), a1, a2, a3, a4] (.ref x :: S) M := (rn_at k_X4_addCapsule_48).trans rfl
theorem k_X4_addCapsule_49 : lk 49 C_X4_addCapsule = some (.dup, (0, 0, 0, 0)) := by decide +kernel
theorem s_X4_addCapsule_49 {ca : Nat → List Value → tM → tO} {M : tM} {L : tL} {x : Nat} {S : List Value} : rn ca C_X4_addCapsule 49 L (.ref x :: S) M = rn ca C_X4_addCapsule 50 L (.ref x :: .ref x :: S) M := (rn_at k_X4_addCapsule_49).trans rfl
theorem s_X4_addCapsule_49b {ca : Nat → List Value → tM → tO} {M : tM} {L : tL} {x : Int32} {S : List Value} : rn ca C_X4_addCapsule 49 L (.int x :: S) M = rn ca C_X4_addCapsule 50 L (.int x :: .int x :: S) M := (rn_at k_X4_addCapsule_49).trans rfl
theorem k_X4_addCapsule_50 : lk 50 C_X4_addCapsule = some (.getfield 37, (4, 8, 0, 70)) := by decide +kernel
theorem s_X4_addCapsule_50 {ca : Nat → List Value → tM → tO} {M : tM} {L : tL} {b : Nat} {S : List Value} : rn ca C_X4_addCapsule 50 L (.ref b :: S) M = if clsO b = some 4 then rn ca C_X4_addCapsule 53 L (fv M b 8 :: S) M else none := (rn_at k_X4_addCapsule_50).trans rnx_ite
theorem k_X4_addCapsule_53 : lk 53 C_X4_addCapsule = some (.iconst 1, (0, 0, 0, 0)) := by decide +kernel
theorem s_X4_addCapsule_53 {ca : Nat → List Value → tM → tO} {M : tM} {L : tL} {S : List Value} : rn ca C_X4_addCapsule 53 L S M = rn ca C_X4_addCapsule 54 L (.int (iI 1) :: S) M := (rn_at k_X4_addCapsule_53).trans rfl
theorem k_X4_addCapsule_54 : lk 54 C_X4_addCapsule = some (.iadd, (0, 0, 0, 0)) := by decide +kernel
theorem s_X4_addCapsule_54 {ca : Nat → List Value → tM → tO} {M : tM} {L : tL} {x y : Int32} {S : List Value} : rn ca C_X4_addCapsule 54 L (.int y :: .int x :: S) M = rn ca C_X4_addCapsule 55 L (.int (x + y) :: S) M := (rn_at k_X4_addCapsule_54).trans rfl
theorem k_X4_addCapsule_55 : lk 55 C_X4_addCapsule = some (.putfield 37, (4, 8, 0, 70)) := by decide +kernel
theorem s_X4_addCapsule_55 {ca : Nat → List Value → tM → tO} {M : tM} {L : tL} {b : Nat} {v : Int32} {S : List Value} : rn ca C_X4_addCapsule 55 L (.int v :: .ref b :: S) M = if clsO b = some 4 then rn ca C_X4_addCapsule 58 L S (sI M b 8 v) else none := (rn_at k_X4_addCapsule_55).trans rnx_ite
theorem k_X4_addCapsule_58 : lk 58 C_X4_addCapsule = some (.return_, (0, 0, 0, 0)) := by decide +kernel
theorem s_X4_addCapsule_58 {ca : Nat → List Value → tM → tO} {M : tM} {L : tL} : rn ca C_X4_addCapsule 58 L [] M = some (none, M) := (rn_at k_X4_addCapsule_58).trans rfl
theorem k_X4_isShut_0 : lk 0 C_X4_isShut = some (.aload_n 0, (0, 0, 0, 0)) := by decide +kernel
theorem s_X4_isShut_0 {ca : Nat → List Value → tM → tO} {M : tM} {a1 : Option Value} {x : Nat} {S : List Value} : rn ca C_X4_isShut 0 [some (.ref x), a1] S M = rn ca C_X4_isShut 1 [some (.ref x), a1] (.ref x :: S) M := (rn_at k_X4_isShut_0).trans rfl
theorem k_X4_isShut_1 : lk 1 C_X4_isShut = some (.iload_n 1, (0, 0, 0, 0)) := by decide +kernel
theorem s_X4_isShut_1 {ca : Nat → List Value → tM → tO} {M : tM} {a0 : Option Value} {x : Int32} {S : List Value} : rn ca C_X4_isShut 1 [a0, some (.int x)] S M = rn ca C_X4_isShut 2 [a0, some (.int x)] (.int x :: S) M := (rn_at k_X4_isShut_1).trans rfl
theorem k_X4_isShut_2 : lk 2 C_X4_isShut = some (.invokevirtual 75, (19, 1, 4, 388)) := by decide +kernel
theorem s_X4_isShut_2 {ca : Nat → List Value → tM → tO} {M : tM} {L : tL} {v1 : Value} {b : Nat} : rn ca C_X4_isShut 2 L [v1, .ref b] M = if clsO b = some 4 then rnk ca C_X4_isShut 5 L [] (ca m_X4_hasTube [.ref b, v1] M) else none := (rn_at k_X4_isShut_2).trans rnx_ite
theorem k_X4_isShut_5 : lk 5 C_X4_isShut = some (.ifCond .eq 18, (23, 0, 0, 0)) := by decide +kernel
theorem s_X4_isShut_5 {ca : Nat → List Value → tM → tO} {M : tM} {L : tL} {x : Int32} {S : List Value} : rn ca C_X4_isShut 5 L (.int x :: S) M = if x = iI 0 then rn ca C_X4_isShut 23 L S M else rn ca C_X4_isShut 8 L S M := (rn_at k_X4_isShut_5).trans rnx_ite
theorem k_X4_isShut_8 : lk 8 C_X4_isShut = some (.aload_n 0, (0, 0, 0, 0)) := by decide +kernel
theorem s_X4_isShut_8 {ca : Nat → List Value → tM → tO} {M : tM} {a1 : Option Value} {x : Nat} {S : List Value} : rn ca C_X4_isShut 8 [some (.ref x), a1] S M = rn ca C_X4_isShut 9 [some (.ref x), a1] (.ref x :: S) M := (rn_at k_X4_isShut_8).trans rfl
theorem k_X4_isShut_9 : lk 9 C_X4_isShut = some (.getfield 34, (4, 7, 0, 69)) := by decide +kernel
theorem s_X4_isShut_9 {ca : Nat → List Value → tM → tO} {M : tM} {L : tL} {b : Nat} {S : List Value} : rn ca C_X4_isShut 9 L (.ref b :: S) M = if clsO b = some 4 then rn ca C_X4_isShut 12 L (fv M b 7 :: S) M else none := (rn_at k_X4_isShut_9).trans rnx_ite
theorem k_X4_isShut_12 : lk 12 C_X4_isShut = some (.iconst 1, (0, 0, 0, 0)) := by decide +kernel
theorem s_X4_isShut_12 {ca : Nat → List Value → tM → tO} {M : tM} {L : tL} {S : List Value} : rn ca C_X4_isShut 12 L S M = rn ca C_X4_isShut 13 L (.int (iI 1) :: S) M := (rn_at k_X4_isShut_12).trans rfl
theorem k_X4_isShut_13 : lk 13 C_X4_isShut = some (.iload_n 1, (0, 0, 0, 0)) := by decide +kernel
theorem s_X4_isShut_13 {ca : Nat → List Value → tM → tO} {M : tM} {a0 : Option Value} {x : Int32} {S : List Value} : rn ca C_X4_isShut 13 [a0, some (.int x)] S M = rn ca C_X4_isShut 14 [a0, some (.int x)] (.int x :: S) M := (rn_at k_X4_isShut_13).trans rfl
theorem k_X4_isShut_14 : lk 14 C_X4_isShut = some (.ishl, (0, 0, 0, 0)) := by decide +kernel
theorem s_X4_isShut_14 {ca : Nat → List Value → tM → tO} {M : tM} {L : tL} {x y : Int32} {S : List Value} : rn ca C_X4_isShut 14 L (.int y :: .int x :: S) M = rn ca C_X4_isShut 15 L (.int (x <<< (y &&& 31)) :: S) M := (rn_at k_X4_isShut_14).trans rfl
theorem k_X4_isShut_15 : lk 15 C_X4_isShut = some (.iand, (0, 0, 0, 0)) := by decide +kernel
theorem s_X4_isShut_15 {ca : Nat → List Value → tM → tO} {M : tM} {L : tL} {x y : Int32} {S : List Value} : rn ca C_X4_isShut 15 L (.int y :: .int x :: S) M = rn ca C_X4_isShut 16 L (.int (x &&& y) :: S) M := (rn_at k_X4_isShut_15).trans rfl
theorem k_X4_isShut_16 : lk 16 C_X4_isShut = some (.ifCond .eq 7, (23, 0, 0, 0)) := by decide +kernel
theorem s_X4_isShut_16 {ca : Nat → List Value → tM → tO} {M : tM} {L : tL} {x : Int32} {S : List Value} : rn ca C_X4_isShut 16 L (.int x :: S) M = if x = iI 0 then rn ca C_X4_isShut 23 L S M else rn ca C_X4_isShut 19 L S M := (rn_at k_X4_isShut_16).trans rnx_ite
theorem k_X4_isShut_19 : lk 19 C_X4_isShut = some (.iconst 1, (0, 0, 0, 0)) := by decide +kernel
theorem s_X4_isShut_19 {ca : Nat → List Value → tM → tO} {M : tM} {L : tL} {S : List Value} : rn ca C_X4_isShut 19 L S M = rn ca C_X4_isShut 20 L (.int (iI 1) :: S) M := (rn_at k_X4_isShut_19).trans rfl
theorem k_X4_isShut_20 : lk 20 C_X4_isShut = some (.goto 4, (24, 0, 0, 0)) := by decide +kernel
theorem s_X4_isShut_20 {ca : Nat → List Value → tM → tO} {M : tM} {L : tL} {S : List Value} : rn ca C_X4_isShut 20 L S M = rn ca C_X4_isShut 24 L S M := (rn_at k_X4_isShut_20).trans rfl
theorem k_X4_isShut_23 : lk 23 C_X4_isShut = some (.iconst 0, (0, 0, 0, 0)) := by decide +kernel
theorem s_X4_isShut_23 {ca : Nat → List Value → tM → tO} {M : tM} {L : tL} {S : List Value} : rn ca C_X4_isShut 23 L S M = rn ca C_X4_isShut 24 L (.int (iI 0) :: S) M := (rn_at k_X4_isShut_23).trans rfl
theorem k_X4_isShut_24 : lk 24 C_X4_isShut = some (.ireturn, (1, 0, 0, 0)) := by decide +kernel
theorem s_X4_isShut_24 {ca : Nat → List Value → tM → tO} {M : tM} {L : tL} {x : Int32} : rn ca C_X4_isShut 24 L [.int x] M = if x = iI 0 ∨ x = iI 1 then some (some (.int x), M) else none := (rn_at k_X4_isShut_24).trans rnx_ite
theorem k_X4_putShut_0 : lk 0 C_X4_putShut = some (.aload_n 0, (0, 0, 0, 0)) := by decide +kernel
theorem s_X4_putShut_0 {ca : Nat → List Value → tM → tO} {M : tM} {a1 a2 : Option Value} {x : Nat} {S : List Value} : rn ca C_X4_putShut 0 [some (.ref x), a1, a2] S M = rn ca C_X4_putShut 1 [some (.ref x), a1, a2] (.ref x :: S) M := (rn_at k_X4_putShut_0).trans rfl
theorem k_X4_putShut_1 : lk 1 C_X4_putShut = some (.iload_n 1, (0, 0, 0, 0)) := by decide +kernel
theorem s_X4_putShut_1 {ca : Nat → List Value → tM → tO} {M : tM} {a0 a2 : Option Value} {x : Int32} {S : List Value} : rn ca C_X4_putShut 1 [a0, some (.int x), a2] S M = rn ca C_X4_putShut 2 [a0, some (.int x), a2] (.int x :: S) M := (rn_at k_X4_putShut_1).trans rfl
theorem k_X4_putShut_2 : lk 2 C_X4_putShut = some (.invokevirtual 75, (19, 1, 4, 388)) := by decide +kernel
theorem s_X4_putShut_2 {ca : Nat → List Value → tM → tO} {M : tM} {L : tL} {v1 : Value} {b : Nat} : rn ca C_X4_putShut 2 L [v1, .ref b] M = if clsO b = some 4 then rnk ca C_X4_putShut 5 L [] (ca m_X4_hasTube [.ref b, v1] M) else none := (rn_at k_X4_putShut_2).trans rnx_ite
theorem k_X4_putShut_5 : lk 5 C_X4_putShut = some (.ifCond .eq 32, (37, 0, 0, 0)) := by decide +kernel
theorem s_X4_putShut_5 {ca : Nat → List Value → tM → tO} {M : tM} {L : tL} {x : Int32} {S : List Value} : rn ca C_X4_putShut 5 L (.int x :: S) M = if x = iI 0 then rn ca C_X4_putShut 37 L S M else rn ca C_X4_putShut 8 L S M := (rn_at k_X4_putShut_5).trans rnx_ite
theorem k_X4_putShut_8 : lk 8 C_X4_putShut = some (.aload_n 0, (0, 0, 0, 0)) := by decide +kernel
theorem s_X4_putShut_8 {ca : Nat → List Value → tM → tO} {M : tM} {a1 a2 : Option Value} {x : Nat} {S : List Value} : rn ca C_X4_putShut 8 [some (.ref x), a1, a2] S M = rn ca C_X4_putShut 9 [some (.ref x), a1, a2] (.ref x :: S) M := (rn_at k_X4_putShut_8).trans rfl
theorem k_X4_putShut_9 : lk 9 C_X4_putShut = some (.iload_n 2, (0, 0, 0, 0)) := by decide +kernel
theorem s_X4_putShut_9 {ca : Nat → List Value → tM → tO} {M : tM} {a0 a1 : Option Value} {x : Int32} {S : List Value} : rn ca C_X4_putShut 9 [a0, a1, some (.int x)] S M = rn ca C_X4_putShut 10 [a0, a1, some (.int x)] (.int x :: S) M := (rn_at k_X4_putShut_9).trans rfl
theorem k_X4_putShut_10 : lk 10 C_X4_putShut = some (.ifCond .eq 14, (24, 0, 0, 0)) := by decide +kernel
theorem s_X4_putShut_10 {ca : Nat → List Value → tM → tO} {M : tM} {L : tL} {x : Int32} {S : List Value} : rn ca C_X4_putShut 10 L (.int x :: S) M = if x = iI 0 then rn ca C_X4_putShut 24 L S M else rn ca C_X4_putShut 13 L S M := (rn_at k_X4_putShut_10).trans rnx_ite
theorem k_X4_putShut_13 : lk 13 C_X4_putShut = some (.aload_n 0, (0, 0, 0, 0)) := by decide +kernel
theorem s_X4_putShut_13 {ca : Nat → List Value → tM → tO} {M : tM} {a1 a2 : Option Value} {x : Nat} {S : List Value} : rn ca C_X4_putShut 13 [some (.ref x), a1, a2] S M = rn ca C_X4_putShut 14 [some (.ref x), a1, a2] (.ref x :: S) M := (rn_at k_X4_putShut_13).trans rfl
theorem k_X4_putShut_14 : lk 14 C_X4_putShut = some (.getfield 34, (4, 7, 0, 69)) := by decide +kernel
theorem s_X4_putShut_14 {ca : Nat → List Value → tM → tO} {M : tM} {L : tL} {b : Nat} {S : List Value} : rn ca C_X4_putShut 14 L (.ref b :: S) M = if clsO b = some 4 then rn ca C_X4_putShut 17 L (fv M b 7 :: S) M else none := (rn_at k_X4_putShut_14).trans rnx_ite
theorem k_X4_putShut_17 : lk 17 C_X4_putShut = some (.iconst 1, (0, 0, 0, 0)) := by decide +kernel
theorem s_X4_putShut_17 {ca : Nat → List Value → tM → tO} {M : tM} {L : tL} {S : List Value} : rn ca C_X4_putShut 17 L S M = rn ca C_X4_putShut 18 L (.int (iI 1) :: S) M := (rn_at k_X4_putShut_17).trans rfl
theorem k_X4_putShut_18 : lk 18 C_X4_putShut = some (.iload_n 1, (0, 0, 0, 0)) := by decide +kernel
theorem s_X4_putShut_18 {ca : Nat → List Value → tM → tO} {M : tM} {a0 a2 : Option Value} {x : Int32} {S : List Value} : rn ca C_X4_putShut 18 [a0, some (.int x), a2] S M = rn ca C_X4_putShut 19 [a0, some (.int x), a2] (.int x :: S) M := (rn_at k_X4_putShut_18).trans rfl
theorem k_X4_putShut_19 : lk 19 C_X4_putShut = some (.ishl, (0, 0, 0, 0)) := by decide +kernel
theorem s_X4_putShut_19 {ca : Nat → List Value → tM → tO} {M : tM} {L : tL} {x y : Int32} {S : List Value} : rn ca C_X4_putShut 19 L (.int y :: .int x :: S) M = rn ca C_X4_putShut 20 L (.int (x <<< (y &&& 31)) :: S) M := (rn_at k_X4_putShut_19).trans rfl
theorem k_X4_putShut_20 : lk 20 C_X4_putShut = some (.ior, (0, 0, 0, 0)) := by decide +kernel
theorem s_X4_putShut_20 {ca : Nat → List Value → tM → tO} {M : tM} {L : tL} {x y : Int32} {S : List Value} : rn ca C_X4_putShut 20 L (.int y :: .int x :: S) M = rn ca C_X4_putShut 21 L (.int (x ||| y) :: S) M := (rn_at k_X4_putShut_20).trans rfl
theorem k_X4_putShut_21 : lk 21 C_X4_putShut = some (.goto 13, (34, 0, 0, 0)) := by decide +kernel
theorem s_X4_putShut_21 {ca : Nat → List Value → tM → tO} {M : tM} {L : tL} {S : List Value} : rn ca C_X4_putShut 21 L S M = rn ca C_X4_putShut 34 L S M := (rn_at k_X4_putShut_21).trans rfl
theorem k_X4_putShut_24 : lk 24 C_X4_putShut = some (.aload_n 0, (0, 0, 0, 0)) := by decide +kernel
theorem s_X4_putShut_24 {ca : Nat → List Value → tM → tO} {M : tM} {a1 a2 : Option Value} {x : Nat} {S : List Value} : rn ca C_X4_putShut 24 [some (.ref x), a1, a2] S M = rn ca C_X4_putShut 25 [some (.ref x), a1, a2] (.ref x :: S) M := (rn_at k_X4_putShut_24).trans rfl
theorem k_X4_putShut_25 : lk 25 C_X4_putShut = some (.getfield 34, (4, 7, 0, 69)) := by decide +kernel
theorem s_X4_putShut_25 {ca : Nat → List Value → tM → tO} {M : tM} {L : tL} {b : Nat} {S : List Value} : rn ca C_X4_putShut 25 L (.ref b :: S) M = if clsO b = some 4 then rn ca C_X4_putShut 28 L (fv M b 7 :: S) M else none := (rn_at k_X4_putShut_25).trans rnx_ite
theorem k_X4_putShut_28 : lk 28 C_X4_putShut = some (.iconst 1, (0, 0, 0, 0)) := by decide +kernel
theorem s_X4_putShut_28 {ca : Nat → List Value → tM → tO} {M : tM} {L : tL} {S : List Value} : rn ca C_X4_putShut 28 L S M = rn ca C_X4_putShut 29 L (.int (iI 1) :: S) M := (rn_at k_X4_putShut_28).trans rfl
theorem k_X4_putShut_29 : lk 29 C_X4_putShut = some (.iload_n 1, (0, 0, 0, 0)) := by decide +kernel
theorem s_X4_putShut_29 {ca : Nat → List Value → tM → tO} {M : tM} {a0 a2 : Option Value} {x : Int32} {S : List Value} : rn ca C_X4_putShut 29 [a0, some (.int x), a2] S M = rn ca C_X4_putShut 30 [a0, some (.int x), a2] (.int x :: S) M := (rn_at k_X4_putShut_29).trans rfl
theorem k_X4_putShut_30 : lk 30 C_X4_putShut = some (.ishl, (0, 0, 0, 0)) := by decide +kernel
theorem s_X4_putShut_30 {ca : Nat → List Value → tM → tO} {M : tM} {L : tL} {x y : Int32} {S : List Value} : rn ca C_X4_putShut 30 L (.int y :: .int x :: S) M = rn ca C_X4_putShut 31 L (.int (x <<< (y &&& 31)) :: S) M := (rn_at k_X4_putShut_30).trans rfl
theorem k_X4_putShut_31 : lk 31 C_X4_putShut = some (.iconst (-1), (0, 0, 0, 0)) := by decide +kernel
theorem s_X4_putShut_31 {ca : Nat → List Value → tM → tO} {M : tM} {L : tL} {S : List Value} : rn ca C_X4_putShut 31 L S M = rn ca C_X4_putShut 32 L (.int (iI (-1)) :: S) M := (rn_at k_X4_putShut_31).trans rfl
theorem k_X4_putShut_32 : lk 32 C_X4_putShut = some (.ixor, (0, 0, 0, 0)) := by decide +kernel
theorem s_X4_putShut_32 {ca : Nat → List Value → tM → tO} {M : tM} {L : tL} {x y : Int32} {S : List Value} : rn ca C_X4_putShut 32 L (.int y :: .int x :: S) M = rn ca C_X4_putShut 33 L (.int (x ^^^ y) :: S) M := (rn_at k_X4_putShut_32).trans rfl
theorem k_X4_putShut_33 : lk 33 C_X4_putShut = some (.iand, (0, 0, 0, 0)) := by decide +kernel
theorem s_X4_putShut_33 {ca : Nat → List Value → tM → tO} {M : tM} {L : tL} {x y : Int32} {S : List Value} : rn ca C_X4_putShut 33 L (.int y :: .int x :: S) M = rn ca C_X4_putShut 34 L (.int (x &&& y) :: S) M := (rn_at k_X4_putShut_33).trans rfl
theorem k_X4_putShut_34 : lk 34 C_X4_putShut = some (.putfield 34, (4, 7, 0, 69)) := by decide +kernel
theorem s_X4_putShut_34 {ca : Nat → List Value → tM → tO} {M : tM} {L : tL} {b : Nat} {v : Int32} {S : List Value} : rn ca C_X4_putShut 34 L (.int v :: .ref b :: S) M = if clsO b = some 4 then rn ca C_X4_putShut 37 L S (sI M b 7 v) else none := (rn_at k_X4_putShut_34).trans rnx_ite
theorem k_X4_putShut_37 : lk 37 C_X4_putShut = some (.return_, (0, 0, 0, 0)) := by decide +kernel
theorem s_X4_putShut_37 {ca : Nat → List Value → tM → tO} {M : tM} {L : tL} : rn ca C_X4_putShut 37 L [] M = some (none, M) := (rn_at k_X4_putShut_37).trans rfl
theorem k_X4_takeOver_0 : lk 0 C_X4_takeOver = some (.aload_n 0, (0, 0, 0, 0)) := by decide +kernel
theorem s_X4_takeOver_0 {ca : Nat → List Value → tM → tO} {M : tM} {a1 : Option Value} {x : Nat} {S : List Value} : rn ca C_X4_takeOver 0 [some (.ref x), a1] S M = rn ca C_X4_takeOver 1 [some (.ref x), a1] (.ref x :: S) M := (rn_at k_X4_takeOver_0).trans rfl
theorem k_X4_takeOver_1 : lk 1 C_X4_takeOver = some (.aload_n 1, (0, 0, 0, 0)) := by decide +kernel
theorem s_X4_takeOver_1 {ca : Nat → List Value → tM → tO} {M : tM} {a0 : Option Value} {x : Nat} {S : List Value} : rn ca C_X4_takeOver 1 [a0, some (.ref x)] S M = rn ca C_X4_takeOver 2 [a0, some (.ref x)] (.ref x :: S) M := (rn_at k_X4_takeOver_1).trans rfl
theorem k_X4_takeOver_2 : lk 2 C_X4_takeOver = some (.getfield 9, (4, 0, 0, 62)) := by decide +kernel
theorem s_X4_takeOver_2 {ca : Nat → List Value → tM → tO} {M : tM} {L : tL} {b : Nat} {S : List Value} : rn ca C_X4_takeOver 2 L (.ref b :: S) M = if clsO b = some 4 then rn ca C_X4_takeOver 5 L (fv M b 0 :: S) M else none := (rn_at k_X4_takeOver_2).trans rnx_ite
theorem k_X4_takeOver_5 : lk 5 C_X4_takeOver = some (.putfield 9, (4, 0, 0, 62)) := by decide +kernel
theorem s_X4_takeOver_5 {ca : Nat → List Value → tM → tO} {M : tM} {L : tL} {b : Nat} {v : Int32} {S : List Value} : rn ca C_X4_takeOver 5 L (.int v :: .ref b :: S) M = if clsO b = some 4 then rn ca C_X4_takeOver 8 L S (sI M b 0 v) else none := (rn_at k_X4_takeOver_5).trans rnx_ite
theorem k_X4_takeOver_8 : lk 8 C_X4_takeOver = some (.aload_n 0, (0, 0, 0, 0)) := by decide +kernel
theorem s_X4_takeOver_8 {ca : Nat → List Value → tM → tO} {M : tM} {a1 : Option Value} {x : Nat} {S : List Value} : rn ca C_X4_takeOver 8 [some (.ref x), a1] S M = rn ca C_X4_takeOver 9 [some (.ref x), a1] (.ref x :: S) M := (rn_at k_X4_takeOver_8).trans rfl
theorem k_X4_takeOver_9 : lk 9 C_X4_takeOver = some (.aload_n 1, (0, 0, 0, 0)) := by decide +kernel
theorem s_X4_takeOver_9 {ca : Nat → List Value → tM → tO} {M : tM} {a0 : Option Value} {x : Nat} {S : List Value} : rn ca C_X4_takeOver 9 [a0, some (.ref x)] S M = rn ca C_X4_takeOver 10 [a0, some (.ref x)] (.ref x :: S) M := (rn_at k_X4_takeOver_9).trans rfl
theorem k_X4_takeOver_10 : lk 10 C_X4_takeOver = some (.getfield 19, (4, 2, 0, 64)) := by decide +kernel
theorem s_X4_takeOver_10 {ca : Nat → List Value → tM → tO} {M : tM} {L : tL} {b : Nat} {S : List Value} : rn ca C_X4_takeOver 10 L (.ref b :: S) M = if clsO b = some 4 then rn ca C_X4_takeOver 13 L (fv M b 2 :: S) M else none := (rn_at k_X4_takeOver_10).trans rnx_ite
theorem k_X4_takeOver_13 : lk 13 C_X4_takeOver = some (.putfield 19, (4, 2, 0, 64)) := by decide +kernel
theorem s_X4_takeOver_13 {ca : Nat → List Value → tM → tO} {M : tM} {L : tL} {b : Nat} {v : Int32} {S : List Value} : rn ca C_X4_takeOver 13 L (.int v :: .ref b :: S) M = if clsO b = some 4 then rn ca C_X4_takeOver 16 L S (sI M b 2 v) else none := (rn_at k_X4_takeOver_13).trans rnx_ite
theorem k_X4_takeOver_16 : lk 16 C_X4_takeOver = some (.aload_n 0, (0, 0, 0, 0)) := by decide +kernel
theorem s_X4_takeOver_16 {ca : Nat → List Value → tM → tO} {M : tM} {a1 : Option Value} {x : Nat} {S : List Value} : rn ca C_X4_takeOver 16 [some (.ref x), a1] S M = rn ca C_X4_takeOver 17 [some (.ref x), a1] (.ref x :: S) M := (rn_at k_X4_takeOver_16).trans rfl
theorem k_X4_takeOver_17 : lk 17 C_X4_takeOver = some (.aload_n 1, (0, 0, 0, 0)) := by decide +kernel
theorem s_X4_takeOver_17 {ca : Nat → List Value → tM → tO} {M : tM} {a0 : Option Value} {x : Nat} {S : List Value} : rn ca C_X4_takeOver 17 [a0, some (.ref x)] S M = rn ca C_X4_takeOver 18 [a0, some (.ref x)] (.ref x :: S) M := (rn_at k_X4_takeOver_17).trans rfl
theorem k_X4_takeOver_18 : lk 18 C_X4_takeOver = some (.getfield 37, (4, 8, 0, 70)) := by decide +kernel
theorem s_X4_takeOver_18 {ca : Nat → List Value → tM → tO} {M : tM} {L : tL} {b : Nat} {S : List Value} : rn ca C_X4_takeOver 18 L (.ref b :: S) M = if clsO b = some 4 then rn ca C_X4_takeOver 21 L (fv M b 8 :: S) M else none := (rn_at k_X4_takeOver_18).trans rnx_ite
theorem k_X4_takeOver_21 : lk 21 C_X4_takeOver = some (.putfield 37, (4, 8, 0, 70)) := by decide +kernel
theorem s_X4_takeOver_21 {ca : Nat → List Value → tM → tO} {M : tM} {L : tL} {b : Nat} {v : Int32} {S : List Value} : rn ca C_X4_takeOver 21 L (.int v :: .ref b :: S) M = if clsO b = some 4 then rn ca C_X4_takeOver 24 L S (sI M b 8 v) else none := (rn_at k_X4_takeOver_21).trans rnx_ite
theorem k_X4_takeOver_24 : lk 24 C_X4_takeOver = some (.aload_n 0, (0, 0, 0, 0)) := by decide +kernel
theorem s_X4_takeOver_24 {ca : Nat → List Value → tM → tO} {M : tM} {a1 : Option Value} {x : Nat} {S : List Value} : rn ca C_X4_takeOver 24 [some (.ref x), a1] S M = rn ca C_X4_takeOver 25 [some (.ref x), a1] (.ref x :: S) M := (rn_at k_X4_takeOver_24).trans rfl
theorem k_X4_takeOver_25 : lk 25 C_X4_takeOver = some (.aload_n 1, (0, 0, 0, 0)) := by decide +kernel
theorem s_X4_takeOver_25 {ca : Nat → List Value → tM → tO} {M : tM} {a0 : Option Value} {x : Nat} {S : List Value} : rn ca C_X4_takeOver 25 [a0, some (.ref x)] S M = rn ca C_X4_takeOver 26 [a0, some (.ref x)] (.ref x :: S) M := (rn_at k_X4_takeOver_25).trans rfl
theorem k_X4_takeOver_26 : lk 26 C_X4_takeOver = some (.getfield 34, (4, 7, 0, 69)) := by decide +kernel
theorem s_X4_takeOver_26 {ca : Nat → List Value → tM → tO} {M : tM} {L : tL} {b : Nat} {S : List Value} : rn ca C_X4_takeOver 26 L (.ref b :: S) M = if clsO b = some 4 then rn ca C_X4_takeOver 29 L (fv M b 7 :: S) M else none := (rn_at k_X4_takeOver_26).trans rnx_ite
theorem k_X4_takeOver_29 : lk 29 C_X4_takeOver = some (.putfield 34, (4, 7, 0, 69)) := by decide +kernel
theorem s_X4_takeOver_29 {ca : Nat → List Value → tM → tO} {M : tM} {L : tL} {b : Nat} {v : Int32} {S : List Value} : rn ca C_X4_takeOver 29 L (.int v :: .ref b :: S) M = if clsO b = some 4 then rn ca C_X4_takeOver 32 L S (sI M b 7 v) else none := (rn_at k_X4_takeOver_29).trans rnx_ite
theorem k_X4_takeOver_32 : lk 32 C_X4_takeOver = some (.aload_n 0, (0, 0, 0, 0)) := by decide +kernel
theorem s_X4_takeOver_32 {ca : Nat → List Value → tM → tO} {M : tM} {a1 : Option Value} {x : Nat} {S : List Value} : rn ca C_X4_takeOver 32 [some (.ref x), a1] S M = rn ca C_X4_takeOver 33 [some (.ref x), a1] (.ref x :: S) M := (rn_at k_X4_takeOver_32).trans rfl
theorem k_X4_takeOver_33 : lk 33 C_X4_takeOver = some (.aload_n 1, (0, 0, 0, 0)) := by decide +kernel
theorem s_X4_takeOver_33 {ca : Nat → List Value → tM → tO} {M : tM} {a0 : Option Value} {x : Nat} {S : List Value} : rn ca C_X4_takeOver 33 [a0, some (.ref x)] S M = rn ca C_X4_takeOver 34 [a0, some (.ref x)] (.ref x :: S) M := (rn_at k_X4_takeOver_33).trans rfl
theorem k_X4_takeOver_34 : lk 34 C_X4_takeOver = some (.getfield 52, (4, 13, 0, 75)) := by decide +kernel
theorem s_X4_takeOver_34 {ca : Nat → List Value → tM → tO} {M : tM} {L : tL} {b : Nat} {S : List Value} : rn ca C_X4_takeOver 34 L (.ref b :: S) M = if clsO b = some 4 then rn ca C_X4_takeOver 37 L (fv M b 13 :: S) M else none := (rn_at k_X4_takeOver_34).trans rnx_ite
theorem k_X4_takeOver_37 : lk 37 C_X4_takeOver = some (.putfield 52, (4, 13, 0, 75)) := by decide +kernel
theorem s_X4_takeOver_37 {ca : Nat → List Value → tM → tO} {M : tM} {L : tL} {b : Nat} {v : Int32} {S : List Value} : rn ca C_X4_takeOver 37 L (.int v :: .ref b :: S) M = if clsO b = some 4 then rn ca C_X4_takeOver 40 L S (sI M b 13 v) else none := (rn_at k_X4_takeOver_37).trans rnx_ite
theorem k_X4_takeOver_40 : lk 40 C_X4_takeOver = some (.aload_n 0, (0, 0, 0, 0)) := by decide +kernel
theorem s_X4_takeOver_40 {ca : Nat → List Value → tM → tO} {M : tM} {a1 : Option Value} {x : Nat} {S : List Value} : rn ca C_X4_takeOver 40 [some (.ref x), a1] S M = rn ca C_X4_takeOver 41 [some (.ref x), a1] (.ref x :: S) M := (rn_at k_X4_takeOver_40).trans rfl
theorem k_X4_takeOver_41 : lk 41 C_X4_takeOver = some (.aload_n 1, (0, 0, 0, 0)) := by decide +kernel
theorem s_X4_takeOver_41 {ca : Nat → List Value → tM → tO} {M : tM} {a0 : Option Value} {x : Nat} {S : List Value} : rn ca C_X4_takeOver 41 [a0, some (.ref x)] S M = rn ca C_X4_takeOver 42 [a0, some (.ref x)] (.ref x :: S) M := (rn_at k_X4_takeOver_41).trans rfl
theorem k_X4_takeOver_42 : lk 42 C_X4_takeOver = some (.getfield 55, (4, 14, 0, 76)) := by decide +kernel
theorem s_X4_takeOver_42 {ca : Nat → List Value → tM → tO} {M : tM} {L : tL} {b : Nat} {S : List Value} : rn ca C_X4_takeOver 42 L (.ref b :: S) M = if clsO b = some 4 then rn ca C_X4_takeOver 45 L (fv M b 14 :: S) M else none := (rn_at k_X4_takeOver_42).trans rnx_ite
theorem k_X4_takeOver_45 : lk 45 C_X4_takeOver = some (.putfield 55, (4, 14, 0, 76)) := by decide +kernel
theorem s_X4_takeOver_45 {ca : Nat → List Value → tM → tO} {M : tM} {L : tL} {b : Nat} {v : Int32} {S : List Value} : rn ca C_X4_takeOver 45 L (.int v :: .ref b :: S) M = if clsO b = some 4 then rn ca C_X4_takeOver 48 L S (sI M b 14 v) else none := (rn_at k_X4_takeOver_45).trans rnx_ite
theorem k_X4_takeOver_48 : lk 48 C_X4_takeOver = some (.aload_n 0, (0, 0, 0, 0)) := by decide +kernel
theorem s_X4_takeOver_48 {ca : Nat → List Value → tM → tO} {M : tM} {a1 : Option Value} {x : Nat} {S : List Value} : rn ca C_X4_takeOver 48 [some (.ref x), a1] S M = rn ca C_X4_takeOver 49 [some (.ref x), a1] (.ref x :: S) M := (rn_at k_X4_takeOver_48).trans rfl
theorem k_X4_takeOver_49 : lk 49 C_X4_takeOver = some (.aload_n 1, (0, 0, 0, 0)) := by decide +kernel
theorem s_X4_takeOver_49 {ca : Nat → List Value → tM → tO} {M : tM} {a0 : Option Value} {x : Nat} {S : List Value} : rn ca C_X4_takeOver 49 [a0, some (.ref x)] S M = rn ca C_X4_takeOver 50 [a0, some (.ref x)] (.ref x :: S) M := (rn_at k_X4_takeOver_49).trans rfl
theorem k_X4_takeOver_50 : lk 50 C_X4_takeOver = some (.getfield 58, (4, 15, 0, 77)) := by decide +kernel
theorem s_X4_takeOver_50 {ca : Nat → List Value → tM → tO} {M : tM} {L : tL} {b : Nat} {S : List Value} : rn ca C_X4_takeOver 50 L (.ref b :: S) M = if clsO b = some 4 then rn ca C_X4_takeOver 53 L (fv M b 15 :: S) M else none := (rn_at k_X4_takeOver_50).trans rnx_ite
theorem k_X4_takeOver_53 : lk 53 C_X4_takeOver = some (.putfield 58, (4, 15, 0, 77)) := by decide +kernel
theorem s_X4_takeOver_53 {ca : Nat → List Value → tM → tO} {M : tM} {L : tL} {b : Nat} {v : Int32} {S : List Value} : rn ca C_X4_takeOver 53 L (.int v :: .ref b :: S) M = if clsO b = some 4 then rn ca C_X4_takeOver 56 L S (sI M b 15 v) else none := (rn_at k_X4_takeOver_53).trans rnx_ite
theorem k_X4_takeOver_56 : lk 56 C_X4_takeOver = some (.aload_n 1, (0, 0, 0, 0)) := by decide +kernel
theorem s_X4_takeOver_56 {ca : Nat → List Value → tM → tO} {M : tM} {a0 : Option Value} {x : Nat} {S : List Value} : rn ca C_X4_takeOver 56 [a0, some (.ref x)] S M = rn ca C_X4_takeOver 57 [a0, some (.ref x)] (.ref x :: S) M := (rn_at k_X4_takeOver_56).trans rfl
theorem k_X4_takeOver_57 : lk 57 C_X4_takeOver = some (.getfield 15, (4, 1, 0, 63)) := by decide +kernel
theorem s_X4_takeOver_57 {ca : Nat → List Value → tM → tO} {M : tM} {L : tL} {b : Nat} {S : List Value} : rn ca C_X4_takeOver 57 L (.ref b :: S) M = if clsO b = some 4 then rn ca C_X4_takeOver 60 L (fv M b 1 :: S) M else none := (rn_at k_X4_takeOver_57).trans rnx_ite
theorem k_X4_takeOver_60 : lk 60 C_X4_takeOver = some (.iconst 0, (0, 0, 0, 0)) := by decide +kernel
theorem s_X4_takeOver_60 {ca : Nat → List Value → tM → tO} {M : tM} {L : tL} {S : List Value} : rn ca C_X4_takeOver 60 L S M = rn ca C_X4_takeOver 61 L (.int (iI 0) :: S) M := (rn_at k_X4_takeOver_60).trans rfl
theorem k_X4_takeOver_61 : lk 61 C_X4_takeOver = some (.aload_n 0, (0, 0, 0, 0)) := by decide +kernel
theorem s_X4_takeOver_61 {ca : Nat → List Value → tM → tO} {M : tM} {a1 : Option Value} {x : Nat} {S : List Value} : rn ca C_X4_takeOver 61 [some (.ref x), a1] S M = rn ca C_X4_takeOver 62 [some (.ref x), a1] (.ref x :: S) M := (rn_at k_X4_takeOver_61).trans rfl
theorem k_X4_takeOver_62 : lk 62 C_X4_takeOver = some (.getfield 15, (4, 1, 0, 63)) := by decide +kernel
theorem s_X4_takeOver_62 {ca : Nat → List Value → tM → tO} {M : tM} {L : tL} {b : Nat} {S : List Value} : rn ca C_X4_takeOver 62 L (.ref b :: S) M = if clsO b = some 4 then rn ca C_X4_takeOver 65 L (fv M b 1 :: S) M else none := (rn_at k_X4_takeOver_62).trans rnx_ite
theorem k_X4_takeOver_65 : lk 65 C_X4_takeOver = some (.iconst 0, (0, 0, 0, 0)) := by decide +kernel
theorem s_X4_takeOver_65 {ca : Nat → List Value → tM → tO} {M : tM} {L : tL} {S : List Value} : rn ca C_X4_takeOver 65 L S M = rn ca C_X4_takeOver 66 L (.int (iI 0) :: S) M := (rn_at k_X4_takeOver_65).trans rfl
theorem k_X4_takeOver_66 : lk 66 C_X4_takeOver = some (.bipush 8, (0, 0, 0, 0)) := by decide +kernel
theorem s_X4_takeOver_66 {ca : Nat → List Value → tM → tO} {M : tM} {L : tL} {S : List Value} : rn ca C_X4_takeOver 66 L S M = rn ca C_X4_takeOver 68 L (.int (iI 8) :: S) M := (rn_at k_X4_takeOver_66).trans rfl
theorem k_X4_takeOver_68 : lk 68 C_X4_takeOver = some (.invokestatic 79, (0, 0, 1, 485)) := by decide +kernel
theorem s_X4_takeOver_68 {ca : Nat → List Value → tM → tO} {M : tM} {L : tL} {s d : Nat} {sp dp n : Int32} : rn ca C_X4_takeOver 68 L [.int n, .int dp, .ref d, .int sp, .ref s] M = if akind s = 0 ∧ akind d = 0 ∧ 0 ≤ sp.toInt ∧ 0 ≤ dp.toInt ∧ 0 ≤ n.toInt ∧ sp.toInt + n.toInt ≤ (alen M s : Int) ∧ dp.toInt + n.toInt ≤ (alen M d : Int) then rn ca C_X4_takeOver 71 L [] (rI M d (cpy (M.1 s) (M.1 d) sp.toInt.toNat dp.toInt.toNat n.toInt.toNat)) else if akind s = 2 ∧ akind d = 2 ∧ 0 ≤ sp.toInt ∧ 0 ≤ dp.toInt ∧ 0 ≤ n.toInt ∧ sp.toInt + n.toInt ≤ (alen M s : Int) ∧ dp.toInt + n.toInt ≤ (alen M d : Int) then rn ca C_X4_takeOver 71 L [] (rJ M d (cpy (M.2 s) (M.2 d) sp.toInt.toNat dp.toInt.toNat n.toInt.toNat)) else none := by rw [rn_at k_X4_takeOver_68]; simp only [ta, rnx_ite]; rfl
theorem k_X4_takeOver_71 : lk 71 C_X4_takeOver = some (.aload_n 1, (0, 0, 0, 0)) := by decide +kernel
theorem s_X4_takeOver_71 {ca : Nat → List Value → tM → tO} {M : tM} {a0 : Option Value} {x : Nat} {S : List Value} : rn ca C_X4_takeOver 71 [a0, some (.ref x)] S M = rn ca C_X4_takeOver 72 [a0, some (.ref x)] (.ref x :: S) M := (rn_at k_X4_takeOver_71).trans rfl
theorem k_X4_takeOver_72 : lk 72 C_X4_takeOver = some (.getfield 22, (4, 3, 0, 65)) := by decide +kernel
theorem s_X4_takeOver_72 {ca : Nat → List Value → tM → tO} {M : tM} {L : tL} {b : Nat} {S : List Value} : rn ca C_X4_takeOver 72 L (.ref b :: S) M = if clsO b = some 4 then rn ca C_X4_takeOver 75 L (fv M b 3 :: S) M else none := (rn_at k_X4_takeOver_72).trans rnx_ite
theorem k_X4_takeOver_75 : lk 75 C_X4_takeOver = some (.iconst 0, (0, 0, 0, 0)) := by decide +kernel
theorem s_X4_takeOver_75 {ca : Nat → List Value → tM → tO} {M : tM} {L : tL} {S : List Value} : rn ca C_X4_takeOver 75 L S M = rn ca C_X4_takeOver 76 L (.int (iI 0) :: S) M := (rn_at k_X4_takeOver_75).trans rfl
theorem k_X4_takeOver_76 : lk 76 C_X4_takeOver = some (.aload_n 0, (0, 0, 0, 0)) := by decide +kernel
theorem s_X4_takeOver_76 {ca : Nat → List Value → tM → tO} {M : tM} {a1 : Option Value} {x : Nat} {S : List Value} : rn ca C_X4_takeOver 76 [some (.ref x), a1] S M = rn ca C_X4_takeOver 77 [some (.ref x), a1] (.ref x :: S) M := (rn_at k_X4_takeOver_76).trans rfl
theorem k_X4_takeOver_77 : lk 77 C_X4_takeOver = some (.getfield 22, (4, 3, 0, 65)) := by decide +kernel
theorem s_X4_takeOver_77 {ca : Nat → List Value → tM → tO} {M : tM} {L : tL} {b : Nat} {S : List Value} : rn ca C_X4_takeOver 77 L (.ref b :: S) M = if clsO b = some 4 then rn ca C_X4_takeOver 80 L (fv M b 3 :: S) M else none := (rn_at k_X4_takeOver_77).trans rnx_ite
theorem k_X4_takeOver_80 : lk 80 C_X4_takeOver = some (.iconst 0, (0, 0, 0, 0)) := by decide +kernel
theorem s_X4_takeOver_80 {ca : Nat → List Value → tM → tO} {M : tM} {L : tL} {S : List Value} : rn ca C_X4_takeOver 80 L S M = rn ca C_X4_takeOver 81 L (.int (iI 0) :: S) M := (rn_at k_X4_takeOver_80).trans rfl
theorem k_X4_takeOver_81 : lk 81 C_X4_takeOver = some (.bipush 16, (0, 0, 0, 0)) := by decide +kernel
theorem s_X4_takeOver_81 {ca : Nat → List Value → tM → tO} {M : tM} {L : tL} {S : List Value} : rn ca C_X4_takeOver 81 L S M = rn ca C_X4_takeOver 83 L (.int (iI 16) :: S) M := (rn_at k_X4_takeOver_81).trans rfl
theorem k_X4_takeOver_83 : lk 83 C_X4_takeOver = some (.invokestatic 79, (0, 0, 1, 485)) := by decide +kernel
theorem s_X4_takeOver_83 {ca : Nat → List Value → tM → tO} {M : tM} {L : tL} {s d : Nat} {sp dp n : Int32} : rn ca C_X4_takeOver 83 L [.int n, .int dp, .ref d, .int sp, .ref s] M = if akind s = 0 ∧ akind d = 0 ∧ 0 ≤ sp.toInt ∧ 0 ≤ dp.toInt ∧ 0 ≤ n.toInt ∧ sp.toInt + n.toInt ≤ (alen M s : Int) ∧ dp.toInt + n.toInt ≤ (alen M d : Int) then rn ca C_X4_takeOver 86 L [] (rI M d (cpy (M.1 s) (M.1 d) sp.toInt.toNat dp.toInt.toNat n.toInt.toNat)) else if akind s = 2 ∧ akind d = 2 ∧ 0 ≤ sp.toInt ∧ 0 ≤ dp.toInt ∧ 0 ≤ n.toInt ∧ sp.toInt + n.toInt ≤ (alen M s : Int) ∧ dp.toInt + n.toInt ≤ (alen M d : Int) then rn ca C_X4_takeOver 86 L [] (rJ M d (cpy (M.2 s) (M.2 d) sp.toInt.toNat dp.toInt.toNat n.toInt.toNat)) else none := by rw [rn_at k_X4_takeOver_83]; simp only [ta, rnx_ite]; rfl
theorem k_X4_takeOver_86 : lk 86 C_X4_takeOver = some (.aload_n 1, (0, 0, 0, 0)) := by decide +kernel
theorem s_X4_takeOver_86 {ca : Nat → List Value → tM → tO} {M : tM} {a0 : Option Value} {x : Nat} {S : List Value} : rn ca C_X4_takeOver 86 [a0, some (.ref x)] S M = rn ca C_X4_takeOver 87 [a0, some (.ref x)] (.ref x :: S) M := (rn_at k_X4_takeOver_86).trans rfl
theorem k_X4_takeOver_87 : lk 87 C_X4_takeOver = some (.getfield 25, (4, 4, 0, 66)) := by decide +kernel
theorem s_X4_takeOver_87 {ca : Nat → List Value → tM → tO} {M : tM} {L : tL} {b : Nat} {S : List Value} : rn ca C_X4_takeOver 87 L (.ref b :: S) M = if clsO b = some 4 then rn ca C_X4_takeOver 90 L (fv M b 4 :: S) M else none := (rn_at k_X4_takeOver_87).trans rnx_ite
theorem k_X4_takeOver_90 : lk 90 C_X4_takeOver = some (.iconst 0, (0, 0, 0, 0)) := by decide +kernel
theorem s_X4_takeOver_90 {ca : Nat → List Value → tM → tO} {M : tM} {L : tL} {S : List Value} : rn ca C_X4_takeOver 90 L S M = rn ca C_X4_takeOver 91 L (.int (iI 0) :: S) M := (rn_at k_X4_takeOver_90).trans rfl
theorem k_X4_takeOver_91 : lk 91 C_X4_takeOver = some (.aload_n 0, (0, 0, 0, 0)) := by decide +kernel
theorem s_X4_takeOver_91 {ca : Nat → List Value → tM → tO} {M : tM} {a1 : Option Value} {x : Nat} {S : List Value} : rn ca C_X4_takeOver 91 [some (.ref x), a1] S M = rn ca C_X4_takeOver 92 [some (.ref x), a1] (.ref x :: S) M := (rn_at k_X4_takeOver_91).trans rfl
theorem k_X4_takeOver_92 : lk 92 C_X4_takeOver = some (.getfield 25, (4, 4, 0, 66)) := by decide +kernel
theorem s_X4_takeOver_92 {ca : Nat → List Value → tM → tO} {M : tM} {L : tL} {b : Nat} {S : List Value} : rn ca C_X4_takeOver 92 L (.ref b :: S) M = if clsO b = some 4 then rn ca C_X4_takeOver 95 L (fv M b 4 :: S) M else none := (rn_at k_X4_takeOver_92).trans rnx_ite
theorem k_X4_takeOver_95 : lk 95 C_X4_takeOver = some (.iconst 0, (0, 0, 0, 0)) := by decide +kernel
theorem s_X4_takeOver_95 {ca : Nat → List Value → tM → tO} {M : tM} {L : tL} {S : List Value} : rn ca C_X4_takeOver 95 L S M = rn ca C_X4_takeOver 96 L (.int (iI 0) :: S) M := (rn_at k_X4_takeOver_95).trans rfl
theorem k_X4_takeOver_96 : lk 96 C_X4_takeOver = some (.bipush 16, (0, 0, 0, 0)) := by decide +kernel
theorem s_X4_takeOver_96 {ca : Nat → List Value → tM → tO} {M : tM} {L : tL} {S : List Value} : rn ca C_X4_takeOver 96 L S M = rn ca C_X4_takeOver 98 L (.int (iI 16) :: S) M := (rn_at k_X4_takeOver_96).trans rfl
theorem k_X4_takeOver_98 : lk 98 C_X4_takeOver = some (.invokestatic 79, (0, 0, 1, 485)) := by decide +kernel
theorem s_X4_takeOver_98 {ca : Nat → List Value → tM → tO} {M : tM} {L : tL} {s d : Nat} {sp dp n : Int32} : rn ca C_X4_takeOver 98 L [.int n, .int dp, .ref d, .int sp, .ref s] M = if akind s = 0 ∧ akind d = 0 ∧ 0 ≤ sp.toInt ∧ 0 ≤ dp.toInt ∧ 0 ≤ n.toInt ∧ sp.toInt + n.toInt ≤ (alen M s : Int) ∧ dp.toInt + n.toInt ≤ (alen M d : Int) then rn ca C_X4_takeOver 101 L [] (rI M d (cpy (M.1 s) (M.1 d) sp.toInt.toNat dp.toInt.toNat n.toInt.toNat)) else if akind s = 2 ∧ akind d = 2 ∧ 0 ≤ sp.toInt ∧ 0 ≤ dp.toInt ∧ 0 ≤ n.toInt ∧ sp.toInt + n.toInt ≤ (alen M s : Int) ∧ dp.toInt + n.toInt ≤ (alen M d : Int) then rn ca C_X4_takeOver 101 L [] (rJ M d (cpy (M.2 s) (M.2 d) sp.toInt.toNat dp.toInt.toNat n.toInt.toNat)) else none := by rw [rn_at k_X4_takeOver_98]; simp only [ta, rnx_ite]; rfl
theorem k_X4_takeOver_101 : lk 101 C_X4_takeOver = some (.aload_n 1, (0, 0, 0, 0)) := by decide +kernel
theorem s_X4_takeOver_101 {ca : Nat → List Value → tM → tO} {M : tM} {a0 : Option Value} {x : Nat} {S : List Value} : rn ca C_X4_takeOver 101 [a0, some (.ref x)] S M = rn ca C_X4_takeOver 102 [a0, some (.ref x)] (.ref x :: S) M := (rn_at k_X4_takeOver_101).trans rfl
theorem k_X4_takeOver_102 : lk 102 C_X4_takeOver = some (.getfield 28, (4, 5, 0, 67)) := by decide +kernel
theorem s_X4_takeOver_102 {ca : Nat → List Value → tM → tO} {M : tM} {L : tL} {b : Nat} {S : List Value} : rn ca C_X4_takeOver 102 L (.ref b :: S) M = if clsO b = some 4 then rn ca C_X4_takeOver 105 L (fv M b 5 :: S) M else none := (rn_at k_X4_takeOver_102).trans rnx_ite
theorem k_X4_takeOver_105 : lk 105 C_X4_takeOver = some (.iconst 0, (0, 0, 0, 0)) := by decide +kernel
theorem s_X4_takeOver_105 {ca : Nat → List Value → tM → tO} {M : tM} {L : tL} {S : List Value} : rn ca C_X4_takeOver 105 L S M = rn ca C_X4_takeOver 106 L (.int (iI 0) :: S) M := (rn_at k_X4_takeOver_105).trans rfl
theorem k_X4_takeOver_106 : lk 106 C_X4_takeOver = some (.aload_n 0, (0, 0, 0, 0)) := by decide +kernel
theorem s_X4_takeOver_106 {ca : Nat → List Value → tM → tO} {M : tM} {a1 : Option Value} {x : Nat} {S : List Value} : rn ca C_X4_takeOver 106 [some (.ref x), a1] S M = rn ca C_X4_takeOver 107 [some (.ref x), a1] (.ref x :: S) M := (rn_at k_X4_takeOver_106).trans rfl
theorem k_X4_takeOver_107 : lk 107 C_X4_takeOver = some (.getfield 28, (4, 5, 0, 67)) := by decide +kernel
theorem s_X4_takeOver_107 {ca : Nat → List Value → tM → tO} {M : tM} {L : tL} {b : Nat} {S : List Value} : rn ca C_X4_takeOver 107 L (.ref b :: S) M = if clsO b = some 4 then rn ca C_X4_takeOver 110 L (fv M b 5 :: S) M else none := (rn_at k_X4_takeOver_107).trans rnx_ite
theorem k_X4_takeOver_110 : lk 110 C_X4_takeOver = some (.iconst 0, (0, 0, 0, 0)) := by decide +kernel
theorem s_X4_takeOver_110 {ca : Nat → List Value → tM → tO} {M : tM} {L : tL} {S : List Value} : rn ca C_X4_takeOver 110 L S M = rn ca C_X4_takeOver 111 L (.int (iI 0) :: S) M := (rn_at k_X4_takeOver_110).trans rfl
theorem k_X4_takeOver_111 : lk 111 C_X4_takeOver = some (.bipush 16, (0, 0, 0, 0)) := by decide +kernel
theorem s_X4_takeOver_111 {ca : Nat → List Value → tM → tO} {M : tM} {L : tL} {S : List Value} : rn ca C_X4_takeOver 111 L S M = rn ca C_X4_takeOver 113 L (.int (iI 16) :: S) M := (rn_at k_X4_takeOver_111).trans rfl
theorem k_X4_takeOver_113 : lk 113 C_X4_takeOver = some (.invokestatic 79, (0, 0, 1, 485)) := by decide +kernel
theorem s_X4_takeOver_113 {ca : Nat → List Value → tM → tO} {M : tM} {L : tL} {s d : Nat} {sp dp n : Int32} : rn ca C_X4_takeOver 113 L [.int n, .int dp, .ref d, .int sp, .ref s] M = if akind s = 0 ∧ akind d = 0 ∧ 0 ≤ sp.toInt ∧ 0 ≤ dp.toInt ∧ 0 ≤ n.toInt ∧ sp.toInt + n.toInt ≤ (alen M s : Int) ∧ dp.toInt + n.toInt ≤ (alen M d : Int) then rn ca C_X4_takeOver 116 L [] (rI M d (cpy (M.1 s) (M.1 d) sp.toInt.toNat dp.toInt.toNat n.toInt.toNat)) else if akind s = 2 ∧ akind d = 2 ∧ 0 ≤ sp.toInt ∧ 0 ≤ dp.toInt ∧ 0 ≤ n.toInt ∧ sp.toInt + n.toInt ≤ (alen M s : Int) ∧ dp.toInt + n.toInt ≤ (alen M d : Int) then rn ca C_X4_takeOver 116 L [] (rJ M d (cpy (M.2 s) (M.2 d) sp.toInt.toNat dp.toInt.toNat n.toInt.toNat)) else none := by rw [rn_at k_X4_takeOver_113]; simp only [ta, rnx_ite]; rfl
theorem k_X4_takeOver_116 : lk 116 C_X4_takeOver = some (.aload_n 1, (0, 0, 0, 0)) := by decide +kernel
theorem s_X4_takeOver_116 {ca : Nat → List Value → tM → tO} {M : tM} {a0 : Option Value} {x : Nat} {S : List Value} : rn ca C_X4_takeOver 116 [a0, some (.ref x)] S M = rn ca C_X4_takeOver 117 [a0, some (.ref x)] (.ref x :: S) M := (rn_at k_X4_takeOver_116).trans rfl
theorem k_X4_takeOver_117 : lk 117 C_X4_takeOver = some (.getfield 31, (4, 6, 0, 68)) := by decide +kernel
theorem s_X4_takeOver_117 {ca : Nat → List Value → tM → tO} {M : tM} {L : tL} {b : Nat} {S : List Value} : rn ca C_X4_takeOver 117 L (.ref b :: S) M = if clsO b = some 4 then rn ca C_X4_takeOver 120 L (fv M b 6 :: S) M else none := (rn_at k_X4_takeOver_117).trans rnx_ite
theorem k_X4_takeOver_120 : lk 120 C_X4_takeOver = some (.iconst 0, (0, 0, 0, 0)) := by decide +kernel
theorem s_X4_takeOver_120 {ca : Nat → List Value → tM → tO} {M : tM} {L : tL} {S : List Value} : rn ca C_X4_takeOver 120 L S M = rn ca C_X4_takeOver 121 L (.int (iI 0) :: S) M := (rn_at k_X4_takeOver_120).trans rfl
theorem k_X4_takeOver_121 : lk 121 C_X4_takeOver = some (.aload_n 0, (0, 0, 0, 0)) := by decide +kernel
theorem s_X4_takeOver_121 {ca : Nat → List Value → tM → tO} {M : tM} {a1 : Option Value} {x : Nat} {S : List Value} : rn ca C_X4_takeOver 121 [some (.ref x), a1] S M = rn ca C_X4_takeOver 122 [some (.ref x), a1] (.ref x :: S) M := (rn_at k_X4_takeOver_121).trans rfl
theorem k_X4_takeOver_122 : lk 122 C_X4_takeOver = some (.getfield 31, (4, 6, 0, 68)) := by decide +kernel
theorem s_X4_takeOver_122 {ca : Nat → List Value → tM → tO} {M : tM} {L : tL} {b : Nat} {S : List Value} : rn ca C_X4_takeOver 122 L (.ref b :: S) M = if clsO b = some 4 then rn ca C_X4_takeOver 125 L (fv M b 6 :: S) M else none := (rn_at k_X4_takeOver_122).trans rnx_ite
theorem k_X4_takeOver_125 : lk 125 C_X4_takeOver = some (.iconst 0, (0, 0, 0, 0)) := by decide +kernel
theorem s_X4_takeOver_125 {ca : Nat → List Value → tM → tO} {M : tM} {L : tL} {S : List Value} : rn ca C_X4_takeOver 125 L S M = rn ca C_X4_takeOver 126 L (.int (iI 0) :: S) M := (rn_at k_X4_takeOver_125).trans rfl
theorem k_X4_takeOver_126 : lk 126 C_X4_takeOver = some (.bipush 16, (0, 0, 0, 0)) := by decide +kernel
theorem s_X4_takeOver_126 {ca : Nat → List Value → tM → tO} {M : tM} {L : tL} {S : List Value} : rn ca C_X4_takeOver 126 L S M = rn ca C_X4_takeOver 128 L (.int (iI 16) :: S) M := (rn_at k_X4_takeOver_126).trans rfl
theorem k_X4_takeOver_128 : lk 128 C_X4_takeOver = some (.invokestatic 79, (0, 0, 1, 485)) := by decide +kernel
theorem s_X4_takeOver_128 {ca : Nat → List Value → tM → tO} {M : tM} {L : tL} {s d : Nat} {sp dp n : Int32} : rn ca C_X4_takeOver 128 L [.int n, .int dp, .ref d, .int sp, .ref s] M = if akind s = 0 ∧ akind d = 0 ∧ 0 ≤ sp.toInt ∧ 0 ≤ dp.toInt ∧ 0 ≤ n.toInt ∧ sp.toInt + n.toInt ≤ (alen M s : Int) ∧ dp.toInt + n.toInt ≤ (alen M d : Int) then rn ca C_X4_takeOver 131 L [] (rI M d (cpy (M.1 s) (M.1 d) sp.toInt.toNat dp.toInt.toNat n.toInt.toNat)) else if akind s = 2 ∧ akind d = 2 ∧ 0 ≤ sp.toInt ∧ 0 ≤ dp.toInt ∧ 0 ≤ n.toInt ∧ sp.toInt + n.toInt ≤ (alen M s : Int) ∧ dp.toInt + n.toInt ≤ (alen M d : Int) then rn ca C_X4_takeOver 131 L [] (rJ M d (cpy (M.2 s) (M.2 d) sp.toInt.toNat dp.toInt.toNat n.toInt.toNat)) else none := by rw [rn_at k_X4_takeOver_128]; simp only [ta, rnx_ite]; rfl
theorem k_X4_takeOver_131 : lk 131 C_X4_takeOver = some (.aload_n 1, (0, 0, 0, 0)) := by decide +kernel
theorem s_X4_takeOver_131 {ca : Nat → List Value → tM → tO} {M : tM} {a0 : Option Value} {x : Nat} {S : List Value} : rn ca C_X4_takeOver 131 [a0, some (.ref x)] S M = rn ca C_X4_takeOver 132 [a0, some (.ref x)] (.ref x :: S) M := (rn_at k_X4_takeOver_131).trans rfl
theorem k_X4_takeOver_132 : lk 132 C_X4_takeOver = some (.getfield 40, (4, 9, 0, 71)) := by decide +kernel
theorem s_X4_takeOver_132 {ca : Nat → List Value → tM → tO} {M : tM} {L : tL} {b : Nat} {S : List Value} : rn ca C_X4_takeOver 132 L (.ref b :: S) M = if clsO b = some 4 then rn ca C_X4_takeOver 135 L (fv M b 9 :: S) M else none := (rn_at k_X4_takeOver_132).trans rnx_ite
theorem k_X4_takeOver_135 : lk 135 C_X4_takeOver = some (.iconst 0, (0, 0, 0, 0)) := by decide +kernel
theorem s_X4_takeOver_135 {ca : Nat → List Value → tM → tO} {M : tM} {L : tL} {S : List Value} : rn ca C_X4_takeOver 135 L S M = rn ca C_X4_takeOver 136 L (.int (iI 0) :: S) M := (rn_at k_X4_takeOver_135).trans rfl
theorem k_X4_takeOver_136 : lk 136 C_X4_takeOver = some (.aload_n 0, (0, 0, 0, 0)) := by decide +kernel
theorem s_X4_takeOver_136 {ca : Nat → List Value → tM → tO} {M : tM} {a1 : Option Value} {x : Nat} {S : List Value} : rn ca C_X4_takeOver 136 [some (.ref x), a1] S M = rn ca C_X4_takeOver 137 [some (.ref x), a1] (.ref x :: S) M := (rn_at k_X4_takeOver_136).trans rfl
theorem k_X4_takeOver_137 : lk 137 C_X4_takeOver = some (.getfield 40, (4, 9, 0, 71)) := by decide +kernel
theorem s_X4_takeOver_137 {ca : Nat → List Value → tM → tO} {M : tM} {L : tL} {b : Nat} {S : List Value} : rn ca C_X4_takeOver 137 L (.ref b :: S) M = if clsO b = some 4 then rn ca C_X4_takeOver 140 L (fv M b 9 :: S) M else none := (rn_at k_X4_takeOver_137).trans rnx_ite
theorem k_X4_takeOver_140 : lk 140 C_X4_takeOver = some (.iconst 0, (0, 0, 0, 0)) := by decide +kernel
theorem s_X4_takeOver_140 {ca : Nat → List Value → tM → tO} {M : tM} {L : tL} {S : List Value} : rn ca C_X4_takeOver 140 L S M = rn ca C_X4_takeOver 141 L (.int (iI 0) :: S) M := (rn_at k_X4_takeOver_140).trans rfl
theorem k_X4_takeOver_141 : lk 141 C_X4_takeOver = some (.iconst 5, (0, 0, 0, 0)) := by decide +kernel
theorem s_X4_takeOver_141 {ca : Nat → List Value → tM → tO} {M : tM} {L : tL} {S : List Value} : rn ca C_X4_takeOver 141 L S M = rn ca C_X4_takeOver 142 L (.int (iI 5) :: S) M := (rn_at k_X4_takeOver_141).trans rfl
theorem k_X4_takeOver_142 : lk 142 C_X4_takeOver = some (.invokestatic 79, (0, 0, 1, 485)) := by decide +kernel
theorem s_X4_takeOver_142 {ca : Nat → List Value → tM → tO} {M : tM} {L : tL} {s d : Nat} {sp dp n : Int32} : rn ca C_X4_takeOver 142 L [.int n, .int dp, .ref d, .int sp, .ref s] M = if akind s = 0 ∧ akind d = 0 ∧ 0 ≤ sp.toInt ∧ 0 ≤ dp.toInt ∧ 0 ≤ n.toInt ∧ sp.toInt + n.toInt ≤ (alen M s : Int) ∧ dp.toInt + n.toInt ≤ (alen M d : Int) then rn ca C_X4_takeOver 145 L [] (rI M d (cpy (M.1 s) (M.1 d) sp.toInt.toNat dp.toInt.toNat n.toInt.toNat)) else if akind s = 2 ∧ akind d = 2 ∧ 0 ≤ sp.toInt ∧ 0 ≤ dp.toInt ∧ 0 ≤ n.toInt ∧ sp.toInt + n.toInt ≤ (alen M s : Int) ∧ dp.toInt + n.toInt ≤ (alen M d : Int) then rn ca C_X4_takeOver 145 L [] (rJ M d (cpy (M.2 s) (M.2 d) sp.toInt.toNat dp.toInt.toNat n.toInt.toNat)) else none := by rw [rn_at k_X4_takeOver_142]; simp only [ta, rnx_ite]; rfl
theorem k_X4_takeOver_145 : lk 145 C_X4_takeOver = some (.aload_n 1, (0, 0, 0, 0)) := by decide +kernel
theorem s_X4_takeOver_145 {ca : Nat → List Value → tM → tO} {M : tM} {a0 : Option Value} {x : Nat} {S : List Value} : rn ca C_X4_takeOver 145 [a0, some (.ref x)] S M = rn ca C_X4_takeOver 146 [a0, some (.ref x)] (.ref x :: S) M := (rn_at k_X4_takeOver_145).trans rfl
theorem k_X4_takeOver_146 : lk 146 C_X4_takeOver = some (.getfield 43, (4, 10, 0, 72)) := by decide +kernel
theorem s_X4_takeOver_146 {ca : Nat → List Value → tM → tO} {M : tM} {L : tL} {b : Nat} {S : List Value} : rn ca C_X4_takeOver 146 L (.ref b :: S) M = if clsO b = some 4 then rn ca C_X4_takeOver 149 L (fv M b 10 :: S) M else none := (rn_at k_X4_takeOver_146).trans rnx_ite
theorem k_X4_takeOver_149 : lk 149 C_X4_takeOver = some (.iconst 0, (0, 0, 0, 0)) := by decide +kernel
theorem s_X4_takeOver_149 {ca : Nat → List Value → tM → tO} {M : tM} {L : tL} {S : List Value} : rn ca C_X4_takeOver 149 L S M = rn ca C_X4_takeOver 150 L (.int (iI 0) :: S) M := (rn_at k_X4_takeOver_149).trans rfl
theorem k_X4_takeOver_150 : lk 150 C_X4_takeOver = some (.aload_n 0, (0, 0, 0, 0)) := by decide +kernel
theorem s_X4_takeOver_150 {ca : Nat → List Value → tM → tO} {M : tM} {a1 : Option Value} {x : Nat} {S : List Value} : rn ca C_X4_takeOver 150 [some (.ref x), a1] S M = rn ca C_X4_takeOver 151 [some (.ref x), a1] (.ref x :: S) M := (rn_at k_X4_takeOver_150).trans rfl
theorem k_X4_takeOver_151 : lk 151 C_X4_takeOver = some (.getfield 43, (4, 10, 0, 72)) := by decide +kernel
theorem s_X4_takeOver_151 {ca : Nat → List Value → tM → tO} {M : tM} {L : tL} {b : Nat} {S : List Value} : rn ca C_X4_takeOver 151 L (.ref b :: S) M = if clsO b = some 4 then rn ca C_X4_takeOver 154 L (fv M b 10 :: S) M else none := (rn_at k_X4_takeOver_151).trans rnx_ite
theorem k_X4_takeOver_154 : lk 154 C_X4_takeOver = some (.iconst 0, (0, 0, 0, 0)) := by decide +kernel
theorem s_X4_takeOver_154 {ca : Nat → List Value → tM → tO} {M : tM} {L : tL} {S : List Value} : rn ca C_X4_takeOver 154 L S M = rn ca C_X4_takeOver 155 L (.int (iI 0) :: S) M := (rn_at k_X4_takeOver_154).trans rfl
theorem k_X4_takeOver_155 : lk 155 C_X4_takeOver = some (.iconst 5, (0, 0, 0, 0)) := by decide +kernel
theorem s_X4_takeOver_155 {ca : Nat → List Value → tM → tO} {M : tM} {L : tL} {S : List Value} : rn ca C_X4_takeOver 155 L S M = rn ca C_X4_takeOver 156 L (.int (iI 5) :: S) M := (rn_at k_X4_takeOver_155).trans rfl
theorem k_X4_takeOver_156 : lk 156 C_X4_takeOver = some (.invokestatic 79, (0, 0, 1, 485)) := by decide +kernel
theorem s_X4_takeOver_156 {ca : Nat → List Value → tM → tO} {M : tM} {L : tL} {s d : Nat} {sp dp n : Int32} : rn ca C_X4_takeOver 156 L [.int n, .int dp, .ref d, .int sp, .ref s] M = if akind s = 0 ∧ akind d = 0 ∧ 0 ≤ sp.toInt ∧ 0 ≤ dp.toInt ∧ 0 ≤ n.toInt ∧ sp.toInt + n.toInt ≤ (alen M s : Int) ∧ dp.toInt + n.toInt ≤ (alen M d : Int) then rn ca C_X4_takeOver 159 L [] (rI M d (cpy (M.1 s) (M.1 d) sp.toInt.toNat dp.toInt.toNat n.toInt.toNat)) else if akind s = 2 ∧ akind d = 2 ∧ 0 ≤ sp.toInt ∧ 0 ≤ dp.toInt ∧ 0 ≤ n.toInt ∧ sp.toInt + n.toInt ≤ (alen M s : Int) ∧ dp.toInt + n.toInt ≤ (alen M d : Int) then rn ca C_X4_takeOver 159 L [] (rJ M d (cpy (M.2 s) (M.2 d) sp.toInt.toNat dp.toInt.toNat n.toInt.toNat)) else none := by rw [rn_at k_X4_takeOver_156]; simp only [ta, rnx_ite]; rfl
theorem k_X4_takeOver_159 : lk 159 C_X4_takeOver = some (.aload_n 1, (0, 0, 0, 0)) := by decide +kernel
theorem s_X4_takeOver_159 {ca : Nat → List Value → tM → tO} {M : tM} {a0 : Option Value} {x : Nat} {S : List Value} : rn ca C_X4_takeOver 159 [a0, some (.ref x)] S M = rn ca C_X4_takeOver 160 [a0, some (.ref x)] (.ref x :: S) M := (rn_at k_X4_takeOver_159).trans rfl
theorem k_X4_takeOver_160 : lk 160 C_X4_takeOver = some (.getfield 46, (4, 11, 0, 73)) := by decide +kernel
theorem s_X4_takeOver_160 {ca : Nat → List Value → tM → tO} {M : tM} {L : tL} {b : Nat} {S : List Value} : rn ca C_X4_takeOver 160 L (.ref b :: S) M = if clsO b = some 4 then rn ca C_X4_takeOver 163 L (fv M b 11 :: S) M else none := (rn_at k_X4_takeOver_160).trans rnx_ite
theorem k_X4_takeOver_163 : lk 163 C_X4_takeOver = some (.iconst 0, (0, 0, 0, 0)) := by decide +kernel
theorem s_X4_takeOver_163 {ca : Nat → List Value → tM → tO} {M : tM} {L : tL} {S : List Value} : rn ca C_X4_takeOver 163 L S M = rn ca C_X4_takeOver 164 L (.int (iI 0) :: S) M := (rn_at k_X4_takeOver_163).trans rfl
theorem k_X4_takeOver_164 : lk 164 C_X4_takeOver = some (.aload_n 0, (0, 0, 0, 0)) := by decide +kernel
theorem s_X4_takeOver_164 {ca : Nat → List Value → tM → tO} {M : tM} {a1 : Option Value} {x : Nat} {S : List Value} : rn ca C_X4_takeOver 164 [some (.ref x), a1] S M = rn ca C_X4_takeOver 165 [some (.ref x), a1] (.ref x :: S) M := (rn_at k_X4_takeOver_164).trans rfl
theorem k_X4_takeOver_165 : lk 165 C_X4_takeOver = some (.getfield 46, (4, 11, 0, 73)) := by decide +kernel
theorem s_X4_takeOver_165 {ca : Nat → List Value → tM → tO} {M : tM} {L : tL} {b : Nat} {S : List Value} : rn ca C_X4_takeOver 165 L (.ref b :: S) M = if clsO b = some 4 then rn ca C_X4_takeOver 168 L (fv M b 11 :: S) M else none := (rn_at k_X4_takeOver_165).trans rnx_ite
theorem k_X4_takeOver_168 : lk 168 C_X4_takeOver = some (.iconst 0, (0, 0, 0, 0)) := by decide +kernel
theorem s_X4_takeOver_168 {ca : Nat → List Value → tM → tO} {M : tM} {L : tL} {S : List Value} : rn ca C_X4_takeOver 168 L S M = rn ca C_X4_takeOver 169 L (.int (iI 0) :: S) M := (rn_at k_X4_takeOver_168).trans rfl
theorem k_X4_takeOver_169 : lk 169 C_X4_takeOver = some (.iconst 5, (0, 0, 0, 0)) := by decide +kernel
theorem s_X4_takeOver_169 {ca : Nat → List Value → tM → tO} {M : tM} {L : tL} {S : List Value} : rn ca C_X4_takeOver 169 L S M = rn ca C_X4_takeOver 170 L (.int (iI 5) :: S) M := (rn_at k_X4_takeOver_169).trans rfl
theorem k_X4_takeOver_170 : lk 170 C_X4_takeOver = some (.invokestatic 79, (0, 0, 1, 485)) := by decide +kernel
theorem s_X4_takeOver_170 {ca : Nat → List Value → tM → tO} {M : tM} {L : tL} {s d : Nat} {sp dp n : Int32} : rn ca C_X4_takeOver 170 L [.int n, .int dp, .ref d, .int sp, .ref s] M = if akind s = 0 ∧ akind d = 0 ∧ 0 ≤ sp.toInt ∧ 0 ≤ dp.toInt ∧ 0 ≤ n.toInt ∧ sp.toInt + n.toInt ≤ (alen M s : Int) ∧ dp.toInt + n.toInt ≤ (alen M d : Int) then rn ca C_X4_takeOver 173 L [] (rI M d (cpy (M.1 s) (M.1 d) sp.toInt.toNat dp.toInt.toNat n.toInt.toNat)) else if akind s = 2 ∧ akind d = 2 ∧ 0 ≤ sp.toInt ∧ 0 ≤ dp.toInt ∧ 0 ≤ n.toInt ∧ sp.toInt + n.toInt ≤ (alen M s : Int) ∧ dp.toInt + n.toInt ≤ (alen M d : Int) then rn ca C_X4_takeOver 173 L [] (rJ M d (cpy (M.2 s) (M.2 d) sp.toInt.toNat dp.toInt.toNat n.toInt.toNat)) else none := by rw [rn_at k_X4_takeOver_170]; simp only [ta, rnx_ite]; rfl
theorem k_X4_takeOver_173 : lk 173 C_X4_takeOver = some (.aload_n 1, (0, 0, 0, 0)) := by decide +kernel
theorem s_X4_takeOver_173 {ca : Nat → List Value → tM → tO} {M : tM} {a0 : Option Value} {x : Nat} {S : List Value} : rn ca C_X4_takeOver 173 [a0, some (.ref x)] S M = rn ca C_X4_takeOver 174 [a0, some (.ref x)] (.ref x :: S) M := (rn_at k_X4_takeOver_173).trans rfl
theorem k_X4_takeOver_174 : lk 174 C_X4_takeOver = some (.getfield 49, (4, 12, 0, 74)) := by decide +kernel
theorem s_X4_takeOver_174 {ca : Nat → List Value → tM → tO} {M : tM} {L : tL} {b : Nat} {S : List Value} : rn ca C_X4_takeOver 174 L (.ref b :: S) M = if clsO b = some 4 then rn ca C_X4_takeOver 177 L (fv M b 12 :: S) M else none := (rn_at k_X4_takeOver_174).trans rnx_ite
theorem k_X4_takeOver_177 : lk 177 C_X4_takeOver = some (.iconst 0, (0, 0, 0, 0)) := by decide +kernel
theorem s_X4_takeOver_177 {ca : Nat → List Value → tM → tO} {M : tM} {L : tL} {S : List Value} : rn ca C_X4_takeOver 177 L S M = rn ca C_X4_takeOver 178 L (.int (iI 0) :: S) M := (rn_at k_X4_takeOver_177).trans rfl
theorem k_X4_takeOver_178 : lk 178 C_X4_takeOver = some (.aload_n 0, (0, 0, 0, 0)) := by decide +kernel
theorem s_X4_takeOver_178 {ca : Nat → List Value → tM → tO} {M : tM} {a1 : Option Value} {x : Nat} {S : List Value} : rn ca C_X4_takeOver 178 [some (.ref x), a1] S M = rn ca C_X4_takeOver 179 [some (.ref x), a1] (.ref x :: S) M := (rn_at k_X4_takeOver_178).trans rfl
theorem k_X4_takeOver_179 : lk 179 C_X4_takeOver = some (.getfield 49, (4, 12, 0, 74)) := by decide +kernel
theorem s_X4_takeOver_179 {ca : Nat → List Value → tM → tO} {M : tM} {L : tL} {b : Nat} {S : List Value} : rn ca C_X4_takeOver 179 L (.ref b :: S) M = if clsO b = some 4 then rn ca C_X4_takeOver 182 L (fv M b 12 :: S) M else none := (rn_at k_X4_takeOver_179).trans rnx_ite
theorem k_X4_takeOver_182 : lk 182 C_X4_takeOver = some (.iconst 0, (0, 0, 0, 0)) := by decide +kernel
theorem s_X4_takeOver_182 {ca : Nat → List Value → tM → tO} {M : tM} {L : tL} {S : List Value} : rn ca C_X4_takeOver 182 L S M = rn ca C_X4_takeOver 183 L (.int (iI 0) :: S) M := (rn_at k_X4_takeOver_182).trans rfl
theorem k_X4_takeOver_183 : lk 183 C_X4_takeOver = some (.iconst 5, (0, 0, 0, 0)) := by decide +kernel
theorem s_X4_takeOver_183 {ca : Nat → List Value → tM → tO} {M : tM} {L : tL} {S : List Value} : rn ca C_X4_takeOver 183 L S M = rn ca C_X4_takeOver 184 L (.int (iI 5) :: S) M := (rn_at k_X4_takeOver_183).trans rfl
theorem k_X4_takeOver_184 : lk 184 C_X4_takeOver = some (.invokestatic 79, (0, 0, 1, 485)) := by decide +kernel
theorem s_X4_takeOver_184 {ca : Nat → List Value → tM → tO} {M : tM} {L : tL} {s d : Nat} {sp dp n : Int32} : rn ca C_X4_takeOver 184 L [.int n, .int dp, .ref d, .int sp, .ref s] M = if akind s = 0 ∧ akind d = 0 ∧ 0 ≤ sp.toInt ∧ 0 ≤ dp.toInt ∧ 0 ≤ n.toInt ∧ sp.toInt + n.toInt ≤ (alen M s : Int) ∧ dp.toInt + n.toInt ≤ (alen M d : Int) then rn ca C_X4_takeOver 187 L [] (rI M d (cpy (M.1 s) (M.1 d) sp.toInt.toNat dp.toInt.toNat n.toInt.toNat)) else if akind s = 2 ∧ akind d = 2 ∧ 0 ≤ sp.toInt ∧ 0 ≤ dp.toInt ∧ 0 ≤ n.toInt ∧ sp.toInt + n.toInt ≤ (alen M s : Int) ∧ dp.toInt + n.toInt ≤ (alen M d : Int) then rn ca C_X4_takeOver 187 L [] (rJ M d (cpy (M.2 s) (M.2 d) sp.toInt.toNat dp.toInt.toNat n.toInt.toNat)) else none := by rw [rn_at k_X4_takeOver_184]; simp only [ta, rnx_ite]; rfl
theorem k_X4_takeOver_187 : lk 187 C_X4_takeOver = some (.return_, (0, 0, 0, 0)) := by decide +kernel
theorem s_X4_takeOver_187 {ca : Nat → List Value → tM → tO} {M : tM} {L : tL} : rn ca C_X4_takeOver 187 L [] M = some (none, M) := (rn_at k_X4_takeOver_187).trans rfl
theorem k_X4_minutesThrough_0 : lk 0 C_X4_minutesThrough = some (.aload_n 0, (0, 0, 0, 0)) := by decide +kernel
theorem s_X4_minutesThrough_0 {ca : Nat → List Value → tM → tO} {M : tM} {a1 a2 a3 a4 : Option Value} {x : Nat} {S : List Value} : rn ca C_X4_minutesThrough 0 [some (.ref x), a1, a2, a3, a4] S M = rn ca C_X4_minutesThrough 1 [some (.ref x), a1, a2, a3, a4] (.ref x :: S) M := (rn_at k_X4_minutesThrough_0).trans rfl
theorem k_X4_minutesThrough_1 : lk 1 C_X4_minutesThrough = some (.iload_n 1, (0, 0, 0, 0)) := by decide +kernel
theorem s_X4_minutesThrough_1 {ca : Nat → List Value → tM → tO} {M : tM} {a0 a2 a3 a4 : Option Value} {x : Int32} {S : List Value} : rn ca C_X4_minutesThrough 1 [a0, some (.int x), a2, a3, a4] S M = rn ca C_X4_minutesThrough 2 [a0, some (.int x), a2, a3, a4] (.int x :: S) M := (rn_at k_X4_minutesThrough_1).trans rfl
theorem k_X4_minutesThrough_2 : lk 2 C_X4_minutesThrough = some (.invokevirtual 85, (20, 1, 4, 670)) := by decide +kernel
theorem s_X4_minutesThrough_2 {ca : Nat → List Value → tM → tO} {M : tM} {L : tL} {v1 : Value} {b : Nat} : rn ca C_X4_minutesThrough 2 L [v1, .ref b] M = if clsO b = some 4 then rnk ca C_X4_minutesThrough 5 L [] (ca m_X4_hasCapsule [.ref b, v1] M) else none := (rn_at k_X4_minutesThrough_2).trans rnx_ite
theorem k_X4_minutesThrough_5 : lk 5 C_X4_minutesThrough = some (.ifCond .eq 18, (23, 0, 0, 0)) := by decide +kernel
theorem s_X4_minutesThrough_5 {ca : Nat → List Value → tM → tO} {M : tM} {L : tL} {x : Int32} {S : List Value} : rn ca C_X4_minutesThrough 5 L (.int x :: S) M = if x = iI 0 then rn ca C_X4_minutesThrough 23 L S M else rn ca C_X4_minutesThrough 8 L S M := (rn_at k_X4_minutesThrough_5).trans rnx_ite
theorem k_X4_minutesThrough_8 : lk 8 C_X4_minutesThrough = some (.aload_n 0, (0, 0, 0, 0)) := by decide +kernel
theorem s_X4_minutesThrough_8 {ca : Nat → List Value → tM → tO} {M : tM} {a1 a2 a3 a4 : Option Value} {x : Nat} {S : List Value} : rn ca C_X4_minutesThrough 8 [some (.ref x), a1, a2, a3, a4] S M = rn ca C_X4_minutesThrough 9 [some (.ref x), a1, a2, a3, a4] (.ref x :: S) M := (rn_at k_X4_minutesThrough_8).trans rfl
theorem k_X4_minutesThrough_9 : lk 9 C_X4_minutesThrough = some (.iload_n 2, (0, 0, 0, 0)) := by decide +kernel
theorem s_X4_minutesThrough_9 {ca : Nat → List Value → tM → tO} {M : tM} {a0 a1 a3 a4 : Option Value} {x : Int32} {S : List Value} : rn ca C_X4_minutesThrough 9 [a0, a1, some (.int x), a3, a4] S M = rn ca C_X4_minutesThrough 10 [a0, a1, some (.int x), a3, a4] (.int x :: S) M := (rn_at k_X4_minutesThrough_9).trans rfl
theorem k_X4_minutesThrough_10 : lk 10 C_X4_minutesThrough = some (.invokevirtual 75, (19, 1, 4, 388)) := by decide +kernel
theorem s_X4_minutesThrough_10 {ca : Nat → List Value → tM → tO} {M : tM} {L : tL} {v1 : Value} {b : Nat} : rn ca C_X4_minutesThrough 10 L [v1, .ref b] M = if clsO b = some 4 then rnk ca C_X4_minutesThrough 13 L [] (ca m_X4_hasTube [.ref b, v1] M) else none := (rn_at k_X4_minutesThrough_10).trans rnx_ite
theorem k_X4_minutesThrough_13 : lk 13 C_X4_minutesThrough = some (.ifCond .eq 10, (23, 0, 0, 0)) := by decide +kernel
theorem s_X4_minutesThrough_13 {ca : Nat → List Value → tM → tO} {M : tM} {L : tL} {x : Int32} {S : List Value} : rn ca C_X4_minutesThrough 13 L (.int x :: S) M = if x = iI 0 then rn ca C_X4_minutesThrough 23 L S M else rn ca C_X4_minutesThrough 16 L S M := (rn_at k_X4_minutesThrough_13).trans rnx_ite
theorem k_X4_minutesThrough_16 : lk 16 C_X4_minutesThrough = some (.iload_n 3, (0, 0, 0, 0)) := by decide +kernel
theorem s_X4_minutesThrough_16 {ca : Nat → List Value → tM → tO} {M : tM} {a0 a1 a2 a4 : Option Value} {x : Int32} {S : List Value} : rn ca C_X4_minutesThrough 16 [a0, a1, a2, some (.int x), a4] S M = rn ca C_X4_minutesThrough 17 [a0, a1, a2, some (.int x), a4] (.int x :: S) M := (rn_at k_X4_minutesThrough_16).trans rfl
theorem k_X4_minutesThrough_17 : lk 17 C_X4_minutesThrough = some (.invokestatic 88, (140, 1, 0, 100011)) := by decide +kernel
theorem s_X4_minutesThrough_17 {ca : Nat → List Value → tM → tO} {M : tM} {L : tL} {v1 : Value} : rn ca C_X4_minutesThrough 17 L [v1] M = rnk ca C_X4_minutesThrough 20 L [] (ca m_X10_isOneToNine [v1] M) := (rn_at k_X4_minutesThrough_17).trans rfl
theorem k_X4_minutesThrough_20 : lk 20 C_X4_minutesThrough = some (.ifCond .ne 7, (27, 0, 0, 0)) := by decide +kernel
theorem s_X4_minutesThrough_20 {ca : Nat → List Value → tM → tO} {M : tM} {L : tL} {x : Int32} {S : List Value} : rn ca C_X4_minutesThrough 20 L (.int x :: S) M = if ¬ x = iI 0 then rn ca C_X4_minutesThrough 27 L S M else rn ca C_X4_minutesThrough 23 L S M := (rn_at k_X4_minutesThrough_20).trans rnx_ite
theorem k_X4_minutesThrough_23 : lk 23 C_X4_minutesThrough = some (.sipush 9999, (0, 0, 0, 0)) := by decide +kernel
theorem s_X4_minutesThrough_23 {ca : Nat → List Value → tM → tO} {M : tM} {L : tL} {S : List Value} : rn ca C_X4_minutesThrough 23 L S M = rn ca C_X4_minutesThrough 26 L (.int (iI 9999) :: S) M := (rn_at k_X4_minutesThrough_23).trans rfl
theorem k_X4_minutesThrough_26 : lk 26 C_X4_minutesThrough = some (.ireturn, (0, 0, 0, 0)) := by decide +kernel
theorem s_X4_minutesThrough_26 {ca : Nat → List Value → tM → tO} {M : tM} {L : tL} {x : Int32} : rn ca C_X4_minutesThrough 26 L [.int x] M = some (some (.int x), M) := (rn_at k_X4_minutesThrough_26).trans rfl
theorem k_X4_minutesThrough_27 : lk 27 C_X4_minutesThrough = some (.aload_n 0, (0, 0, 0, 0)) := by decide +kernel
theorem s_X4_minutesThrough_27 {ca : Nat → List Value → tM → tO} {M : tM} {a1 a2 a3 a4 : Option Value} {x : Nat} {S : List Value} : rn ca C_X4_minutesThrough 27 [some (.ref x), a1, a2, a3, a4] S M = rn ca C_X4_minutesThrough 28 [some (.ref x), a1, a2, a3, a4] (.ref x :: S) M := (rn_at k_X4_minutesThrough_27).trans rfl
theorem k_X4_minutesThrough_28 : lk 28 C_X4_minutesThrough = some (.getfield 28, (4, 5, 0, 67)) := by decide +kernel
theorem s_X4_minutesThrough_28 {ca : Nat → List Value → tM → tO} {M : tM} {L : tL} {b : Nat} {S : List Value} : rn ca C_X4_minutesThrough 28 L (.ref b :: S) M = if clsO b = some 4 then rn ca C_X4_minutesThrough 31 L (fv M b 5 :: S) M else none := (rn_at k_X4_minutesThrough_28).trans rnx_ite
theorem k_X4_minutesThrough_31 : lk 31 C_X4_minutesThrough = some (.iload_n 2, (0, 0, 0, 0)) := by decide +kernel
theorem s_X4_minutesThrough_31 {ca : Nat → List Value → tM → tO} {M : tM} {a0 a1 a3 a4 : Option Value} {x : Int32} {S : List Value} : rn ca C_X4_minutesThrough 31 [a0, a1, some (.int x), a3, a4] S M = rn ca C_X4_minutesThrough 32 [a0, a1, some (.int x), a3, a4] (.int x :: S) M := (rn_at k_X4_minutesThrough_31).trans rfl
theorem k_X4_minutesThrough_32 : lk 32 C_X4_minutesThrough = some (.iaload, (0, 0, 0, 0)) := by decide +kernel
theorem s_X4_minutesThrough_32 {ca : Nat → List Value → tM → tO} {M : tM} {L : tL} {a : Nat} {i : Int32} {S : List Value} : rn ca C_X4_minutesThrough 32 L (.int i :: .ref a :: S) M = if (akind a = 0 ∨ akind a = 6 ∨ akind a = 7) ∧ inb i (alen M a) then rn ca C_X4_minutesThrough 33 L (.int (M.1 a i.toInt.toNat) :: S) M else none := (rn_at k_X4_minutesThrough_32).trans rnx_ite
theorem k_X4_minutesThrough_33 : lk 33 C_X4_minutesThrough = some (.aload_n 0, (0, 0, 0, 0)) := by decide +kernel
theorem s_X4_minutesThrough_33 {ca : Nat → List Value → tM → tO} {M : tM} {a1 a2 a3 a4 : Option Value} {x : Nat} {S : List Value} : rn ca C_X4_minutesThrough 33 [some (.ref x), a1, a2, a3, a4] S M = rn ca C_X4_minutesThrough 34 [some (.ref x), a1, a2, a3, a4] (.ref x :: S) M := (rn_at k_X4_minutesThrough_33).trans rfl
theorem k_X4_minutesThrough_34 : lk 34 C_X4_minutesThrough = some (.getfield 46, (4, 11, 0, 73)) := by decide +kernel
theorem s_X4_minutesThrough_34 {ca : Nat → List Value → tM → tO} {M : tM} {L : tL} {b : Nat} {S : List Value} : rn ca C_X4_minutesThrough 34 L (.ref b :: S) M = if clsO b = some 4 then rn ca C_X4_minutesThrough 37 L (fv M b 11 :: S) M else none := (rn_at k_X4_minutesThrough_34).trans rnx_ite
theorem k_X4_minutesThrough_37 : lk 37 C_X4_minutesThrough = some (.iload_n 1, (0, 0, 0, 0)) := by decide +kernel
theorem s_X4_minutesThrough_37 {ca : Nat → List Value → tM → tO} {M : tM} {a0 a2 a3 a4 : Option Value} {x : Int32} {S : List Value} : rn ca C_X4_minutesThrough 37 [a0, some (.int x), a2, a3, a4] S M = rn ca C_X4_minutesThrough 38 [a0, some (.int x), a2, a3, a4] (.int x :: S) M := (rn_at k_X4_minutesThrough_37).trans rfl
theorem k_X4_minutesThrough_38 : lk 38 C_X4_minutesThrough = some (.iaload, (0, 0, 0, 0)) := by decide +kernel
theorem s_X4_minutesThrough_38 {ca : Nat → List Value → tM → tO} {M : tM} {L : tL} {a : Nat} {i : Int32} {S : List Value} : rn ca C_X4_minutesThrough 38 L (.int i :: .ref a :: S) M = if (akind a = 0 ∨ akind a = 6 ∨ akind a = 7) ∧ inb i (alen M a) then rn ca C_X4_minutesThrough 39 L (.int (M.1 a i.toInt.toNat) :: S) M else none := (rn_at k_X4_minutesThrough_38).trans rnx_ite
theorem k_X4_minutesThrough_39 : lk 39 C_X4_minutesThrough = some (.imul, (0, 0, 0, 0)) := by decide +kernel
theorem s_X4_minutesThrough_39 {ca : Nat → List Value → tM → tO} {M : tM} {L : tL} {x y : Int32} {S : List Value} : rn ca C_X4_minutesThrough 39 L (.int y :: .int x :: S) M = rn ca C_X4_minutesThrough 40 L (.int (x * y) :: S) M := (rn_at k_X4_minutesThrough_39).trans rfl
theorem k_X4_minutesThrough_40 : lk 40 C_X4_minutesThrough = some (.istore 4, (0, 0, 0, 0)) := by decide +kernel
theorem s_X4_minutesThrough_40 {ca : Nat → List Value → tM → tO} {M : tM} {a0 a1 a2 a3 a4 : Option Value} {x : Int32} {S : List Value} : rn ca C_X4_minutesThrough 40 [a0, a1, a2, a3, a4] (.int x :: S) M = rn ca C_X4_minutesThrough 42 [a0, a1, a2, a3, some (.int x)] S M := (rn_at k_X4_minutesThrough_40).trans rfl
theorem k_X4_minutesThrough_42 : lk 42 C_X4_minutesThrough = some (.aload_n 0, (0, 0, 0, 0)) := by decide +kernel
theorem s_X4_minutesThrough_42 {ca : Nat → List Value → tM → tO} {M : tM} {a1 a2 a3 a4 : Option Value} {x : Nat} {S : List Value} : rn ca C_X4_minutesThrough 42 [some (.ref x), a1, a2, a3, a4] S M = rn ca C_X4_minutesThrough 43 [some (.ref x), a1, a2, a3, a4] (.ref x :: S) M := (rn_at k_X4_minutesThrough_42).trans rfl
theorem k_X4_minutesThrough_43 : lk 43 C_X4_minutesThrough = some (.getfield 40, (4, 9, 0, 71)) := by decide +kernel
theorem s_X4_minutesThrough_43 {ca : Nat → List Value → tM → tO} {M : tM} {L : tL} {b : Nat} {S : List Value} : rn ca C_X4_minutesThrough 43 L (.ref b :: S) M = if clsO b = some 4 then rn ca C_X4_minutesThrough 46 L (fv M b 9 :: S) M else none := (rn_at k_X4_minutesThrough_43).trans rnx_ite
theorem k_X4_minutesThrough_46 : lk 46 C_X4_minutesThrough = some (.iload_n 1, (0, 0, 0, 0)) := by decide +kernel
theorem s_X4_minutesThrough_46 {ca : Nat → List Value → tM → tO} {M : tM} {a0 a2 a3 a4 : Option Value} {x : Int32} {S : List Value} : rn ca C_X4_minutesThrough 46 [a0, some (.int x), a2, a3, a4] S M = rn ca C_X4_minutesThrough 47 [a0, some (.int x), a2, a3, a4] (.int x :: S) M := (rn_at k_X4_minutesThrough_46).trans rfl
theorem k_X4_minutesThrough_47 : lk 47 C_X4_minutesThrough = some (.iaload, (0, 0, 0, 0)) := by decide +kernel
theorem s_X4_minutesThrough_47 {ca : Nat → List Value → tM → tO} {M : tM} {L : tL} {a : Nat} {i : Int32} {S : List Value} : rn ca C_X4_minutesThrough 47 L (.int i :: .ref a :: S) M = if (akind a = 0 ∨ akind a = 6 ∨ akind a = 7) ∧ inb i (alen M a) then rn ca C_X4_minutesThrough 48 L (.int (M.1 a i.toInt.toNat) :: S) M else none := (rn_at k_X4_minutesThrough_47).trans rnx_ite
theorem k_X4_minutesThrough_48 : lk 48 C_X4_minutesThrough = some (.tableswitch 127 1 6 #[40, 53, 106, 106, 120, 69], (0, 0, 0, 0)) := by decide +kernel
theorem s_X4_minutesThrough_48 {ca : Nat → List Value → tM → tO} {M : tM} {L : tL} {x : Int32} {S : List Value} : rn ca C_X4_minutesThrough 48 L (.int x :: S) M = if x = iI 1 then rn ca C_X4_minutesThrough 88 L S M else if x = iI 2 then rn ca C_X4_minutesThrough 101 L S M else if x = iI 3 then rn ca C_X4_minutesThrough 154 L S M else if x = iI 4 then rn ca C_X4_minutesThrough 154 L S M else if x = iI 5 then rn ca C_X4_minutesThrough 168 L S M else if x = iI 6 then rn ca C_X4_minutesThrough 117 L S M else rn ca C_X4_minutesThrough 175 L S M := by rw [rn_at k_X4_minutesThrough_48]; simp only [ta, tsw, lsw, rnx_ite]; rfl
theorem k_X4_minutesThrough_88 : lk 88 C_X4_minutesThrough = some (.iconst 1, (0, 0, 0, 0)) := by decide +kernel
theorem s_X4_minutesThrough_88 {ca : Nat → List Value → tM → tO} {M : tM} {L : tL} {S : List Value} : rn ca C_X4_minutesThrough 88 L S M = rn ca C_X4_minutesThrough 89 L (.int (iI 1) :: S) M := (rn_at k_X4_minutesThrough_88).trans rfl
theorem k_X4_minutesThrough_89 : lk 89 C_X4_minutesThrough = some (.iload 4, (0, 0, 0, 0)) := by decide +kernel
theorem s_X4_minutesThrough_89 {ca : Nat → List Value → tM → tO} {M : tM} {a0 a1 a2 a3 : Option Value} {x : Int32} {S : List Value} : rn ca C_X4_minutesThrough 89 [a0, a1, a2, a3, some (.int x)] S M = rn ca C_X4_minutesThrough 91 [a0, a1, a2, a3, some (.int x)] (.int x :: S) M := (rn_at k_X4_minutesThrough_89).trans rfl
theorem k_X4_minutesThrough_91 : lk 91 C_X4_minutesThrough = some (.iload_n 3, (0, 0, 0, 0)) := by decide +kernel
theorem s_X4_minutesThrough_91 {ca : Nat → List Value → tM → tO} {M : tM} {a0 a1 a2 a4 : Option Value} {x : Int32} {S : List Value} : rn ca C_X4_minutesThrough 91 [a0, a1, a2, some (.int x), a4] S M = rn ca C_X4_minutesThrough 92 [a0, a1, a2, some (.int x), a4] (.int x :: S) M := (rn_at k_X4_minutesThrough_91).trans rfl
theorem k_X4_minutesThrough_92 : lk 92 C_X4_minutesThrough = some (.invokestatic 91, (31, 2, 0, 671)) := by decide +kernel
theorem s_X4_minutesThrough_92 {ca : Nat → List Value → tM → tO} {M : tM} {L : tL} {v1 v2 : Value} {r0 : Int32} : rn ca C_X4_minutesThrough 92 L [v2, v1, .int r0] M = rnk ca C_X4_minutesThrough 95 L [.int r0] (ca m_X4_dividedUpward [v1, v2] M) := (rn_at k_X4_minutesThrough_92).trans rfl
theorem k_X4_minutesThrough_95 : lk 95 C_X4_minutesThrough = some (.iconst 1, (0, 0, 0, 0)) := by decide +kernel
theorem s_X4_minutesThrough_95 {ca : Nat → List Value → tM → tO} {M : tM} {L : tL} {S : List Value} : rn ca C_X4_minutesThrough 95 L S M = rn ca C_X4_minutesThrough 96 L (.int (iI 1) :: S) M := (rn_at k_X4_minutesThrough_95).trans rfl
theorem k_X4_minutesThrough_96 : lk 96 C_X4_minutesThrough = some (.isub, (0, 0, 0, 0)) := by decide +kernel
theorem s_X4_minutesThrough_96 {ca : Nat → List Value → tM → tO} {M : tM} {L : tL} {x y : Int32} {S : List Value} : rn ca C_X4_minutesThrough 96 L (.int y :: .int x :: S) M = rn ca C_X4_minutesThrough 97 L (.int (x - y) :: S) M := (rn_at k_X4_minutesThrough_96).trans rfl
theorem k_X4_minutesThrough_97 : lk 97 C_X4_minutesThrough = some (.invokestatic 95, (0, 2, 2, 667)) := by decide +kernel
theorem s_X4_minutesThrough_97 {ca : Nat → List Value → tM → tO} {M : tM} {L : tL} {x y : Int32} : rn ca C_X4_minutesThrough 97 L [.int y, .int x] M = rn ca C_X4_minutesThrough 100 L [.int (mxI x y)] M := (rn_at k_X4_minutesThrough_97).trans rfl
theorem k_X4_minutesThrough_100 : lk 100 C_X4_minutesThrough = some (.ireturn, (0, 0, 0, 0)) := by decide +kernel
theorem s_X4_minutesThrough_100 {ca : Nat → List Value → tM → tO} {M : tM} {L : tL} {x : Int32} : rn ca C_X4_minutesThrough 100 L [.int x] M = some (some (.int x), M) := (rn_at k_X4_minutesThrough_100).trans rfl
theorem k_X4_minutesThrough_101 : lk 101 C_X4_minutesThrough = some (.iconst 1, (0, 0, 0, 0)) := by decide +kernel
theorem s_X4_minutesThrough_101 {ca : Nat → List Value → tM → tO} {M : tM} {L : tL} {S : List Value} : rn ca C_X4_minutesThrough 101 L S M = rn ca C_X4_minutesThrough 102 L (.int (iI 1) :: S) M := (rn_at k_X4_minutesThrough_101).trans rfl
theorem k_X4_minutesThrough_102 : lk 102 C_X4_minutesThrough = some (.iload 4, (0, 0, 0, 0)) := by decide +kernel
theorem s_X4_minutesThrough_102 {ca : Nat → List Value → tM → tO} {M : tM} {a0 a1 a2 a3 : Option Value} {x : Int32} {S : List Value} : rn ca C_X4_minutesThrough 102 [a0, a1, a2, a3, some (.int x)] S M = rn ca C_X4_minutesThrough 104 [a0, a1, a2, a3, some (.int x)] (.int x :: S) M := (rn_at k_X4_minutesThrough_102).trans rfl
theorem k_X4_minutesThrough_104 : lk 104 C_X4_minutesThrough = some (.bipush 10, (0, 0, 0, 0)) := by decide +kernel
theorem s_X4_minutesThrough_104 {ca : Nat → List Value → tM → tO} {M : tM} {L : tL} {S : List Value} : rn ca C_X4_minutesThrough 104 L S M = rn ca C_X4_minutesThrough 106 L (.int (iI 10) :: S) M := (rn_at k_X4_minutesThrough_104).trans rfl
theorem k_X4_minutesThrough_106 : lk 106 C_X4_minutesThrough = some (.iload_n 3, (0, 0, 0, 0)) := by decide +kernel
theorem s_X4_minutesThrough_106 {ca : Nat → List Value → tM → tO} {M : tM} {a0 a1 a2 a4 : Option Value} {x : Int32} {S : List Value} : rn ca C_X4_minutesThrough 106 [a0, a1, a2, some (.int x), a4] S M = rn ca C_X4_minutesThrough 107 [a0, a1, a2, some (.int x), a4] (.int x :: S) M := (rn_at k_X4_minutesThrough_106).trans rfl
theorem k_X4_minutesThrough_107 : lk 107 C_X4_minutesThrough = some (.isub, (0, 0, 0, 0)) := by decide +kernel
theorem s_X4_minutesThrough_107 {ca : Nat → List Value → tM → tO} {M : tM} {L : tL} {x y : Int32} {S : List Value} : rn ca C_X4_minutesThrough 107 L (.int y :: .int x :: S) M = rn ca C_X4_minutesThrough 108 L (.int (x - y) :: S) M := (rn_at k_X4_minutesThrough_107).trans rfl
theorem k_X4_minutesThrough_108 : lk 108 C_X4_minutesThrough = some (.invokestatic 91, (31, 2, 0, 671)) := by decide +kernel
theorem s_X4_minutesThrough_108 {ca : Nat → List Value → tM → tO} {M : tM} {L : tL} {v1 v2 : Value} {r0 : Int32} : rn ca C_X4_minutesThrough 108 L [v2, v1, .int r0] M = rnk ca C_X4_minutesThrough 111 L [.int r0] (ca m_X4_dividedUpward [v1, v2] M) := (rn_at k_X4_minutesThrough_108).trans rfl
theorem k_X4_minutesThrough_111 : lk 111 C_X4_minutesThrough = some (.iconst 1, (0, 0, 0, 0)) := by decide +kernel
theorem s_X4_minutesThrough_111 {ca : Nat → List Value → tM → tO} {M : tM} {L : tL} {S : List Value} : rn ca C_X4_minutesThrough 111 L S M = rn ca C_X4_minutesThrough 112 L (.int (iI 1) :: S) M := (rn_at k_X4_minutesThrough_111).trans rfl
theorem k_X4_minutesThrough_112 : lk 112 C_X4_minutesThrough = some (.isub, (0, 0, 0, 0)) := by decide +kernel
theorem s_X4_minutesThrough_112 {ca : Nat → List Value → tM → tO} {M : tM} {L : tL} {x y : Int32} {S : List Value} : rn ca C_X4_minutesThrough 112 L (.int y :: .int x :: S) M = rn ca C_X4_minutesThrough 113 L (.int (x - y) :: S) M := (rn_at k_X4_minutesThrough_112).trans rfl
theorem k_X4_minutesThrough_113 : lk 113 C_X4_minutesThrough = some (.invokestatic 95, (0, 2, 2, 667)) := by decide +kernel
theorem s_X4_minutesThrough_113 {ca : Nat → List Value → tM → tO} {M : tM} {L : tL} {x y : Int32} : rn ca C_X4_minutesThrough 113 L [.int y, .int x] M = rn ca C_X4_minutesThrough 116 L [.int (mxI x y)] M := (rn_at k_X4_minutesThrough_113).trans rfl
theorem k_X4_minutesThrough_116 : lk 116 C_X4_minutesThrough = some (.ireturn, (0, 0, 0, 0)) := by decide +kernel
theorem s_X4_minutesThrough_116 {ca : Nat → List Value → tM → tO} {M : tM} {L : tL} {x : Int32} : rn ca C_X4_minutesThrough 116 L [.int x] M = some (some (.int x), M) := (rn_at k_X4_minutesThrough_116).trans rfl
theorem k_X4_minutesThrough_117 : lk 117 C_X4_minutesThrough = some (.iconst 1, (0, 0, 0, 0)) := by decide +kernel
theorem s_X4_minutesThrough_117 {ca : Nat → List Value → tM → tO} {M : tM} {L : tL} {S : List Value} : rn ca C_X4_minutesThrough 117 L S M = rn ca C_X4_minutesThrough 118 L (.int (iI 1) :: S) M := (rn_at k_X4_minutesThrough_117).trans rfl
theorem k_X4_minutesThrough_118 : lk 118 C_X4_minutesThrough = some (.iload 4, (0, 0, 0, 0)) := by decide +kernel
theorem s_X4_minutesThrough_118 {ca : Nat → List Value → tM → tO} {M : tM} {a0 a1 a2 a3 : Option Value} {x : Int32} {S : List Value} : rn ca C_X4_minutesThrough 118 [a0, a1, a2, a3, some (.int x)] S M = rn ca C_X4_minutesThrough 120 [a0, a1, a2, a3, some (.int x)] (.int x :: S) M := (rn_at k_X4_minutesThrough_118).trans rfl
theorem k_X4_minutesThrough_120 : lk 120 C_X4_minutesThrough = some (.bipush 10, (0, 0, 0, 0)) := by decide +kernel
theorem s_X4_minutesThrough_120 {ca : Nat → List Value → tM → tO} {M : tM} {L : tL} {S : List Value} : rn ca C_X4_minutesThrough 120 L S M = rn ca C_X4_minutesThrough 122 L (.int (iI 10) :: S) M := (rn_at k_X4_minutesThrough_120).trans rfl
theorem k_X4_minutesThrough_122 : lk 122 C_X4_minutesThrough = some (.iload_n 3, (0, 0, 0, 0)) := by decide +kernel
theorem s_X4_minutesThrough_122 {ca : Nat → List Value → tM → tO} {M : tM} {a0 a1 a2 a4 : Option Value} {x : Int32} {S : List Value} : rn ca C_X4_minutesThrough 122 [a0, a1, a2, some (.int x), a4] S M = rn ca C_X4_minutesThrough 123 [a0, a1, a2, some (.int x), a4] (.int x :: S) M := (rn_at k_X4_minutesThrough_122).trans rfl
theorem k_X4_minutesThrough_123 : lk 123 C_X4_minutesThrough = some (.isub, (0, 0, 0, 0)) := by decide +kernel
theorem s_X4_minutesThrough_123 {ca : Nat → List Value → tM → tO} {M : tM} {L : tL} {x y : Int32} {S : List Value} : rn ca C_X4_minutesThrough 123 L (.int y :: .int x :: S) M = rn ca C_X4_minutesThrough 124 L (.int (x - y) :: S) M := (rn_at k_X4_minutesThrough_123).trans rfl
theorem k_X4_minutesThrough_124 : lk 124 C_X4_minutesThrough = some (.invokestatic 91, (31, 2, 0, 671)) := by decide +kernel
theorem s_X4_minutesThrough_124 {ca : Nat → List Value → tM → tO} {M : tM} {L : tL} {v1 v2 : Value} {r0 : Int32} : rn ca C_X4_minutesThrough 124 L [v2, v1, .int r0] M = rnk ca C_X4_minutesThrough 127 L [.int r0] (ca m_X4_dividedUpward [v1, v2] M) := (rn_at k_X4_minutesThrough_124).trans rfl
theorem k_X4_minutesThrough_127 : lk 127 C_X4_minutesThrough = some (.iconst 1, (0, 0, 0, 0)) := by decide +kernel
theorem s_X4_minutesThrough_127 {ca : Nat → List Value → tM → tO} {M : tM} {L : tL} {S : List Value} : rn ca C_X4_minutesThrough 127 L S M = rn ca C_X4_minutesThrough 128 L (.int (iI 1) :: S) M := (rn_at k_X4_minutesThrough_127).trans rfl
theorem k_X4_minutesThrough_128 : lk 128 C_X4_minutesThrough = some (.isub, (0, 0, 0, 0)) := by decide +kernel
theorem s_X4_minutesThrough_128 {ca : Nat → List Value → tM → tO} {M : tM} {L : tL} {x y : Int32} {S : List Value} : rn ca C_X4_minutesThrough 128 L (.int y :: .int x :: S) M = rn ca C_X4_minutesThrough 129 L (.int (x - y) :: S) M := (rn_at k_X4_minutesThrough_128).trans rfl
theorem k_X4_minutesThrough_129 : lk 129 C_X4_minutesThrough = some (.invokestatic 95, (0, 2, 2, 667)) := by decide +kernel
theorem s_X4_minutesThrough_129 {ca : Nat → List Value → tM → tO} {M : tM} {L : tL} {x y : Int32} : rn ca C_X4_minutesThrough 129 L [.int y, .int x] M = rn ca C_X4_minutesThrough 132 L [.int (mxI x y)] M := (rn_at k_X4_minutesThrough_129).trans rfl
theorem k_X4_minutesThrough_132 : lk 132 C_X4_minutesThrough = some (.aload_n 0, (0, 0, 0, 0)) := by decide +kernel
theorem s_X4_minutesThrough_132 {ca : Nat → List Value → tM → tO} {M : tM} {a1 a2 a3 a4 : Option Value} {x : Nat} {S : List Value} : rn ca C_X4_minutesThrough 132 [some (.ref x), a1, a2, a3, a4] S M = rn ca C_X4_minutesThrough 133 [some (.ref x), a1, a2, a3, a4] (.ref x :: S) M := (rn_at k_X4_minutesThrough_132).trans rfl
theorem k_X4_minutesThrough_133 : lk 133 C_X4_minutesThrough = some (.getfield 31, (4, 6, 0, 68)) := by decide +kernel
theorem s_X4_minutesThrough_133 {ca : Nat → List Value → tM → tO} {M : tM} {L : tL} {b : Nat} {S : List Value} : rn ca C_X4_minutesThrough 133 L (.ref b :: S) M = if clsO b = some 4 then rn ca C_X4_minutesThrough 136 L (fv M b 6 :: S) M else none := (rn_at k_X4_minutesThrough_133).trans rnx_ite
theorem k_X4_minutesThrough_136 : lk 136 C_X4_minutesThrough = some (.iload_n 2, (0, 0, 0, 0)) := by decide +kernel
theorem s_X4_minutesThrough_136 {ca : Nat → List Value → tM → tO} {M : tM} {a0 a1 a3 a4 : Option Value} {x : Int32} {S : List Value} : rn ca C_X4_minutesThrough 136 [a0, a1, some (.int x), a3, a4] S M = rn ca C_X4_minutesThrough 137 [a0, a1, some (.int x), a3, a4] (.int x :: S) M := (rn_at k_X4_minutesThrough_136).trans rfl
theorem k_X4_minutesThrough_137 : lk 137 C_X4_minutesThrough = some (.iaload, (0, 0, 0, 0)) := by decide +kernel
theorem s_X4_minutesThrough_137 {ca : Nat → List Value → tM → tO} {M : tM} {L : tL} {a : Nat} {i : Int32} {S : List Value} : rn ca C_X4_minutesThrough 137 L (.int i :: .ref a :: S) M = if (akind a = 0 ∨ akind a = 6 ∨ akind a = 7) ∧ inb i (alen M a) then rn ca C_X4_minutesThrough 138 L (.int (M.1 a i.toInt.toNat) :: S) M else none := (rn_at k_X4_minutesThrough_137).trans rnx_ite
theorem k_X4_minutesThrough_138 : lk 138 C_X4_minutesThrough = some (.aload_n 0, (0, 0, 0, 0)) := by decide +kernel
theorem s_X4_minutesThrough_138 {ca : Nat → List Value → tM → tO} {M : tM} {a1 a2 a3 a4 : Option Value} {x : Nat} {S : List Value} : rn ca C_X4_minutesThrough 138 [some (.ref x), a1, a2, a3, a4] S M = rn ca C_X4_minutesThrough 139 [some (.ref x), a1, a2, a3, a4] (.ref x :: S) M := (rn_at k_X4_minutesThrough_138).trans rfl
theorem k_X4_minutesThrough_139 : lk 139 C_X4_minutesThrough = some (.getfield 46, (4, 11, 0, 73)) := by decide +kernel
theorem s_X4_minutesThrough_139 {ca : Nat → List Value → tM → tO} {M : tM} {L : tL} {b : Nat} {S : List Value} : rn ca C_X4_minutesThrough 139 L (.ref b :: S) M = if clsO b = some 4 then rn ca C_X4_minutesThrough 142 L (fv M b 11 :: S) M else none := (rn_at k_X4_minutesThrough_139).trans rnx_ite
theorem k_X4_minutesThrough_142 : lk 142 C_X4_minutesThrough = some (.iload_n 1, (0, 0, 0, 0)) := by decide +kernel
theorem s_X4_minutesThrough_142 {ca : Nat → List Value → tM → tO} {M : tM} {a0 a2 a3 a4 : Option Value} {x : Int32} {S : List Value} : rn ca C_X4_minutesThrough 142 [a0, some (.int x), a2, a3, a4] S M = rn ca C_X4_minutesThrough 143 [a0, some (.int x), a2, a3, a4] (.int x :: S) M := (rn_at k_X4_minutesThrough_142).trans rfl
theorem k_X4_minutesThrough_143 : lk 143 C_X4_minutesThrough = some (.iaload, (0, 0, 0, 0)) := by decide +kernel
theorem s_X4_minutesThrough_143 {ca : Nat → List Value → tM → tO} {M : tM} {L : tL} {a : Nat} {i : Int32} {S : List Value} : rn ca C_X4_minutesThrough 143 L (.int i :: .ref a :: S) M = if (akind a = 0 ∨ akind a = 6 ∨ akind a = 7) ∧ inb i (alen M a) then rn ca C_X4_minutesThrough 144 L (.int (M.1 a i.toInt.toNat) :: S) M else none := (rn_at k_X4_minutesThrough_143).trans rnx_ite
theorem k_X4_minutesThrough_144 : lk 144 C_X4_minutesThrough = some (.if_icmp .ne 7, (151, 0, 0, 0)) := by decide +kernel
theorem s_X4_minutesThrough_144 {ca : Nat → List Value → tM → tO} {M : tM} {L : tL} {x y : Int32} {S : List Value} : rn ca C_X4_minutesThrough 144 L (.int y :: .int x :: S) M = if ¬ x = y then rn ca C_X4_minutesThrough 151 L S M else rn ca C_X4_minutesThrough 147 L S M := (rn_at k_X4_minutesThrough_144).trans rnx_ite
theorem k_X4_minutesThrough_147 : lk 147 C_X4_minutesThrough = some (.iconst 2, (0, 0, 0, 0)) := by decide +kernel
theorem s_X4_minutesThrough_147 {ca : Nat → List Value → tM → tO} {M : tM} {L : tL} {S : List Value} : rn ca C_X4_minutesThrough 147 L S M = rn ca C_X4_minutesThrough 148 L (.int (iI 2) :: S) M := (rn_at k_X4_minutesThrough_147).trans rfl
theorem k_X4_minutesThrough_148 : lk 148 C_X4_minutesThrough = some (.goto 4, (152, 0, 0, 0)) := by decide +kernel
theorem s_X4_minutesThrough_148 {ca : Nat → List Value → tM → tO} {M : tM} {L : tL} {S : List Value} : rn ca C_X4_minutesThrough 148 L S M = rn ca C_X4_minutesThrough 152 L S M := (rn_at k_X4_minutesThrough_148).trans rfl
theorem k_X4_minutesThrough_151 : lk 151 C_X4_minutesThrough = some (.iconst 0, (0, 0, 0, 0)) := by decide +kernel
theorem s_X4_minutesThrough_151 {ca : Nat → List Value → tM → tO} {M : tM} {L : tL} {S : List Value} : rn ca C_X4_minutesThrough 151 L S M = rn ca C_X4_minutesThrough 152 L (.int (iI 0) :: S) M := (rn_at k_X4_minutesThrough_151).trans rfl
theorem k_X4_minutesThrough_152 : lk 152 C_X4_minutesThrough = some (.iadd, (0, 0, 0, 0)) := by decide +kernel
theorem s_X4_minutesThrough_152 {ca : Nat → List Value → tM → tO} {M : tM} {L : tL} {x y : Int32} {S : List Value} : rn ca C_X4_minutesThrough 152 L (.int y :: .int x :: S) M = rn ca C_X4_minutesThrough 153 L (.int (x + y) :: S) M := (rn_at k_X4_minutesThrough_152).trans rfl
theorem k_X4_minutesThrough_153 : lk 153 C_X4_minutesThrough = some (.ireturn, (0, 0, 0, 0)) := by decide +kernel
theorem s_X4_minutesThrough_153 {ca : Nat → List Value → tM → tO} {M : tM} {L : tL} {x : Int32} : rn ca C_X4_minutesThrough 153 L [.int x] M = some (some (.int x), M) := (rn_at k_X4_minutesThrough_153).trans rfl
theorem k_X4_minutesThrough_154 : lk 154 C_X4_minutesThrough = some (.iload 4, (0, 0, 0, 0)) := by decide +kernel
theorem s_X4_minutesThrough_154 {ca : Nat → List Value → tM → tO} {M : tM} {a0 a1 a2 a3 : Option Value} {x : Int32} {S : List Value} : rn ca C_X4_minutesThrough 154 [a0, a1, a2, a3, some (.int x)] S M = rn ca C_X4_minutesThrough 156 [a0, a1, a2, a3, some (.int x)] (.int x :: S) M := (rn_at k_X4_minutesThrough_154).trans rfl
theorem k_X4_minutesThrough_156 : lk 156 C_X4_minutesThrough = some (.iload_n 3, (0, 0, 0, 0)) := by decide +kernel
theorem s_X4_minutesThrough_156 {ca : Nat → List Value → tM → tO} {M : tM} {a0 a1 a2 a4 : Option Value} {x : Int32} {S : List Value} : rn ca C_X4_minutesThrough 156 [a0, a1, a2, some (.int x), a4] S M = rn ca C_X4_minutesThrough 157 [a0, a1, a2, some (.int x), a4] (.int x :: S) M := (rn_at k_X4_minutesThrough_156).trans rfl
theorem k_X4_minutesThrough_157 : lk 157 C_X4_minutesThrough = some (.invokestatic 91, (31, 2, 0, 671)) := by decide +kernel
theorem s_X4_minutesThrough_157 {ca : Nat → List Value → tM → tO} {M : tM} {L : tL} {v1 v2 : Value} : rn ca C_X4_minutesThrough 157 L [v2, v1] M = rnk ca C_X4_minutesThrough 160 L [] (ca m_X4_dividedUpward [v1, v2] M) := (rn_at k_X4_minutesThrough_157).trans rfl
theorem k_X4_minutesThrough_160 : lk 160 C_X4_minutesThrough = some (.aload_n 0, (0, 0, 0, 0)) := by decide +kernel
theorem s_X4_minutesThrough_160 {ca : Nat → List Value → tM → tO} {M : tM} {a1 a2 a3 a4 : Option Value} {x : Nat} {S : List Value} : rn ca C_X4_minutesThrough 160 [some (.ref x), a1, a2, a3, a4] S M = rn ca C_X4_minutesThrough 161 [some (.ref x), a1, a2, a3, a4] (.ref x :: S) M := (rn_at k_X4_minutesThrough_160).trans rfl
theorem k_X4_minutesThrough_161 : lk 161 C_X4_minutesThrough = some (.getfield 43, (4, 10, 0, 72)) := by decide +kernel
theorem s_X4_minutesThrough_161 {ca : Nat → List Value → tM → tO} {M : tM} {L : tL} {b : Nat} {S : List Value} : rn ca C_X4_minutesThrough 161 L (.ref b :: S) M = if clsO b = some 4 then rn ca C_X4_minutesThrough 164 L (fv M b 10 :: S) M else none := (rn_at k_X4_minutesThrough_161).trans rnx_ite
theorem k_X4_minutesThrough_164 : lk 164 C_X4_minutesThrough = some (.iload_n 1, (0, 0, 0, 0)) := by decide +kernel
theorem s_X4_minutesThrough_164 {ca : Nat → List Value → tM → tO} {M : tM} {a0 a2 a3 a4 : Option Value} {x : Int32} {S : List Value} : rn ca C_X4_minutesThrough 164 [a0, some (.int x), a2, a3, a4] S M = rn ca C_X4_minutesThrough 165 [a0, some (.int x), a2, a3, a4] (.int x :: S) M := (rn_at k_X4_minutesThrough_164).trans rfl
theorem k_X4_minutesThrough_165 : lk 165 C_X4_minutesThrough = some (.iaload, (0, 0, 0, 0)) := by decide +kernel
theorem s_X4_minutesThrough_165 {ca : Nat → List Value → tM → tO} {M : tM} {L : tL} {a : Nat} {i : Int32} {S : List Value} : rn ca C_X4_minutesThrough 165 L (.int i :: .ref a :: S) M = if (akind a = 0 ∨ akind a = 6 ∨ akind a = 7) ∧ inb i (alen M a) then rn ca C_X4_minutesThrough 166 L (.int (M.1 a i.toInt.toNat) :: S) M else none := (rn_at k_X4_minutesThrough_165).trans rnx_ite
theorem k_X4_minutesThrough_166 : lk 166 C_X4_minutesThrough = some (.iadd, (0, 0, 0, 0)) := by decide +kernel
theorem s_X4_minutesThrough_166 {ca : Nat → List Value → tM → tO} {M : tM} {L : tL} {x y : Int32} {S : List Value} : rn ca C_X4_minutesThrough 166 L (.int y :: .int x :: S) M = rn ca C_X4_minutesThrough 167 L (.int (x + y) :: S) M := (rn_at k_X4_minutesThrough_166).trans rfl
theorem k_X4_minutesThrough_167 : lk 167 C_X4_minutesThrough = some (.ireturn, (0, 0, 0, 0)) := by decide +kernel
theorem s_X4_minutesThrough_167 {ca : Nat → List Value → tM → tO} {M : tM} {L : tL} {x : Int32} : rn ca C_X4_minutesThrough 167 L [.int x] M = some (some (.int x), M) := (rn_at k_X4_minutesThrough_167).trans rfl
theorem k_X4_minutesThrough_168 : lk 168 C_X4_minutesThrough = some (.aload_n 0, (0, 0, 0, 0)) := by decide +kernel
theorem s_X4_minutesThrough_168 {ca : Nat → List Value → tM → tO} {M : tM} {a1 a2 a3 a4 : Option Value} {x : Nat} {S : List Value} : rn ca C_X4_minutesThrough 168 [some (.ref x), a1, a2, a3, a4] S M = rn ca C_X4_minutesThrough 169 [some (.ref x), a1, a2, a3, a4] (.ref x :: S) M := (rn_at k_X4_minutesThrough_168).trans rfl
theorem k_X4_minutesThrough_169 : lk 169 C_X4_minutesThrough = some (.getfield 28, (4, 5, 0, 67)) := by decide +kernel
theorem s_X4_minutesThrough_169 {ca : Nat → List Value → tM → tO} {M : tM} {L : tL} {b : Nat} {S : List Value} : rn ca C_X4_minutesThrough 169 L (.ref b :: S) M = if clsO b = some 4 then rn ca C_X4_minutesThrough 172 L (fv M b 5 :: S) M else none := (rn_at k_X4_minutesThrough_169).trans rnx_ite
theorem k_X4_minutesThrough_172 : lk 172 C_X4_minutesThrough = some (.iload_n 2, (0, 0, 0, 0)) := by decide +kernel
theorem s_X4_minutesThrough_172 {ca : Nat → List Value → tM → tO} {M : tM} {a0 a1 a3 a4 : Option Value} {x : Int32} {S : List Value} : rn ca C_X4_minutesThrough 172 [a0, a1, some (.int x), a3, a4] S M = rn ca C_X4_minutesThrough 173 [a0, a1, some (.int x), a3, a4] (.int x :: S) M := (rn_at k_X4_minutesThrough_172).trans rfl
theorem k_X4_minutesThrough_173 : lk 173 C_X4_minutesThrough = some (.iaload, (0, 0, 0, 0)) := by decide +kernel
theorem s_X4_minutesThrough_173 {ca : Nat → List Value → tM → tO} {M : tM} {L : tL} {a : Nat} {i : Int32} {S : List Value} : rn ca C_X4_minutesThrough 173 L (.int i :: .ref a :: S) M = if (akind a = 0 ∨ akind a = 6 ∨ akind a = 7) ∧ inb i (alen M a) then rn ca C_X4_minutesThrough 174 L (.int (M.1 a i.toInt.toNat) :: S) M else none := (rn_at k_X4_minutesThrough_173).trans rnx_ite
theorem k_X4_minutesThrough_174 : lk 174 C_X4_minutesThrough = some (.ireturn, (0, 0, 0, 0)) := by decide +kernel
theorem s_X4_minutesThrough_174 {ca : Nat → List Value → tM → tO} {M : tM} {L : tL} {x : Int32} : rn ca C_X4_minutesThrough 174 L [.int x] M = some (some (.int x), M) := (rn_at k_X4_minutesThrough_174).trans rfl
theorem k_X4_minutesThrough_175 : lk 175 C_X4_minutesThrough = some (.iload 4, (0, 0, 0, 0)) := by decide +kernel
theorem s_X4_minutesThrough_175 {ca : Nat → List Value → tM → tO} {M : tM} {a0 a1 a2 a3 : Option Value} {x : Int32} {S : List Value} : rn ca C_X4_minutesThrough 175 [a0, a1, a2, a3, some (.int x)] S M = rn ca C_X4_minutesThrough 177 [a0, a1, a2, a3, some (.int x)] (.int x :: S) M := (rn_at k_X4_minutesThrough_175).trans rfl
theorem k_X4_minutesThrough_177 : lk 177 C_X4_minutesThrough = some (.iload_n 3, (0, 0, 0, 0)) := by decide +kernel
theorem s_X4_minutesThrough_177 {ca : Nat → List Value → tM → tO} {M : tM} {a0 a1 a2 a4 : Option Value} {x : Int32} {S : List Value} : rn ca C_X4_minutesThrough 177 [a0, a1, a2, some (.int x), a4] S M = rn ca C_X4_minutesThrough 178 [a0, a1, a2, some (.int x), a4] (.int x :: S) M := (rn_at k_X4_minutesThrough_177).trans rfl
theorem k_X4_minutesThrough_178 : lk 178 C_X4_minutesThrough = some (.invokestatic 91, (31, 2, 0, 671)) := by decide +kernel
theorem s_X4_minutesThrough_178 {ca : Nat → List Value → tM → tO} {M : tM} {L : tL} {v1 v2 : Value} : rn ca C_X4_minutesThrough 178 L [v2, v1] M = rnk ca C_X4_minutesThrough 181 L [] (ca m_X4_dividedUpward [v1, v2] M) := (rn_at k_X4_minutesThrough_178).trans rfl
theorem k_X4_minutesThrough_181 : lk 181 C_X4_minutesThrough = some (.ireturn, (0, 0, 0, 0)) := by decide +kernel
theorem s_X4_minutesThrough_181 {ca : Nat → List Value → tM → tO} {M : tM} {L : tL} {x : Int32} : rn ca C_X4_minutesThrough 181 L [.int x] M = some (some (.int x), M) := (rn_at k_X4_minutesThrough_181).trans rfl
theorem k_X4_dividedUpward_0 : lk 0 C_X4_dividedUpward = some (.iload_n 1, (0, 0, 0, 0)) := by decide +kernel
theorem s_X4_dividedUpward_0 {ca : Nat → List Value → tM → tO} {M : tM} {a0 : Option Value} {x : Int32} {S : List Value} : rn ca C_X4_dividedUpward 0 [a0, some (.int x)] S M = rn ca C_X4_dividedUpward 1 [a0, some (.int x)] (.int x :: S) M := (rn_at k_X4_dividedUpward_0).trans rfl
theorem k_X4_dividedUpward_1 : lk 1 C_X4_dividedUpward = some (.ifCond .le 13, (14, 0, 0, 0)) := by decide +kernel
theorem s_X4_dividedUpward_1 {ca : Nat → List Value → tM → tO} {M : tM} {L : tL} {x : Int32} {S : List Value} : rn ca C_X4_dividedUpward 1 L (.int x :: S) M = if x ≤ iI 0 then rn ca C_X4_dividedUpward 14 L S M else rn ca C_X4_dividedUpward 4 L S M := (rn_at k_X4_dividedUpward_1).trans rnx_ite
theorem k_X4_dividedUpward_4 : lk 4 C_X4_dividedUpward = some (.iload_n 0, (0, 0, 0, 0)) := by decide +kernel
theorem s_X4_dividedUpward_4 {ca : Nat → List Value → tM → tO} {M : tM} {a1 : Option Value} {x : Int32} {S : List Value} : rn ca C_X4_dividedUpward 4 [some (.int x), a1] S M = rn ca C_X4_dividedUpward 5 [some (.int x), a1] (.int x :: S) M := (rn_at k_X4_dividedUpward_4).trans rfl
theorem k_X4_dividedUpward_5 : lk 5 C_X4_dividedUpward = some (.iload_n 1, (0, 0, 0, 0)) := by decide +kernel
theorem s_X4_dividedUpward_5 {ca : Nat → List Value → tM → tO} {M : tM} {a0 : Option Value} {x : Int32} {S : List Value} : rn ca C_X4_dividedUpward 5 [a0, some (.int x)] S M = rn ca C_X4_dividedUpward 6 [a0, some (.int x)] (.int x :: S) M := (rn_at k_X4_dividedUpward_5).trans rfl
theorem k_X4_dividedUpward_6 : lk 6 C_X4_dividedUpward = some (.iadd, (0, 0, 0, 0)) := by decide +kernel
theorem s_X4_dividedUpward_6 {ca : Nat → List Value → tM → tO} {M : tM} {L : tL} {x y : Int32} {S : List Value} : rn ca C_X4_dividedUpward 6 L (.int y :: .int x :: S) M = rn ca C_X4_dividedUpward 7 L (.int (x + y) :: S) M := (rn_at k_X4_dividedUpward_6).trans rfl
theorem k_X4_dividedUpward_7 : lk 7 C_X4_dividedUpward = some (.iconst 1, (0, 0, 0, 0)) := by decide +kernel
theorem s_X4_dividedUpward_7 {ca : Nat → List Value → tM → tO} {M : tM} {L : tL} {S : List Value} : rn ca C_X4_dividedUpward 7 L S M = rn ca C_X4_dividedUpward 8 L (.int (iI 1) :: S) M := (rn_at k_X4_dividedUpward_7).trans rfl
theorem k_X4_dividedUpward_8 : lk 8 C_X4_dividedUpward = some (.isub, (0, 0, 0, 0)) := by decide +kernel
theorem s_X4_dividedUpward_8 {ca : Nat → List Value → tM → tO} {M : tM} {L : tL} {x y : Int32} {S : List Value} : rn ca C_X4_dividedUpward 8 L (.int y :: .int x :: S) M = rn ca C_X4_dividedUpward 9 L (.int (x - y) :: S) M := (rn_at k_X4_dividedUpward_8).trans rfl
theorem k_X4_dividedUpward_9 : lk 9 C_X4_dividedUpward = some (.iload_n 1, (0, 0, 0, 0)) := by decide +kernel
theorem s_X4_dividedUpward_9 {ca : Nat → List Value → tM → tO} {M : tM} {a0 : Option Value} {x : Int32} {S : List Value} : rn ca C_X4_dividedUpward 9 [a0, some (.int x)] S M = rn ca C_X4_dividedUpward 10 [a0, some (.int x)] (.int x :: S) M := (rn_at k_X4_dividedUpward_9).trans rfl
theorem k_X4_dividedUpward_10 : lk 10 C_X4_dividedUpward = some (.idiv, (0, 0, 0, 0)) := by decide +kernel
theorem s_X4_dividedUpward_10 {ca : Nat → List Value → tM → tO} {M : tM} {L : tL} {x y : Int32} {S : List Value} : rn ca C_X4_dividedUpward 10 L (.int y :: .int x :: S) M = if y = iI 0 then none else rn ca C_X4_dividedUpward 11 L (.int (x / y) :: S) M := (rn_at k_X4_dividedUpward_10).trans rnx_ite
theorem k_X4_dividedUpward_11 : lk 11 C_X4_dividedUpward = some (.goto 6, (17, 0, 0, 0)) := by decide +kernel
theorem s_X4_dividedUpward_11 {ca : Nat → List Value → tM → tO} {M : tM} {L : tL} {S : List Value} : rn ca C_X4_dividedUpward 11 L S M = rn ca C_X4_dividedUpward 17 L S M := (rn_at k_X4_dividedUpward_11).trans rfl
theorem k_X4_dividedUpward_14 : lk 14 C_X4_dividedUpward = some (.sipush 9999, (0, 0, 0, 0)) := by decide +kernel
theorem s_X4_dividedUpward_14 {ca : Nat → List Value → tM → tO} {M : tM} {L : tL} {S : List Value} : rn ca C_X4_dividedUpward 14 L S M = rn ca C_X4_dividedUpward 17 L (.int (iI 9999) :: S) M := (rn_at k_X4_dividedUpward_14).trans rfl
theorem k_X4_dividedUpward_17 : lk 17 C_X4_dividedUpward = some (.ireturn, (0, 0, 0, 0)) := by decide +kernel
theorem s_X4_dividedUpward_17 {ca : Nat → List Value → tM → tO} {M : tM} {L : tL} {x : Int32} : rn ca C_X4_dividedUpward 17 L [.int x] M = some (some (.int x), M) := (rn_at k_X4_dividedUpward_17).trans rfl
theorem k_X4_mayGo_0 : lk 0 C_X4_mayGo = some (.aload_n 0, (0, 0, 0, 0)) := by decide +kernel
theorem s_X4_mayGo_0 {ca : Nat → List Value → tM → tO} {M : tM} {a1 a2 a3 : Option Value} {x : Nat} {S : List Value} : rn ca C_X4_mayGo 0 [some (.ref x), a1, a2, a3] S M = rn ca C_X4_mayGo 1 [some (.ref x), a1, a2, a3] (.ref x :: S) M := (rn_at k_X4_mayGo_0).trans rfl
theorem k_X4_mayGo_1 : lk 1 C_X4_mayGo = some (.iload_n 1, (0, 0, 0, 0)) := by decide +kernel
theorem s_X4_mayGo_1 {ca : Nat → List Value → tM → tO} {M : tM} {a0 a2 a3 : Option Value} {x : Int32} {S : List Value} : rn ca C_X4_mayGo 1 [a0, some (.int x), a2, a3] S M = rn ca C_X4_mayGo 2 [a0, some (.int x), a2, a3] (.int x :: S) M := (rn_at k_X4_mayGo_1).trans rfl
theorem k_X4_mayGo_2 : lk 2 C_X4_mayGo = some (.invokevirtual 85, (20, 1, 4, 670)) := by decide +kernel
theorem s_X4_mayGo_2 {ca : Nat → List Value → tM → tO} {M : tM} {L : tL} {v1 : Value} {b : Nat} : rn ca C_X4_mayGo 2 L [v1, .ref b] M = if clsO b = some 4 then rnk ca C_X4_mayGo 5 L [] (ca m_X4_hasCapsule [.ref b, v1] M) else none := (rn_at k_X4_mayGo_2).trans rnx_ite
theorem k_X4_mayGo_5 : lk 5 C_X4_mayGo = some (.ifCond .eq 11, (16, 0, 0, 0)) := by decide +kernel
theorem s_X4_mayGo_5 {ca : Nat → List Value → tM → tO} {M : tM} {L : tL} {x : Int32} {S : List Value} : rn ca C_X4_mayGo 5 L (.int x :: S) M = if x = iI 0 then rn ca C_X4_mayGo 16 L S M else rn ca C_X4_mayGo 8 L S M := (rn_at k_X4_mayGo_5).trans rnx_ite
theorem k_X4_mayGo_8 : lk 8 C_X4_mayGo = some (.aload_n 0, (0, 0, 0, 0)) := by decide +kernel
theorem s_X4_mayGo_8 {ca : Nat → List Value → tM → tO} {M : tM} {a1 a2 a3 : Option Value} {x : Nat} {S : List Value} : rn ca C_X4_mayGo 8 [some (.ref x), a1, a2, a3] S M = rn ca C_X4_mayGo 9 [some (.ref x), a1, a2, a3] (.ref x :: S) M := (rn_at k_X4_mayGo_8).trans rfl
theorem k_X4_mayGo_9 : lk 9 C_X4_mayGo = some (.iload_n 2, (0, 0, 0, 0)) := by decide +kernel
theorem s_X4_mayGo_9 {ca : Nat → List Value → tM → tO} {M : tM} {a0 a1 a3 : Option Value} {x : Int32} {S : List Value} : rn ca C_X4_mayGo 9 [a0, a1, some (.int x), a3] S M = rn ca C_X4_mayGo 10 [a0, a1, some (.int x), a3] (.int x :: S) M := (rn_at k_X4_mayGo_9).trans rfl
theorem k_X4_mayGo_10 : lk 10 C_X4_mayGo = some (.invokevirtual 75, (19, 1, 4, 388)) := by decide +kernel
theorem s_X4_mayGo_10 {ca : Nat → List Value → tM → tO} {M : tM} {L : tL} {v1 : Value} {b : Nat} : rn ca C_X4_mayGo 10 L [v1, .ref b] M = if clsO b = some 4 then rnk ca C_X4_mayGo 13 L [] (ca m_X4_hasTube [.ref b, v1] M) else none := (rn_at k_X4_mayGo_10).trans rnx_ite
theorem k_X4_mayGo_13 : lk 13 C_X4_mayGo = some (.ifCond .ne 5, (18, 0, 0, 0)) := by decide +kernel
theorem s_X4_mayGo_13 {ca : Nat → List Value → tM → tO} {M : tM} {L : tL} {x : Int32} {S : List Value} : rn ca C_X4_mayGo 13 L (.int x :: S) M = if ¬ x = iI 0 then rn ca C_X4_mayGo 18 L S M else rn ca C_X4_mayGo 16 L S M := (rn_at k_X4_mayGo_13).trans rnx_ite
theorem k_X4_mayGo_16 : lk 16 C_X4_mayGo = some (.iconst 0, (0, 0, 0, 0)) := by decide +kernel
theorem s_X4_mayGo_16 {ca : Nat → List Value → tM → tO} {M : tM} {L : tL} {S : List Value} : rn ca C_X4_mayGo 16 L S M = rn ca C_X4_mayGo 17 L (.int (iI 0) :: S) M := (rn_at k_X4_mayGo_16).trans rfl
theorem k_X4_mayGo_17 : lk 17 C_X4_mayGo = some (.ireturn, (1, 0, 0, 0)) := by decide +kernel
theorem s_X4_mayGo_17 {ca : Nat → List Value → tM → tO} {M : tM} {L : tL} {x : Int32} : rn ca C_X4_mayGo 17 L [.int x] M = if x = iI 0 ∨ x = iI 1 then some (some (.int x), M) else none := (rn_at k_X4_mayGo_17).trans rnx_ite
theorem k_X4_mayGo_18 : lk 18 C_X4_mayGo = some (.aload_n 0, (0, 0, 0, 0)) := by decide +kernel
theorem s_X4_mayGo_18 {ca : Nat → List Value → tM → tO} {M : tM} {a1 a2 a3 : Option Value} {x : Nat} {S : List Value} : rn ca C_X4_mayGo 18 [some (.ref x), a1, a2, a3] S M = rn ca C_X4_mayGo 19 [some (.ref x), a1, a2, a3] (.ref x :: S) M := (rn_at k_X4_mayGo_18).trans rfl
theorem k_X4_mayGo_19 : lk 19 C_X4_mayGo = some (.getfield 40, (4, 9, 0, 71)) := by decide +kernel
theorem s_X4_mayGo_19 {ca : Nat → List Value → tM → tO} {M : tM} {L : tL} {b : Nat} {S : List Value} : rn ca C_X4_mayGo 19 L (.ref b :: S) M = if clsO b = some 4 then rn ca C_X4_mayGo 22 L (fv M b 9 :: S) M else none := (rn_at k_X4_mayGo_19).trans rnx_ite
theorem k_X4_mayGo_22 : lk 22 C_X4_mayGo = some (.iload_n 1, (0, 0, 0, 0)) := by decide +kernel
theorem s_X4_mayGo_22 {ca : Nat → List Value → tM → tO} {M : tM} {a0 a2 a3 : Option Value} {x : Int32} {S : List Value} : rn ca C_X4_mayGo 22 [a0, some (.int x), a2, a3] S M = rn ca C_X4_mayGo 23 [a0, some (.int x), a2, a3] (.int x :: S) M := (rn_at k_X4_mayGo_22).trans rfl
theorem k_X4_mayGo_23 : lk 23 C_X4_mayGo = some (.iaload, (0, 0, 0, 0)) := by decide +kernel
theorem s_X4_mayGo_23 {ca : Nat → List Value → tM → tO} {M : tM} {L : tL} {a : Nat} {i : Int32} {S : List Value} : rn ca C_X4_mayGo 23 L (.int i :: .ref a :: S) M = if (akind a = 0 ∨ akind a = 6 ∨ akind a = 7) ∧ inb i (alen M a) then rn ca C_X4_mayGo 24 L (.int (M.1 a i.toInt.toNat) :: S) M else none := (rn_at k_X4_mayGo_23).trans rnx_ite
theorem k_X4_mayGo_24 : lk 24 C_X4_mayGo = some (.iconst 5, (0, 0, 0, 0)) := by decide +kernel
theorem s_X4_mayGo_24 {ca : Nat → List Value → tM → tO} {M : tM} {L : tL} {S : List Value} : rn ca C_X4_mayGo 24 L S M = rn ca C_X4_mayGo 25 L (.int (iI 5) :: S) M := (rn_at k_X4_mayGo_24).trans rfl
theorem k_X4_mayGo_25 : lk 25 C_X4_mayGo = some (.if_icmp .ne 5, (30, 0, 0, 0)) := by decide +kernel
theorem s_X4_mayGo_25 {ca : Nat → List Value → tM → tO} {M : tM} {L : tL} {x y : Int32} {S : List Value} : rn ca C_X4_mayGo 25 L (.int y :: .int x :: S) M = if ¬ x = y then rn ca C_X4_mayGo 30 L S M else rn ca C_X4_mayGo 28 L S M := (rn_at k_X4_mayGo_25).trans rnx_ite
theorem k_X4_mayGo_28 : lk 28 C_X4_mayGo = some (.iconst 1, (0, 0, 0, 0)) := by decide +kernel
theorem s_X4_mayGo_28 {ca : Nat → List Value → tM → tO} {M : tM} {L : tL} {S : List Value} : rn ca C_X4_mayGo 28 L S M = rn ca C_X4_mayGo 29 L (.int (iI 1) :: S) M := (rn_at k_X4_mayGo_28).trans rfl
theorem k_X4_mayGo_29 : lk 29 C_X4_mayGo = some (.ireturn, (1, 0, 0, 0)) := by decide +kernel
theorem s_X4_mayGo_29 {ca : Nat → List Value → tM → tO} {M : tM} {L : tL} {x : Int32} : rn ca C_X4_mayGo 29 L [.int x] M = if x = iI 0 ∨ x = iI 1 then some (some (.int x), M) else none := (rn_at k_X4_mayGo_29).trans rnx_ite
theorem k_X4_mayGo_30 : lk 30 C_X4_mayGo = some (.aload_n 0, (0, 0, 0, 0)) := by decide +kernel
theorem s_X4_mayGo_30 {ca : Nat → List Value → tM → tO} {M : tM} {a1 a2 a3 : Option Value} {x : Nat} {S : List Value} : rn ca C_X4_mayGo 30 [some (.ref x), a1, a2, a3] S M = rn ca C_X4_mayGo 31 [some (.ref x), a1, a2, a3] (.ref x :: S) M := (rn_at k_X4_mayGo_30).trans rfl
theorem k_X4_mayGo_31 : lk 31 C_X4_mayGo = some (.getfield 34, (4, 7, 0, 69)) := by decide +kernel
theorem s_X4_mayGo_31 {ca : Nat → List Value → tM → tO} {M : tM} {L : tL} {b : Nat} {S : List Value} : rn ca C_X4_mayGo 31 L (.ref b :: S) M = if clsO b = some 4 then rn ca C_X4_mayGo 34 L (fv M b 7 :: S) M else none := (rn_at k_X4_mayGo_31).trans rnx_ite
theorem k_X4_mayGo_34 : lk 34 C_X4_mayGo = some (.iconst 1, (0, 0, 0, 0)) := by decide +kernel
theorem s_X4_mayGo_34 {ca : Nat → List Value → tM → tO} {M : tM} {L : tL} {S : List Value} : rn ca C_X4_mayGo 34 L S M = rn ca C_X4_mayGo 35 L (.int (iI 1) :: S) M := (rn_at k_X4_mayGo_34).trans rfl
theorem k_X4_mayGo_35 : lk 35 C_X4_mayGo = some (.iload_n 2, (0, 0, 0, 0)) := by decide +kernel
theorem s_X4_mayGo_35 {ca : Nat → List Value → tM → tO} {M : tM} {a0 a1 a3 : Option Value} {x : Int32} {S : List Value} : rn ca C_X4_mayGo 35 [a0, a1, some (.int x), a3] S M = rn ca C_X4_mayGo 36 [a0, a1, some (.int x), a3] (.int x :: S) M := (rn_at k_X4_mayGo_35).trans rfl
theorem k_X4_mayGo_36 : lk 36 C_X4_mayGo = some (.ishl, (0, 0, 0, 0)) := by decide +kernel
theorem s_X4_mayGo_36 {ca : Nat → List Value → tM → tO} {M : tM} {L : tL} {x y : Int32} {S : List Value} : rn ca C_X4_mayGo 36 L (.int y :: .int x :: S) M = rn ca C_X4_mayGo 37 L (.int (x <<< (y &&& 31)) :: S) M := (rn_at k_X4_mayGo_36).trans rfl
theorem k_X4_mayGo_37 : lk 37 C_X4_mayGo = some (.iand, (0, 0, 0, 0)) := by decide +kernel
theorem s_X4_mayGo_37 {ca : Nat → List Value → tM → tO} {M : tM} {L : tL} {x y : Int32} {S : List Value} : rn ca C_X4_mayGo 37 L (.int y :: .int x :: S) M = rn ca C_X4_mayGo 38 L (.int (x &&& y) :: S) M := (rn_at k_X4_mayGo_37).trans rfl
theorem k_X4_mayGo_38 : lk 38 C_X4_mayGo = some (.ifCond .ne 18, (56, 0, 0, 0)) := by decide +kernel
theorem s_X4_mayGo_38 {ca : Nat → List Value → tM → tO} {M : tM} {L : tL} {x : Int32} {S : List Value} : rn ca C_X4_mayGo 38 L (.int x :: S) M = if ¬ x = iI 0 then rn ca C_X4_mayGo 56 L S M else rn ca C_X4_mayGo 41 L S M := (rn_at k_X4_mayGo_38).trans rnx_ite
theorem k_X4_mayGo_41 : lk 41 C_X4_mayGo = some (.aload_n 0, (0, 0, 0, 0)) := by decide +kernel
theorem s_X4_mayGo_41 {ca : Nat → List Value → tM → tO} {M : tM} {a1 a2 a3 : Option Value} {x : Nat} {S : List Value} : rn ca C_X4_mayGo 41 [some (.ref x), a1, a2, a3] S M = rn ca C_X4_mayGo 42 [some (.ref x), a1, a2, a3] (.ref x :: S) M := (rn_at k_X4_mayGo_41).trans rfl
theorem k_X4_mayGo_42 : lk 42 C_X4_mayGo = some (.getfield 31, (4, 6, 0, 68)) := by decide +kernel
theorem s_X4_mayGo_42 {ca : Nat → List Value → tM → tO} {M : tM} {L : tL} {b : Nat} {S : List Value} : rn ca C_X4_mayGo 42 L (.ref b :: S) M = if clsO b = some 4 then rn ca C_X4_mayGo 45 L (fv M b 6 :: S) M else none := (rn_at k_X4_mayGo_42).trans rnx_ite
theorem k_X4_mayGo_45 : lk 45 C_X4_mayGo = some (.iload_n 2, (0, 0, 0, 0)) := by decide +kernel
theorem s_X4_mayGo_45 {ca : Nat → List Value → tM → tO} {M : tM} {a0 a1 a3 : Option Value} {x : Int32} {S : List Value} : rn ca C_X4_mayGo 45 [a0, a1, some (.int x), a3] S M = rn ca C_X4_mayGo 46 [a0, a1, some (.int x), a3] (.int x :: S) M := (rn_at k_X4_mayGo_45).trans rfl
theorem k_X4_mayGo_46 : lk 46 C_X4_mayGo = some (.iaload, (0, 0, 0, 0)) := by decide +kernel
theorem s_X4_mayGo_46 {ca : Nat → List Value → tM → tO} {M : tM} {L : tL} {a : Nat} {i : Int32} {S : List Value} : rn ca C_X4_mayGo 46 L (.int i :: .ref a :: S) M = if (akind a = 0 ∨ akind a = 6 ∨ akind a = 7) ∧ inb i (alen M a) then rn ca C_X4_mayGo 47 L (.int (M.1 a i.toInt.toNat) :: S) M else none := (rn_at k_X4_mayGo_46).trans rnx_ite
theorem k_X4_mayGo_47 : lk 47 C_X4_mayGo = some (.aload_n 0, (0, 0, 0, 0)) := by decide +kernel
theorem s_X4_mayGo_47 {ca : Nat → List Value → tM → tO} {M : tM} {a1 a2 a3 : Option Value} {x : Nat} {S : List Value} : rn ca C_X4_mayGo 47 [some (.ref x), a1, a2, a3] S M = rn ca C_X4_mayGo 48 [some (.ref x), a1, a2, a3] (.ref x :: S) M := (rn_at k_X4_mayGo_47).trans rfl
theorem k_X4_mayGo_48 : lk 48 C_X4_mayGo = some (.getfield 46, (4, 11, 0, 73)) := by decide +kernel
theorem s_X4_mayGo_48 {ca : Nat → List Value → tM → tO} {M : tM} {L : tL} {b : Nat} {S : List Value} : rn ca C_X4_mayGo 48 L (.ref b :: S) M = if clsO b = some 4 then rn ca C_X4_mayGo 51 L (fv M b 11 :: S) M else none := (rn_at k_X4_mayGo_48).trans rnx_ite
theorem k_X4_mayGo_51 : lk 51 C_X4_mayGo = some (.iload_n 1, (0, 0, 0, 0)) := by decide +kernel
theorem s_X4_mayGo_51 {ca : Nat → List Value → tM → tO} {M : tM} {a0 a2 a3 : Option Value} {x : Int32} {S : List Value} : rn ca C_X4_mayGo 51 [a0, some (.int x), a2, a3] S M = rn ca C_X4_mayGo 52 [a0, some (.int x), a2, a3] (.int x :: S) M := (rn_at k_X4_mayGo_51).trans rfl
theorem k_X4_mayGo_52 : lk 52 C_X4_mayGo = some (.iaload, (0, 0, 0, 0)) := by decide +kernel
theorem s_X4_mayGo_52 {ca : Nat → List Value → tM → tO} {M : tM} {L : tL} {a : Nat} {i : Int32} {S : List Value} : rn ca C_X4_mayGo 52 L (.int i :: .ref a :: S) M = if (akind a = 0 ∨ akind a = 6 ∨ akind a = 7) ∧ inb i (alen M a) then rn ca C_X4_mayGo 53 L (.int (M.1 a i.toInt.toNat) :: S) M else none := (rn_at k_X4_mayGo_52).trans rnx_ite
theorem k_X4_mayGo_53 : lk 53 C_X4_mayGo = some (.if_icmp .ge 5, (58, 0, 0, 0)) := by decide +kernel
theorem s_X4_mayGo_53 {ca : Nat → List Value → tM → tO} {M : tM} {L : tL} {x y : Int32} {S : List Value} : rn ca C_X4_mayGo 53 L (.int y :: .int x :: S) M = if y ≤ x then rn ca C_X4_mayGo 58 L S M else rn ca C_X4_mayGo 56 L S M := (rn_at k_X4_mayGo_53).trans rnx_ite
theorem k_X4_mayGo_56 : lk 56 C_X4_mayGo = some (.iconst 0, (0, 0, 0, 0)) := by decide +kernel
theorem s_X4_mayGo_56 {ca : Nat → List Value → tM → tO} {M : tM} {L : tL} {S : List Value} : rn ca C_X4_mayGo 56 L S M = rn ca C_X4_mayGo 57 L (.int (iI 0) :: S) M := (rn_at k_X4_mayGo_56).trans rfl
theorem k_X4_mayGo_57 : lk 57 C_X4_mayGo = some (.ireturn, (1, 0, 0, 0)) := by decide +kernel
theorem s_X4_mayGo_57 {ca : Nat → List Value → tM → tO} {M : tM} {L : tL} {x : Int32} : rn ca C_X4_mayGo 57 L [.int x] M = if x = iI 0 ∨ x = iI 1 then some (some (.int x), M) else none := (rn_at k_X4_mayGo_57).trans rnx_ite
theorem k_X4_mayGo_58 : lk 58 C_X4_mayGo = some (.iload_n 3, (0, 0, 0, 0)) := by decide +kernel
theorem s_X4_mayGo_58 {ca : Nat → List Value → tM → tO} {M : tM} {a0 a1 a2 : Option Value} {x : Int32} {S : List Value} : rn ca C_X4_mayGo 58 [a0, a1, a2, some (.int x)] S M = rn ca C_X4_mayGo 59 [a0, a1, a2, some (.int x)] (.int x :: S) M := (rn_at k_X4_mayGo_58).trans rfl
theorem k_X4_mayGo_59 : lk 59 C_X4_mayGo = some (.ifCond .ne 13, (72, 0, 0, 0)) := by decide +kernel
theorem s_X4_mayGo_59 {ca : Nat → List Value → tM → tO} {M : tM} {L : tL} {x : Int32} {S : List Value} : rn ca C_X4_mayGo 59 L (.int x :: S) M = if ¬ x = iI 0 then rn ca C_X4_mayGo 72 L S M else rn ca C_X4_mayGo 62 L S M := (rn_at k_X4_mayGo_59).trans rnx_ite
theorem k_X4_mayGo_62 : lk 62 C_X4_mayGo = some (.aload_n 0, (0, 0, 0, 0)) := by decide +kernel
theorem s_X4_mayGo_62 {ca : Nat → List Value → tM → tO} {M : tM} {a1 a2 a3 : Option Value} {x : Nat} {S : List Value} : rn ca C_X4_mayGo 62 [some (.ref x), a1, a2, a3] S M = rn ca C_X4_mayGo 63 [some (.ref x), a1, a2, a3] (.ref x :: S) M := (rn_at k_X4_mayGo_62).trans rfl
theorem k_X4_mayGo_63 : lk 63 C_X4_mayGo = some (.getfield 40, (4, 9, 0, 71)) := by decide +kernel
theorem s_X4_mayGo_63 {ca : Nat → List Value → tM → tO} {M : tM} {L : tL} {b : Nat} {S : List Value} : rn ca C_X4_mayGo 63 L (.ref b :: S) M = if clsO b = some 4 then rn ca C_X4_mayGo 66 L (fv M b 9 :: S) M else none := (rn_at k_X4_mayGo_63).trans rnx_ite
theorem k_X4_mayGo_66 : lk 66 C_X4_mayGo = some (.iload_n 1, (0, 0, 0, 0)) := by decide +kernel
theorem s_X4_mayGo_66 {ca : Nat → List Value → tM → tO} {M : tM} {a0 a2 a3 : Option Value} {x : Int32} {S : List Value} : rn ca C_X4_mayGo 66 [a0, some (.int x), a2, a3] S M = rn ca C_X4_mayGo 67 [a0, some (.int x), a2, a3] (.int x :: S) M := (rn_at k_X4_mayGo_66).trans rfl
theorem k_X4_mayGo_67 : lk 67 C_X4_mayGo = some (.iaload, (0, 0, 0, 0)) := by decide +kernel
theorem s_X4_mayGo_67 {ca : Nat → List Value → tM → tO} {M : tM} {L : tL} {a : Nat} {i : Int32} {S : List Value} : rn ca C_X4_mayGo 67 L (.int i :: .ref a :: S) M = if (akind a = 0 ∨ akind a = 6 ∨ akind a = 7) ∧ inb i (alen M a) then rn ca C_X4_mayGo 68 L (.int (M.1 a i.toInt.toNat) :: S) M else none := (rn_at k_X4_mayGo_67).trans rnx_ite
theorem k_X4_mayGo_68 : lk 68 C_X4_mayGo = some (.iconst 4, (0, 0, 0, 0)) := by decide +kernel
theorem s_X4_mayGo_68 {ca : Nat → List Value → tM → tO} {M : tM} {L : tL} {S : List Value} : rn ca C_X4_mayGo 68 L S M = rn ca C_X4_mayGo 69 L (.int (iI 4) :: S) M := (rn_at k_X4_mayGo_68).trans rfl
theorem k_X4_mayGo_69 : lk 69 C_X4_mayGo = some (.if_icmp .eq 7, (76, 0, 0, 0)) := by decide +kernel
theorem s_X4_mayGo_69 {ca : Nat → List Value → tM → tO} {M : tM} {L : tL} {x y : Int32} {S : List Value} : rn ca C_X4_mayGo 69 L (.int y :: .int x :: S) M = if x = y then rn ca C_X4_mayGo 76 L S M else rn ca C_X4_mayGo 72 L S M := (rn_at k_X4_mayGo_69).trans rnx_ite
theorem k_X4_mayGo_72 : lk 72 C_X4_mayGo = some (.iconst 1, (0, 0, 0, 0)) := by decide +kernel
theorem s_X4_mayGo_72 {ca : Nat → List Value → tM → tO} {M : tM} {L : tL} {S : List Value} : rn ca C_X4_mayGo 72 L S M = rn ca C_X4_mayGo 73 L (.int (iI 1) :: S) M := (rn_at k_X4_mayGo_72).trans rfl
theorem k_X4_mayGo_73 : lk 73 C_X4_mayGo = some (.goto 4, (77, 0, 0, 0)) := by decide +kernel
theorem s_X4_mayGo_73 {ca : Nat → List Value → tM → tO} {M : tM} {L : tL} {S : List Value} : rn ca C_X4_mayGo 73 L S M = rn ca C_X4_mayGo 77 L S M := (rn_at k_X4_mayGo_73).trans rfl
theorem k_X4_mayGo_76 : lk 76 C_X4_mayGo = some (.iconst 0, (0, 0, 0, 0)) := by decide +kernel
theorem s_X4_mayGo_76 {ca : Nat → List Value → tM → tO} {M : tM} {L : tL} {S : List Value} : rn ca C_X4_mayGo 76 L S M = rn ca C_X4_mayGo 77 L (.int (iI 0) :: S) M := (rn_at k_X4_mayGo_76).trans rfl
theorem k_X4_mayGo_77 : lk 77 C_X4_mayGo = some (.ireturn, (1, 0, 0, 0)) := by decide +kernel
theorem s_X4_mayGo_77 {ca : Nat → List Value → tM → tO} {M : tM} {L : tL} {x : Int32} : rn ca C_X4_mayGo 77 L [.int x] M = if x = iI 0 ∨ x = iI 1 then some (some (.int x), M) else none := (rn_at k_X4_mayGo_77).trans rnx_ite
theorem k_X4_goTo_0 : lk 0 C_X4_goTo = some (.aload_n 0, (0, 0, 0, 0)) := by decide +kernel
theorem s_X4_goTo_0 {ca : Nat → List Value → tM → tO} {M : tM} {a1 a2 a3 a4 : Option Value} {x : Nat} {S : List Value} : rn ca C_X4_goTo 0 [some (.ref x), a1, a2, a3, a4] S M = rn ca C_X4_goTo 1 [some (.ref x), a1, a2, a3, a4] (.ref x :: S) M := (rn_at k_X4_goTo_0).trans rfl
theorem k_X4_goTo_1 : lk 1 C_X4_goTo = some (.iload_n 1, (0, 0, 0, 0)) := by decide +kernel
theorem s_X4_goTo_1 {ca : Nat → List Value → tM → tO} {M : tM} {a0 a2 a3 a4 : Option Value} {x : Int32} {S : List Value} : rn ca C_X4_goTo 1 [a0, some (.int x), a2, a3, a4] S M = rn ca C_X4_goTo 2 [a0, some (.int x), a2, a3, a4] (.int x :: S) M := (rn_at k_X4_goTo_1).trans rfl
theorem k_X4_goTo_2 : lk 2 C_X4_goTo = some (.invokevirtual 85, (20, 1, 4, 670)) := by decide +kernel
theorem s_X4_goTo_2 {ca : Nat → List Value → tM → tO} {M : tM} {L : tL} {v1 : Value} {b : Nat} : rn ca C_X4_goTo 2 L [v1, .ref b] M = if clsO b = some 4 then rnk ca C_X4_goTo 5 L [] (ca m_X4_hasCapsule [.ref b, v1] M) else none := (rn_at k_X4_goTo_2).trans rnx_ite
theorem k_X4_goTo_5 : lk 5 C_X4_goTo = some (.ifCond .eq 11, (16, 0, 0, 0)) := by decide +kernel
theorem s_X4_goTo_5 {ca : Nat → List Value → tM → tO} {M : tM} {L : tL} {x : Int32} {S : List Value} : rn ca C_X4_goTo 5 L (.int x :: S) M = if x = iI 0 then rn ca C_X4_goTo 16 L S M else rn ca C_X4_goTo 8 L S M := (rn_at k_X4_goTo_5).trans rnx_ite
theorem k_X4_goTo_8 : lk 8 C_X4_goTo = some (.aload_n 0, (0, 0, 0, 0)) := by decide +kernel
theorem s_X4_goTo_8 {ca : Nat → List Value → tM → tO} {M : tM} {a1 a2 a3 a4 : Option Value} {x : Nat} {S : List Value} : rn ca C_X4_goTo 8 [some (.ref x), a1, a2, a3, a4] S M = rn ca C_X4_goTo 9 [some (.ref x), a1, a2, a3, a4] (.ref x :: S) M := (rn_at k_X4_goTo_8).trans rfl
theorem k_X4_goTo_9 : lk 9 C_X4_goTo = some (.iload_n 2, (0, 0, 0, 0)) := by decide +kernel
theorem s_X4_goTo_9 {ca : Nat → List Value → tM → tO} {M : tM} {a0 a1 a3 a4 : Option Value} {x : Int32} {S : List Value} : rn ca C_X4_goTo 9 [a0, a1, some (.int x), a3, a4] S M = rn ca C_X4_goTo 10 [a0, a1, some (.int x), a3, a4] (.int x :: S) M := (rn_at k_X4_goTo_9).trans rfl
theorem k_X4_goTo_10 : lk 10 C_X4_goTo = some (.invokevirtual 100, (18, 1, 4, 1080)) := by decide +kernel
theorem s_X4_goTo_10 {ca : Nat → List Value → tM → tO} {M : tM} {L : tL} {v1 : Value} {b : Nat} : rn ca C_X4_goTo 10 L [v1, .ref b] M = if clsO b = some 4 then rnk ca C_X4_goTo 13 L [] (ca m_X4_hasDesk [.ref b, v1] M) else none := (rn_at k_X4_goTo_10).trans rnx_ite
theorem k_X4_goTo_13 : lk 13 C_X4_goTo = some (.ifCond .ne 4, (17, 0, 0, 0)) := by decide +kernel
theorem s_X4_goTo_13 {ca : Nat → List Value → tM → tO} {M : tM} {L : tL} {x : Int32} {S : List Value} : rn ca C_X4_goTo 13 L (.int x :: S) M = if ¬ x = iI 0 then rn ca C_X4_goTo 17 L S M else rn ca C_X4_goTo 16 L S M := (rn_at k_X4_goTo_13).trans rnx_ite
theorem k_X4_goTo_16 : lk 16 C_X4_goTo = some (.return_, (0, 0, 0, 0)) := by decide +kernel
theorem s_X4_goTo_16 {ca : Nat → List Value → tM → tO} {M : tM} {L : tL} : rn ca C_X4_goTo 16 L [] M = some (none, M) := (rn_at k_X4_goTo_16).trans rfl
theorem k_X4_goTo_17 : lk 17 C_X4_goTo = some (.aload_n 0, (0, 0, 0, 0)) := by decide +kernel
theorem s_X4_goTo_17 {ca : Nat → List Value → tM → tO} {M : tM} {a1 a2 a3 a4 : Option Value} {x : Nat} {S : List Value} : rn ca C_X4_goTo 17 [some (.ref x), a1, a2, a3, a4] S M = rn ca C_X4_goTo 18 [some (.ref x), a1, a2, a3, a4] (.ref x :: S) M := (rn_at k_X4_goTo_17).trans rfl
theorem k_X4_goTo_18 : lk 18 C_X4_goTo = some (.getfield 49, (4, 12, 0, 74)) := by decide +kernel
theorem s_X4_goTo_18 {ca : Nat → List Value → tM → tO} {M : tM} {L : tL} {b : Nat} {S : List Value} : rn ca C_X4_goTo 18 L (.ref b :: S) M = if clsO b = some 4 then rn ca C_X4_goTo 21 L (fv M b 12 :: S) M else none := (rn_at k_X4_goTo_18).trans rnx_ite
theorem k_X4_goTo_21 : lk 21 C_X4_goTo = some (.iload_n 1, (0, 0, 0, 0)) := by decide +kernel
theorem s_X4_goTo_21 {ca : Nat → List Value → tM → tO} {M : tM} {a0 a2 a3 a4 : Option Value} {x : Int32} {S : List Value} : rn ca C_X4_goTo 21 [a0, some (.int x), a2, a3, a4] S M = rn ca C_X4_goTo 22 [a0, some (.int x), a2, a3, a4] (.int x :: S) M := (rn_at k_X4_goTo_21).trans rfl
theorem k_X4_goTo_22 : lk 22 C_X4_goTo = some (.iload_n 2, (0, 0, 0, 0)) := by decide +kernel
theorem s_X4_goTo_22 {ca : Nat → List Value → tM → tO} {M : tM} {a0 a1 a3 a4 : Option Value} {x : Int32} {S : List Value} : rn ca C_X4_goTo 22 [a0, a1, some (.int x), a3, a4] S M = rn ca C_X4_goTo 23 [a0, a1, some (.int x), a3, a4] (.int x :: S) M := (rn_at k_X4_goTo_22).trans rfl
theorem k_X4_goTo_23 : lk 23 C_X4_goTo = some (.iastore, (0, 0, 0, 0)) := by decide +kernel
theorem s_X4_goTo_23 {ca : Nat → List Value → tM → tO} {M : tM} {L : tL} {a : Nat} {i x : Int32} {S : List Value} : rn ca C_X4_goTo 23 L (.int x :: .int i :: .ref a :: S) M = if akind a = 0 ∧ inb i (alen M a) then rn ca C_X4_goTo 24 L S (sI M a i.toInt.toNat x) else none := (rn_at k_X4_goTo_23).trans rnx_ite
theorem k_X4_goTo_24 : lk 24 C_X4_goTo = some (.aload_n 0, (0, 0, 0, 0)) := by decide +kernel
theorem s_X4_goTo_24 {ca : Nat → List Value → tM → tO} {M : tM} {a1 a2 a3 a4 : Option Value} {x : Nat} {S : List Value} : rn ca C_X4_goTo 24 [some (.ref x), a1, a2, a3, a4] S M = rn ca C_X4_goTo 25 [some (.ref x), a1, a2, a3, a4] (.ref x :: S) M := (rn_at k_X4_goTo_24).trans rfl
theorem k_X4_goTo_25 : lk 25 C_X4_goTo = some (.dup, (0, 0, 0, 0)) := by decide +kernel
theorem s_X4_goTo_25 {ca : Nat → List Value → tM → tO} {M : tM} {L : tL} {x : Nat} {S : List Value} : rn ca C_X4_goTo 25 L (.ref x :: S) M = rn ca C_X4_goTo 26 L (.ref x :: .ref x :: S) M := (rn_at k_X4_goTo_25).trans rfl
theorem s_X4_goTo_25b {ca : Nat → List Value → tM → tO} {M : tM} {L : tL} {x : Int32} {S : List Value} : rn ca C_X4_goTo 25 L (.int x :: S) M = rn ca C_X4_goTo 26 L (.int x :: .int x :: S) M := (rn_at k_X4_goTo_25).trans rfl
theorem k_X4_goTo_26 : lk 26 C_X4_goTo = some (.getfield 55, (4, 14, 0, 76)) := by decide +kernel
theorem s_X4_goTo_26 {ca : Nat → List Value → tM → tO} {M : tM} {L : tL} {b : Nat} {S : List Value} : rn ca C_X4_goTo 26 L (.ref b :: S) M = if clsO b = some 4 then rn ca C_X4_goTo 29 L (fv M b 14 :: S) M else none := (rn_at k_X4_goTo_26).trans rnx_ite
theorem k_X4_goTo_29 : lk 29 C_X4_goTo = some (.iload_n 3, (0, 0, 0, 0)) := by decide +kernel
theorem s_X4_goTo_29 {ca : Nat → List Value → tM → tO} {M : tM} {a0 a1 a2 a4 : Option Value} {x : Int32} {S : List Value} : rn ca C_X4_goTo 29 [a0, a1, a2, some (.int x), a4] S M = rn ca C_X4_goTo 30 [a0, a1, a2, some (.int x), a4] (.int x :: S) M := (rn_at k_X4_goTo_29).trans rfl
theorem k_X4_goTo_30 : lk 30 C_X4_goTo = some (.iadd, (0, 0, 0, 0)) := by decide +kernel
theorem s_X4_goTo_30 {ca : Nat → List Value → tM → tO} {M : tM} {L : tL} {x y : Int32} {S : List Value} : rn ca C_X4_goTo 30 L (.int y :: .int x :: S) M = rn ca C_X4_goTo 31 L (.int (x + y) :: S) M := (rn_at k_X4_goTo_30).trans rfl
theorem k_X4_goTo_31 : lk 31 C_X4_goTo = some (.putfield 55, (4, 14, 0, 76)) := by decide +kernel
theorem s_X4_goTo_31 {ca : Nat → List Value → tM → tO} {M : tM} {L : tL} {b : Nat} {v : Int32} {S : List Value} : rn ca C_X4_goTo 31 L (.int v :: .ref b :: S) M = if clsO b = some 4 then rn ca C_X4_goTo 34 L S (sI M b 14 v) else none := (rn_at k_X4_goTo_31).trans rnx_ite
theorem k_X4_goTo_34 : lk 34 C_X4_goTo = some (.iload 4, (0, 0, 0, 0)) := by decide +kernel
theorem s_X4_goTo_34 {ca : Nat → List Value → tM → tO} {M : tM} {a0 a1 a2 a3 : Option Value} {x : Int32} {S : List Value} : rn ca C_X4_goTo 34 [a0, a1, a2, a3, some (.int x)] S M = rn ca C_X4_goTo 36 [a0, a1, a2, a3, some (.int x)] (.int x :: S) M := (rn_at k_X4_goTo_34).trans rfl
theorem k_X4_goTo_36 : lk 36 C_X4_goTo = some (.ifCond .eq 25, (61, 0, 0, 0)) := by decide +kernel
theorem s_X4_goTo_36 {ca : Nat → List Value → tM → tO} {M : tM} {L : tL} {x : Int32} {S : List Value} : rn ca C_X4_goTo 36 L (.int x :: S) M = if x = iI 0 then rn ca C_X4_goTo 61 L S M else rn ca C_X4_goTo 39 L S M := (rn_at k_X4_goTo_36).trans rnx_ite
theorem k_X4_goTo_39 : lk 39 C_X4_goTo = some (.aload_n 0, (0, 0, 0, 0)) := by decide +kernel
theorem s_X4_goTo_39 {ca : Nat → List Value → tM → tO} {M : tM} {a1 a2 a3 a4 : Option Value} {x : Nat} {S : List Value} : rn ca C_X4_goTo 39 [some (.ref x), a1, a2, a3, a4] S M = rn ca C_X4_goTo 40 [some (.ref x), a1, a2, a3, a4] (.ref x :: S) M := (rn_at k_X4_goTo_39).trans rfl
theorem k_X4_goTo_40 : lk 40 C_X4_goTo = some (.getfield 15, (4, 1, 0, 63)) := by decide +kernel
theorem s_X4_goTo_40 {ca : Nat → List Value → tM → tO} {M : tM} {L : tL} {b : Nat} {S : List Value} : rn ca C_X4_goTo 40 L (.ref b :: S) M = if clsO b = some 4 then rn ca C_X4_goTo 43 L (fv M b 1 :: S) M else none := (rn_at k_X4_goTo_40).trans rnx_ite
theorem k_X4_goTo_43 : lk 43 C_X4_goTo = some (.iload_n 2, (0, 0, 0, 0)) := by decide +kernel
theorem s_X4_goTo_43 {ca : Nat → List Value → tM → tO} {M : tM} {a0 a1 a3 a4 : Option Value} {x : Int32} {S : List Value} : rn ca C_X4_goTo 43 [a0, a1, some (.int x), a3, a4] S M = rn ca C_X4_goTo 44 [a0, a1, some (.int x), a3, a4] (.int x :: S) M := (rn_at k_X4_goTo_43).trans rfl
theorem k_X4_goTo_44 : lk 44 C_X4_goTo = some (.iaload, (0, 0, 0, 0)) := by decide +kernel
theorem s_X4_goTo_44 {ca : Nat → List Value → tM → tO} {M : tM} {L : tL} {a : Nat} {i : Int32} {S : List Value} : rn ca C_X4_goTo 44 L (.int i :: .ref a :: S) M = if (akind a = 0 ∨ akind a = 6 ∨ akind a = 7) ∧ inb i (alen M a) then rn ca C_X4_goTo 45 L (.int (M.1 a i.toInt.toNat) :: S) M else none := (rn_at k_X4_goTo_44).trans rnx_ite
theorem k_X4_goTo_45 : lk 45 C_X4_goTo = some (.sipush 999, (0, 0, 0, 0)) := by decide +kernel
theorem s_X4_goTo_45 {ca : Nat → List Value → tM → tO} {M : tM} {L : tL} {S : List Value} : rn ca C_X4_goTo 45 L S M = rn ca C_X4_goTo 48 L (.int (iI 999) :: S) M := (rn_at k_X4_goTo_45).trans rfl
theorem k_X4_goTo_48 : lk 48 C_X4_goTo = some (.if_icmp .ge 13, (61, 0, 0, 0)) := by decide +kernel
theorem s_X4_goTo_48 {ca : Nat → List Value → tM → tO} {M : tM} {L : tL} {x y : Int32} {S : List Value} : rn ca C_X4_goTo 48 L (.int y :: .int x :: S) M = if y ≤ x then rn ca C_X4_goTo 61 L S M else rn ca C_X4_goTo 51 L S M := (rn_at k_X4_goTo_48).trans rnx_ite
theorem k_X4_goTo_51 : lk 51 C_X4_goTo = some (.aload_n 0, (0, 0, 0, 0)) := by decide +kernel
theorem s_X4_goTo_51 {ca : Nat → List Value → tM → tO} {M : tM} {a1 a2 a3 a4 : Option Value} {x : Nat} {S : List Value} : rn ca C_X4_goTo 51 [some (.ref x), a1, a2, a3, a4] S M = rn ca C_X4_goTo 52 [some (.ref x), a1, a2, a3, a4] (.ref x :: S) M := (rn_at k_X4_goTo_51).trans rfl
theorem k_X4_goTo_52 : lk 52 C_X4_goTo = some (.getfield 15, (4, 1, 0, 63)) := by decide +kernel
theorem s_X4_goTo_52 {ca : Nat → List Value → tM → tO} {M : tM} {L : tL} {b : Nat} {S : List Value} : rn ca C_X4_goTo 52 L (.ref b :: S) M = if clsO b = some 4 then rn ca C_X4_goTo 55 L (fv M b 1 :: S) M else none := (rn_at k_X4_goTo_52).trans rnx_ite
theorem k_X4_goTo_55 : lk 55 C_X4_goTo = some (.iload_n 2, (0, 0, 0, 0)) := by decide +kernel
theorem s_X4_goTo_55 {ca : Nat → List Value → tM → tO} {M : tM} {a0 a1 a3 a4 : Option Value} {x : Int32} {S : List Value} : rn ca C_X4_goTo 55 [a0, a1, some (.int x), a3, a4] S M = rn ca C_X4_goTo 56 [a0, a1, some (.int x), a3, a4] (.int x :: S) M := (rn_at k_X4_goTo_55).trans rfl
theorem k_X4_goTo_56 : lk 56 C_X4_goTo = some (.dup2, (0, 0, 0, 0)) := by decide +kernel
theorem s_X4_goTo_56 {ca : Nat → List Value → tM → tO} {M : tM} {L : tL} {x : Nat} {y : Int32} {S : List Value} : rn ca C_X4_goTo 56 L (.int y :: .ref x :: S) M = rn ca C_X4_goTo 57 L (.int y :: .ref x :: .int y :: .ref x :: S) M := (rn_at k_X4_goTo_56).trans rfl
theorem k_X4_goTo_57 : lk 57 C_X4_goTo = some (.iaload, (0, 0, 0, 0)) := by decide +kernel
theorem s_X4_goTo_57 {ca : Nat → List Value → tM → tO} {M : tM} {L : tL} {a : Nat} {i : Int32} {S : List Value} : rn ca C_X4_goTo 57 L (.int i :: .ref a :: S) M = if (akind a = 0 ∨ akind a = 6 ∨ akind a = 7) ∧ inb i (alen M a) then rn ca C_X4_goTo 58 L (.int (M.1 a i.toInt.toNat) :: S) M else none := (rn_at k_X4_goTo_57).trans rnx_ite
theorem k_X4_goTo_58 : lk 58 C_X4_goTo = some (.iconst 1, (0, 0, 0, 0)) := by decide +kernel
theorem s_X4_goTo_58 {ca : Nat → List Value → tM → tO} {M : tM} {L : tL} {S : List Value} : rn ca C_X4_goTo 58 L S M = rn ca C_X4_goTo 59 L (.int (iI 1) :: S) M := (rn_at k_X4_goTo_58).trans rfl
theorem k_X4_goTo_59 : lk 59 C_X4_goTo = some (.iadd, (0, 0, 0, 0)) := by decide +kernel
theorem s_X4_goTo_59 {ca : Nat → List Value → tM → tO} {M : tM} {L : tL} {x y : Int32} {S : List Value} : rn ca C_X4_goTo 59 L (.int y :: .int x :: S) M = rn ca C_X4_goTo 60 L (.int (x + y) :: S) M := (rn_at k_X4_goTo_59).trans rfl
theorem k_X4_goTo_60 : lk 60 C_X4_goTo = some (.iastore, (0, 0, 0, 0)) := by decide +kernel
theorem s_X4_goTo_60 {ca : Nat → List Value → tM → tO} {M : tM} {L : tL} {a : Nat} {i x : Int32} {S : List Value} : rn ca C_X4_goTo 60 L (.int x :: .int i :: .ref a :: S) M = if akind a = 0 ∧ inb i (alen M a) then rn ca C_X4_goTo 61 L S (sI M a i.toInt.toNat x) else none := (rn_at k_X4_goTo_60).trans rnx_ite
theorem k_X4_goTo_61 : lk 61 C_X4_goTo = some (.return_, (0, 0, 0, 0)) := by decide +kernel
theorem s_X4_goTo_61 {ca : Nat → List Value → tM → tO} {M : tM} {L : tL} : rn ca C_X4_goTo 61 L [] M = some (none, M) := (rn_at k_X4_goTo_61).trans rfl
theorem k_X4_draw_0 : lk 0 C_X4_draw = some (.aload_n 0, (0, 0, 0, 0)) := by decide +kernel
theorem s_X4_draw_0 {ca : Nat → List Value → tM → tO} {M : tM} {a1 : Option Value} {x : Nat} {S : List Value} : rn ca C_X4_draw 0 [some (.ref x), a1] S M = rn ca C_X4_draw 1 [some (.ref x), a1] (.ref x :: S) M := (rn_at k_X4_draw_0).trans rfl
theorem k_X4_draw_1 : lk 1 C_X4_draw = some (.aload_n 0, (0, 0, 0, 0)) := by decide +kernel
theorem s_X4_draw_1 {ca : Nat → List Value → tM → tO} {M : tM} {a1 : Option Value} {x : Nat} {S : List Value} : rn ca C_X4_draw 1 [some (.ref x), a1] S M = rn ca C_X4_draw 2 [some (.ref x), a1] (.ref x :: S) M := (rn_at k_X4_draw_1).trans rfl
theorem k_X4_draw_2 : lk 2 C_X4_draw = some (.getfield 58, (4, 15, 0, 77)) := by decide +kernel
theorem s_X4_draw_2 {ca : Nat → List Value → tM → tO} {M : tM} {L : tL} {b : Nat} {S : List Value} : rn ca C_X4_draw 2 L (.ref b :: S) M = if clsO b = some 4 then rn ca C_X4_draw 5 L (fv M b 15 :: S) M else none := (rn_at k_X4_draw_2).trans rnx_ite
theorem k_X4_draw_5 : lk 5 C_X4_draw = some (.ldc 103, (0, 0, 1103515245, 1144)) := by decide +kernel
theorem s_X4_draw_5 {ca : Nat → List Value → tM → tO} {M : tM} {L : tL} {S : List Value} : rn ca C_X4_draw 5 L S M = rn ca C_X4_draw 7 L (.int (iI 1103515245) :: S) M := (rn_at k_X4_draw_5).trans rfl
theorem k_X4_draw_7 : lk 7 C_X4_draw = some (.imul, (0, 0, 0, 0)) := by decide +kernel
theorem s_X4_draw_7 {ca : Nat → List Value → tM → tO} {M : tM} {L : tL} {x y : Int32} {S : List Value} : rn ca C_X4_draw 7 L (.int y :: .int x :: S) M = rn ca C_X4_draw 8 L (.int (x * y) :: S) M := (rn_at k_X4_draw_7).trans rfl
theorem k_X4_draw_8 : lk 8 C_X4_draw = some (.sipush 12345, (0, 0, 0, 0)) := by decide +kernel
theorem s_X4_draw_8 {ca : Nat → List Value → tM → tO} {M : tM} {L : tL} {S : List Value} : rn ca C_X4_draw 8 L S M = rn ca C_X4_draw 11 L (.int (iI 12345) :: S) M := (rn_at k_X4_draw_8).trans rfl
theorem k_X4_draw_11 : lk 11 C_X4_draw = some (.iadd, (0, 0, 0, 0)) := by decide +kernel
theorem s_X4_draw_11 {ca : Nat → List Value → tM → tO} {M : tM} {L : tL} {x y : Int32} {S : List Value} : rn ca C_X4_draw 11 L (.int y :: .int x :: S) M = rn ca C_X4_draw 12 L (.int (x + y) :: S) M := (rn_at k_X4_draw_11).trans rfl
theorem k_X4_draw_12 : lk 12 C_X4_draw = some (.putfield 58, (4, 15, 0, 77)) := by decide +kernel
theorem s_X4_draw_12 {ca : Nat → List Value → tM → tO} {M : tM} {L : tL} {b : Nat} {v : Int32} {S : List Value} : rn ca C_X4_draw 12 L (.int v :: .ref b :: S) M = if clsO b = some 4 then rn ca C_X4_draw 15 L S (sI M b 15 v) else none := (rn_at k_X4_draw_12).trans rnx_ite
theorem k_X4_draw_15 : lk 15 C_X4_draw = some (.iload_n 1, (0, 0, 0, 0)) := by decide +kernel
theorem s_X4_draw_15 {ca : Nat → List Value → tM → tO} {M : tM} {a0 : Option Value} {x : Int32} {S : List Value} : rn ca C_X4_draw 15 [a0, some (.int x)] S M = rn ca C_X4_draw 16 [a0, some (.int x)] (.int x :: S) M := (rn_at k_X4_draw_15).trans rfl
theorem k_X4_draw_16 : lk 16 C_X4_draw = some (.ifCond .le 15, (31, 0, 0, 0)) := by decide +kernel
theorem s_X4_draw_16 {ca : Nat → List Value → tM → tO} {M : tM} {L : tL} {x : Int32} {S : List Value} : rn ca C_X4_draw 16 L (.int x :: S) M = if x ≤ iI 0 then rn ca C_X4_draw 31 L S M else rn ca C_X4_draw 19 L S M := (rn_at k_X4_draw_16).trans rnx_ite
theorem k_X4_draw_19 : lk 19 C_X4_draw = some (.aload_n 0, (0, 0, 0, 0)) := by decide +kernel
theorem s_X4_draw_19 {ca : Nat → List Value → tM → tO} {M : tM} {a1 : Option Value} {x : Nat} {S : List Value} : rn ca C_X4_draw 19 [some (.ref x), a1] S M = rn ca C_X4_draw 20 [some (.ref x), a1] (.ref x :: S) M := (rn_at k_X4_draw_19).trans rfl
theorem k_X4_draw_20 : lk 20 C_X4_draw = some (.getfield 58, (4, 15, 0, 77)) := by decide +kernel
theorem s_X4_draw_20 {ca : Nat → List Value → tM → tO} {M : tM} {L : tL} {b : Nat} {S : List Value} : rn ca C_X4_draw 20 L (.ref b :: S) M = if clsO b = some 4 then rn ca C_X4_draw 23 L (fv M b 15 :: S) M else none := (rn_at k_X4_draw_20).trans rnx_ite
theorem k_X4_draw_23 : lk 23 C_X4_draw = some (.bipush 16, (0, 0, 0, 0)) := by decide +kernel
theorem s_X4_draw_23 {ca : Nat → List Value → tM → tO} {M : tM} {L : tL} {S : List Value} : rn ca C_X4_draw 23 L S M = rn ca C_X4_draw 25 L (.int (iI 16) :: S) M := (rn_at k_X4_draw_23).trans rfl
theorem k_X4_draw_25 : lk 25 C_X4_draw = some (.iushr, (0, 0, 0, 0)) := by decide +kernel
theorem s_X4_draw_25 {ca : Nat → List Value → tM → tO} {M : tM} {L : tL} {x y : Int32} {S : List Value} : rn ca C_X4_draw 25 L (.int y :: .int x :: S) M = rn ca C_X4_draw 26 L (.int (ius x y) :: S) M := (rn_at k_X4_draw_25).trans rfl
theorem k_X4_draw_26 : lk 26 C_X4_draw = some (.iload_n 1, (0, 0, 0, 0)) := by decide +kernel
theorem s_X4_draw_26 {ca : Nat → List Value → tM → tO} {M : tM} {a0 : Option Value} {x : Int32} {S : List Value} : rn ca C_X4_draw 26 [a0, some (.int x)] S M = rn ca C_X4_draw 27 [a0, some (.int x)] (.int x :: S) M := (rn_at k_X4_draw_26).trans rfl
theorem k_X4_draw_27 : lk 27 C_X4_draw = some (.irem, (0, 0, 0, 0)) := by decide +kernel
theorem s_X4_draw_27 {ca : Nat → List Value → tM → tO} {M : tM} {L : tL} {x y : Int32} {S : List Value} : rn ca C_X4_draw 27 L (.int y :: .int x :: S) M = if y = iI 0 then none else rn ca C_X4_draw 28 L (.int (irm x y) :: S) M := (rn_at k_X4_draw_27).trans rnx_ite
theorem k_X4_draw_28 : lk 28 C_X4_draw = some (.goto 4, (32, 0, 0, 0)) := by decide +kernel
theorem s_X4_draw_28 {ca : Nat → List Value → tM → tO} {M : tM} {L : tL} {S : List Value} : rn ca C_X4_draw 28 L S M = rn ca C_X4_draw 32 L S M := (rn_at k_X4_draw_28).trans rfl
theorem k_X4_draw_31 : lk 31 C_X4_draw = some (.iconst 0, (0, 0, 0, 0)) := by decide +kernel
theorem s_X4_draw_31 {ca : Nat → List Value → tM → tO} {M : tM} {L : tL} {S : List Value} : rn ca C_X4_draw 31 L S M = rn ca C_X4_draw 32 L (.int (iI 0) :: S) M := (rn_at k_X4_draw_31).trans rfl
theorem k_X4_draw_32 : lk 32 C_X4_draw = some (.ireturn, (0, 0, 0, 0)) := by decide +kernel
theorem s_X4_draw_32 {ca : Nat → List Value → tM → tO} {M : tM} {L : tL} {x : Int32} : rn ca C_X4_draw 32 L [.int x] M = some (some (.int x), M) := (rn_at k_X4_draw_32).trans rfl
theorem k_X4_signedTogether_0 : lk 0 C_X4_signedTogether = some (.iconst 0, (0, 0, 0, 0)) := by decide +kernel
theorem s_X4_signedTogether_0 {ca : Nat → List Value → tM → tO} {M : tM} {L : tL} {S : List Value} : rn ca C_X4_signedTogether 0 L S M = rn ca C_X4_signedTogether 1 L (.int (iI 0) :: S) M := (rn_at k_X4_signedTogether_0).trans rfl
theorem k_X4_signedTogether_1 : lk 1 C_X4_signedTogether = some (.istore_n 1, (0, 0, 0, 0)) := by decide +kernel
theorem s_X4_signedTogether_1 {ca : Nat → List Value → tM → tO} {M : tM} {a0 a1 a2 : Option Value} {x : Int32} {S : List Value} : rn ca C_X4_signedTogether 1 [a0, a1, a2] (.int x :: S) M = rn ca C_X4_signedTogether 2 [a0, some (.int x), a2] S M := (rn_at k_X4_signedTogether_1).trans rfl
theorem k_X4_signedTogether_2 : lk 2 C_X4_signedTogether = some (.iconst 0, (0, 0, 0, 0)) := by decide +kernel
theorem s_X4_signedTogether_2 {ca : Nat → List Value → tM → tO} {M : tM} {L : tL} {S : List Value} : rn ca C_X4_signedTogether 2 L S M = rn ca C_X4_signedTogether 3 L (.int (iI 0) :: S) M := (rn_at k_X4_signedTogether_2).trans rfl
theorem k_X4_signedTogether_3 : lk 3 C_X4_signedTogether = some (.istore_n 2, (0, 0, 0, 0)) := by decide +kernel
theorem s_X4_signedTogether_3 {ca : Nat → List Value → tM → tO} {M : tM} {a0 a1 a2 : Option Value} {x : Int32} {S : List Value} : rn ca C_X4_signedTogether 3 [a0, a1, a2] (.int x :: S) M = rn ca C_X4_signedTogether 4 [a0, a1, some (.int x)] S M := (rn_at k_X4_signedTogether_3).trans rfl
theorem k_X4_signedTogether_4 : lk 4 C_X4_signedTogether = some (.iload_n 2, (0, 0, 0, 0)) := by decide +kernel
theorem s_X4_signedTogether_4 {ca : Nat → List Value → tM → tO} {M : tM} {a0 a1 : Option Value} {x : Int32} {S : List Value} : rn ca C_X4_signedTogether 4 [a0, a1, some (.int x)] S M = rn ca C_X4_signedTogether 5 [a0, a1, some (.int x)] (.int x :: S) M := (rn_at k_X4_signedTogether_4).trans rfl
theorem k_X4_signedTogether_5 : lk 5 C_X4_signedTogether = some (.aload_n 0, (0, 0, 0, 0)) := by decide +kernel
theorem s_X4_signedTogether_5 {ca : Nat → List Value → tM → tO} {M : tM} {a1 a2 : Option Value} {x : Nat} {S : List Value} : rn ca C_X4_signedTogether 5 [some (.ref x), a1, a2] S M = rn ca C_X4_signedTogether 6 [some (.ref x), a1, a2] (.ref x :: S) M := (rn_at k_X4_signedTogether_5).trans rfl
theorem k_X4_signedTogether_6 : lk 6 C_X4_signedTogether = some (.getfield 9, (4, 0, 0, 62)) := by decide +kernel
theorem s_X4_signedTogether_6 {ca : Nat → List Value → tM → tO} {M : tM} {L : tL} {b : Nat} {S : List Value} : rn ca C_X4_signedTogether 6 L (.ref b :: S) M = if clsO b = some 4 then rn ca C_X4_signedTogether 9 L (fv M b 0 :: S) M else none := (rn_at k_X4_signedTogether_6).trans rnx_ite
theorem k_X4_signedTogether_9 : lk 9 C_X4_signedTogether = some (.if_icmp .ge 24, (33, 0, 0, 0)) := by decide +kernel
theorem s_X4_signedTogether_9 {ca : Nat → List Value → tM → tO} {M : tM} {L : tL} {x y : Int32} {S : List Value} : rn ca C_X4_signedTogether 9 L (.int y :: .int x :: S) M = if y ≤ x then rn ca C_X4_signedTogether 33 L S M else rn ca C_X4_signedTogether 12 L S M := (rn_at k_X4_signedTogether_9).trans rnx_ite
theorem k_X4_signedTogether_12 : lk 12 C_X4_signedTogether = some (.iload_n 2, (0, 0, 0, 0)) := by decide +kernel
theorem s_X4_signedTogether_12 {ca : Nat → List Value → tM → tO} {M : tM} {a0 a1 : Option Value} {x : Int32} {S : List Value} : rn ca C_X4_signedTogether 12 [a0, a1, some (.int x)] S M = rn ca C_X4_signedTogether 13 [a0, a1, some (.int x)] (.int x :: S) M := (rn_at k_X4_signedTogether_12).trans rfl
theorem k_X4_signedTogether_13 : lk 13 C_X4_signedTogether = some (.bipush 8, (0, 0, 0, 0)) := by decide +kernel
theorem s_X4_signedTogether_13 {ca : Nat → List Value → tM → tO} {M : tM} {L : tL} {S : List Value} : rn ca C_X4_signedTogether 13 L S M = rn ca C_X4_signedTogether 15 L (.int (iI 8) :: S) M := (rn_at k_X4_signedTogether_13).trans rfl
theorem k_X4_signedTogether_15 : lk 15 C_X4_signedTogether = some (.if_icmp .ge 18, (33, 0, 0, 0)) := by decide +kernel
theorem s_X4_signedTogether_15 {ca : Nat → List Value → tM → tO} {M : tM} {L : tL} {x y : Int32} {S : List Value} : rn ca C_X4_signedTogether 15 L (.int y :: .int x :: S) M = if y ≤ x then rn ca C_X4_signedTogether 33 L S M else rn ca C_X4_signedTogether 18 L S M := (rn_at k_X4_signedTogether_15).trans rnx_ite
theorem k_X4_signedTogether_18 : lk 18 C_X4_signedTogether = some (.iload_n 1, (0, 0, 0, 0)) := by decide +kernel
theorem s_X4_signedTogether_18 {ca : Nat → List Value → tM → tO} {M : tM} {a0 a2 : Option Value} {x : Int32} {S : List Value} : rn ca C_X4_signedTogether 18 [a0, some (.int x), a2] S M = rn ca C_X4_signedTogether 19 [a0, some (.int x), a2] (.int x :: S) M := (rn_at k_X4_signedTogether_18).trans rfl
theorem k_X4_signedTogether_19 : lk 19 C_X4_signedTogether = some (.aload_n 0, (0, 0, 0, 0)) := by decide +kernel
theorem s_X4_signedTogether_19 {ca : Nat → List Value → tM → tO} {M : tM} {a1 a2 : Option Value} {x : Nat} {S : List Value} : rn ca C_X4_signedTogether 19 [some (.ref x), a1, a2] S M = rn ca C_X4_signedTogether 20 [some (.ref x), a1, a2] (.ref x :: S) M := (rn_at k_X4_signedTogether_19).trans rfl
theorem k_X4_signedTogether_20 : lk 20 C_X4_signedTogether = some (.getfield 15, (4, 1, 0, 63)) := by decide +kernel
theorem s_X4_signedTogether_20 {ca : Nat → List Value → tM → tO} {M : tM} {L : tL} {b : Nat} {S : List Value} : rn ca C_X4_signedTogether 20 L (.ref b :: S) M = if clsO b = some 4 then rn ca C_X4_signedTogether 23 L (fv M b 1 :: S) M else none := (rn_at k_X4_signedTogether_20).trans rnx_ite
theorem k_X4_signedTogether_23 : lk 23 C_X4_signedTogether = some (.iload_n 2, (0, 0, 0, 0)) := by decide +kernel
theorem s_X4_signedTogether_23 {ca : Nat → List Value → tM → tO} {M : tM} {a0 a1 : Option Value} {x : Int32} {S : List Value} : rn ca C_X4_signedTogether 23 [a0, a1, some (.int x)] S M = rn ca C_X4_signedTogether 24 [a0, a1, some (.int x)] (.int x :: S) M := (rn_at k_X4_signedTogether_23).trans rfl
theorem k_X4_signedTogether_24 : lk 24 C_X4_signedTogether = some (.iaload, (0, 0, 0, 0)) := by decide +kernel
theorem s_X4_signedTogether_24 {ca : Nat → List Value → tM → tO} {M : tM} {L : tL} {a : Nat} {i : Int32} {S : List Value} : rn ca C_X4_signedTogether 24 L (.int i :: .ref a :: S) M = if (akind a = 0 ∨ akind a = 6 ∨ akind a = 7) ∧ inb i (alen M a) then rn ca C_X4_signedTogether 25 L (.int (M.1 a i.toInt.toNat) :: S) M else none := (rn_at k_X4_signedTogether_24).trans rnx_ite
theorem k_X4_signedTogether_25 : lk 25 C_X4_signedTogether = some (.iadd, (0, 0, 0, 0)) := by decide +kernel
theorem s_X4_signedTogether_25 {ca : Nat → List Value → tM → tO} {M : tM} {L : tL} {x y : Int32} {S : List Value} : rn ca C_X4_signedTogether 25 L (.int y :: .int x :: S) M = rn ca C_X4_signedTogether 26 L (.int (x + y) :: S) M := (rn_at k_X4_signedTogether_25).trans rfl
theorem k_X4_signedTogether_26 : lk 26 C_X4_signedTogether = some (.istore_n 1, (0, 0, 0, 0)) := by decide +kernel
theorem s_X4_signedTogether_26 {ca : Nat → List Value → tM → tO} {M : tM} {a0 a1 a2 : Option Value} {x : Int32} {S : List Value} : rn ca C_X4_signedTogether 26 [a0, a1, a2] (.int x :: S) M = rn ca C_X4_signedTogether 27 [a0, some (.int x), a2] S M := (rn_at k_X4_signedTogether_26).trans rfl
theorem k_X4_signedTogether_27 : lk 27 C_X4_signedTogether = some (.iinc 2 1, (0, 0, 0, 0)) := by decide +kernel
theorem s_X4_signedTogether_27 {ca : Nat → List Value → tM → tO} {M : tM} {a0 a1 : Option Value} {x : Int32} {S : List Value} : rn ca C_X4_signedTogether 27 [a0, a1, some (.int x)] S M = rn ca C_X4_signedTogether 30 [a0, a1, some (.int (x + iI 1))] S M := (rn_at k_X4_signedTogether_27).trans rfl
theorem k_X4_signedTogether_30 : lk 30 C_X4_signedTogether = some (.goto (-26), (4, 0, 0, 0)) := by decide +kernel
theorem s_X4_signedTogether_30 {ca : Nat → List Value → tM → tO} {M : tM} {L : tL} {S : List Value} : rn ca C_X4_signedTogether 30 L S M = rn ca C_X4_signedTogether 4 L S M := (rn_at k_X4_signedTogether_30).trans rfl
theorem k_X4_signedTogether_33 : lk 33 C_X4_signedTogether = some (.iload_n 1, (0, 0, 0, 0)) := by decide +kernel
theorem s_X4_signedTogether_33 {ca : Nat → List Value → tM → tO} {M : tM} {a0 a2 : Option Value} {x : Int32} {S : List Value} : rn ca C_X4_signedTogether 33 [a0, some (.int x), a2] S M = rn ca C_X4_signedTogether 34 [a0, some (.int x), a2] (.int x :: S) M := (rn_at k_X4_signedTogether_33).trans rfl
theorem k_X4_signedTogether_34 : lk 34 C_X4_signedTogether = some (.ireturn, (0, 0, 0, 0)) := by decide +kernel
theorem s_X4_signedTogether_34 {ca : Nat → List Value → tM → tO} {M : tM} {L : tL} {x : Int32} : rn ca C_X4_signedTogether 34 L [.int x] M = some (some (.int x), M) := (rn_at k_X4_signedTogether_34).trans rfl
theorem k_X4_shutTubes_0 : lk 0 C_X4_shutTubes = some (.aload_n 0, (0, 0, 0, 0)) := by decide +kernel
theorem s_X4_shutTubes_0 {ca : Nat → List Value → tM → tO} {M : tM} {x : Nat} {S : List Value} : rn ca C_X4_shutTubes 0 [some (.ref x)] S M = rn ca C_X4_shutTubes 1 [some (.ref x)] (.ref x :: S) M := (rn_at k_X4_shutTubes_0).trans rfl
theorem k_X4_shutTubes_1 : lk 1 C_X4_shutTubes = some (.getfield 34, (4, 7, 0, 69)) := by decide +kernel
theorem s_X4_shutTubes_1 {ca : Nat → List Value → tM → tO} {M : tM} {L : tL} {b : Nat} {S : List Value} : rn ca C_X4_shutTubes 1 L (.ref b :: S) M = if clsO b = some 4 then rn ca C_X4_shutTubes 4 L (fv M b 7 :: S) M else none := (rn_at k_X4_shutTubes_1).trans rnx_ite
theorem k_X4_shutTubes_4 : lk 4 C_X4_shutTubes = some (.invokestatic 104, (239, 1, 0, 1259)) := by decide +kernel
theorem s_X4_shutTubes_4 {ca : Nat → List Value → tM → tO} {M : tM} {L : tL} {v1 : Value} : rn ca C_X4_shutTubes 4 L [v1] M = rnk ca C_X4_shutTubes 7 L [] (ca m_J6_bitCount_0f7a4 [v1] M) := (rn_at k_X4_shutTubes_4).trans rfl
theorem k_X4_shutTubes_7 : lk 7 C_X4_shutTubes = some (.ireturn, (0, 0, 0, 0)) := by decide +kernel
theorem s_X4_shutTubes_7 {ca : Nat → List Value → tM → tO} {M : tM} {L : tL} {x : Int32} : rn ca C_X4_shutTubes 7 L [.int x] M = some (some (.int x), M) := (rn_at k_X4_shutTubes_7).trans rfl
theorem k_X5_forget_0 : lk 0 C_X5_forget = some (.aload_n 0, (0, 0, 0, 0)) := by decide +kernel
theorem s_X5_forget_0 {ca : Nat → List Value → tM → tO} {M : tM} {x : Nat} {S : List Value} : rn ca C_X5_forget 0 [some (.ref x)] S M = rn ca C_X5_forget 1 [some (.ref x)] (.ref x :: S) M := (rn_at k_X5_forget_0).trans rfl
theorem k_X5_forget_1 : lk 1 C_X5_forget = some (.iconst 0, (0, 0, 0, 0)) := by decide +kernel
theorem s_X5_forget_1 {ca : Nat → List Value → tM → tO} {M : tM} {L : tL} {S : List Value} : rn ca C_X5_forget 1 L S M = rn ca C_X5_forget 2 L (.int (iI 0) :: S) M := (rn_at k_X5_forget_1).trans rfl
theorem k_X5_forget_2 : lk 2 C_X5_forget = some (.putfield 15, (5, 1, 0, 138)) := by decide +kernel
theorem s_X5_forget_2 {ca : Nat → List Value → tM → tO} {M : tM} {L : tL} {b : Nat} {v : Int32} {S : List Value} : rn ca C_X5_forget 2 L (.int v :: .ref b :: S) M = if clsO b = some 5 then rn ca C_X5_forget 5 L S (sI M b 1 v) else none := (rn_at k_X5_forget_2).trans rnx_ite
theorem k_X5_forget_5 : lk 5 C_X5_forget = some (.return_, (0, 0, 0, 0)) := by decide +kernel
theorem s_X5_forget_5 {ca : Nat → List Value → tM → tO} {M : tM} {L : tL} : rn ca C_X5_forget 5 L [] M = some (none, M) := (rn_at k_X5_forget_5).trans rfl
theorem k_X5_bodyAt_0 : lk 0 C_X5_bodyAt = some (.iload_n 1, (0, 0, 0, 0)) := by decide +kernel
theorem s_X5_bodyAt_0 {ca : Nat → List Value → tM → tO} {M : tM} {a0 : Option Value} {x : Int32} {S : List Value} : rn ca C_X5_bodyAt 0 [a0, some (.int x)] S M = rn ca C_X5_bodyAt 1 [a0, some (.int x)] (.int x :: S) M := (rn_at k_X5_bodyAt_0).trans rfl
theorem k_X5_bodyAt_1 : lk 1 C_X5_bodyAt = some (.ifCond .lt 26, (27, 0, 0, 0)) := by decide +kernel
theorem s_X5_bodyAt_1 {ca : Nat → List Value → tM → tO} {M : tM} {L : tL} {x : Int32} {S : List Value} : rn ca C_X5_bodyAt 1 L (.int x :: S) M = if x < iI 0 then rn ca C_X5_bodyAt 27 L S M else rn ca C_X5_bodyAt 4 L S M := (rn_at k_X5_bodyAt_1).trans rnx_ite
theorem k_X5_bodyAt_4 : lk 4 C_X5_bodyAt = some (.iload_n 1, (0, 0, 0, 0)) := by decide +kernel
theorem s_X5_bodyAt_4 {ca : Nat → List Value → tM → tO} {M : tM} {a0 : Option Value} {x : Int32} {S : List Value} : rn ca C_X5_bodyAt 4 [a0, some (.int x)] S M = rn ca C_X5_bodyAt 5 [a0, some (.int x)] (.int x :: S) M := (rn_at k_X5_bodyAt_4).trans rfl
theorem k_X5_bodyAt_5 : lk 5 C_X5_bodyAt = some (.aload_n 0, (0, 0, 0, 0)) := by decide +kernel
theorem s_X5_bodyAt_5 {ca : Nat → List Value → tM → tO} {M : tM} {a1 : Option Value} {x : Nat} {S : List Value} : rn ca C_X5_bodyAt 5 [some (.ref x), a1] S M = rn ca C_X5_bodyAt 6 [some (.ref x), a1] (.ref x :: S) M := (rn_at k_X5_bodyAt_5).trans rfl
theorem k_X5_bodyAt_6 : lk 6 C_X5_bodyAt = some (.getfield 15, (5, 1, 0, 138)) := by decide +kernel
theorem s_X5_bodyAt_6 {ca : Nat → List Value → tM → tO} {M : tM} {L : tL} {b : Nat} {S : List Value} : rn ca C_X5_bodyAt 6 L (.ref b :: S) M = if clsO b = some 5 then rn ca C_X5_bodyAt 9 L (fv M b 1 :: S) M else none := (rn_at k_X5_bodyAt_6).trans rnx_ite
theorem k_X5_bodyAt_9 : lk 9 C_X5_bodyAt = some (.if_icmp .ge 18, (27, 0, 0, 0)) := by decide +kernel
theorem s_X5_bodyAt_9 {ca : Nat → List Value → tM → tO} {M : tM} {L : tL} {x y : Int32} {S : List Value} : rn ca C_X5_bodyAt 9 L (.int y :: .int x :: S) M = if y ≤ x then rn ca C_X5_bodyAt 27 L S M else rn ca C_X5_bodyAt 12 L S M := (rn_at k_X5_bodyAt_9).trans rnx_ite
theorem k_X5_bodyAt_12 : lk 12 C_X5_bodyAt = some (.iload_n 1, (0, 0, 0, 0)) := by decide +kernel
theorem s_X5_bodyAt_12 {ca : Nat → List Value → tM → tO} {M : tM} {a0 : Option Value} {x : Int32} {S : List Value} : rn ca C_X5_bodyAt 12 [a0, some (.int x)] S M = rn ca C_X5_bodyAt 13 [a0, some (.int x)] (.int x :: S) M := (rn_at k_X5_bodyAt_12).trans rfl
theorem k_X5_bodyAt_13 : lk 13 C_X5_bodyAt = some (.bipush 20, (0, 0, 0, 0)) := by decide +kernel
theorem s_X5_bodyAt_13 {ca : Nat → List Value → tM → tO} {M : tM} {L : tL} {S : List Value} : rn ca C_X5_bodyAt 13 L S M = rn ca C_X5_bodyAt 15 L (.int (iI 20) :: S) M := (rn_at k_X5_bodyAt_13).trans rfl
theorem k_X5_bodyAt_15 : lk 15 C_X5_bodyAt = some (.if_icmp .ge 12, (27, 0, 0, 0)) := by decide +kernel
theorem s_X5_bodyAt_15 {ca : Nat → List Value → tM → tO} {M : tM} {L : tL} {x y : Int32} {S : List Value} : rn ca C_X5_bodyAt 15 L (.int y :: .int x :: S) M = if y ≤ x then rn ca C_X5_bodyAt 27 L S M else rn ca C_X5_bodyAt 18 L S M := (rn_at k_X5_bodyAt_15).trans rnx_ite
theorem k_X5_bodyAt_18 : lk 18 C_X5_bodyAt = some (.aload_n 0, (0, 0, 0, 0)) := by decide +kernel
theorem s_X5_bodyAt_18 {ca : Nat → List Value → tM → tO} {M : tM} {a1 : Option Value} {x : Nat} {S : List Value} : rn ca C_X5_bodyAt 18 [some (.ref x), a1] S M = rn ca C_X5_bodyAt 19 [some (.ref x), a1] (.ref x :: S) M := (rn_at k_X5_bodyAt_18).trans rfl
theorem k_X5_bodyAt_19 : lk 19 C_X5_bodyAt = some (.getfield 9, (5, 0, 0, 137)) := by decide +kernel
theorem s_X5_bodyAt_19 {ca : Nat → List Value → tM → tO} {M : tM} {L : tL} {b : Nat} {S : List Value} : rn ca C_X5_bodyAt 19 L (.ref b :: S) M = if clsO b = some 5 then rn ca C_X5_bodyAt 22 L (fv M b 0 :: S) M else none := (rn_at k_X5_bodyAt_19).trans rnx_ite
theorem k_X5_bodyAt_22 : lk 22 C_X5_bodyAt = some (.iload_n 1, (0, 0, 0, 0)) := by decide +kernel
theorem s_X5_bodyAt_22 {ca : Nat → List Value → tM → tO} {M : tM} {a0 : Option Value} {x : Int32} {S : List Value} : rn ca C_X5_bodyAt 22 [a0, some (.int x)] S M = rn ca C_X5_bodyAt 23 [a0, some (.int x)] (.int x :: S) M := (rn_at k_X5_bodyAt_22).trans rfl
theorem k_X5_bodyAt_23 : lk 23 C_X5_bodyAt = some (.iaload, (0, 0, 0, 0)) := by decide +kernel
theorem s_X5_bodyAt_23 {ca : Nat → List Value → tM → tO} {M : tM} {L : tL} {a : Nat} {i : Int32} {S : List Value} : rn ca C_X5_bodyAt 23 L (.int i :: .ref a :: S) M = if (akind a = 0 ∨ akind a = 6 ∨ akind a = 7) ∧ inb i (alen M a) then rn ca C_X5_bodyAt 24 L (.int (M.1 a i.toInt.toNat) :: S) M else none := (rn_at k_X5_bodyAt_23).trans rnx_ite
theorem k_X5_bodyAt_24 : lk 24 C_X5_bodyAt = some (.goto 4, (28, 0, 0, 0)) := by decide +kernel
theorem s_X5_bodyAt_24 {ca : Nat → List Value → tM → tO} {M : tM} {L : tL} {S : List Value} : rn ca C_X5_bodyAt 24 L S M = rn ca C_X5_bodyAt 28 L S M := (rn_at k_X5_bodyAt_24).trans rfl
theorem k_X5_bodyAt_27 : lk 27 C_X5_bodyAt = some (.iconst (-1), (0, 0, 0, 0)) := by decide +kernel
theorem s_X5_bodyAt_27 {ca : Nat → List Value → tM → tO} {M : tM} {L : tL} {S : List Value} : rn ca C_X5_bodyAt 27 L S M = rn ca C_X5_bodyAt 28 L (.int (iI (-1)) :: S) M := (rn_at k_X5_bodyAt_27).trans rfl
theorem k_X5_bodyAt_28 : lk 28 C_X5_bodyAt = some (.ireturn, (0, 0, 0, 0)) := by decide +kernel
theorem s_X5_bodyAt_28 {ca : Nat → List Value → tM → tO} {M : tM} {L : tL} {x : Int32} : rn ca C_X5_bodyAt 28 L [.int x] M = some (some (.int x), M) := (rn_at k_X5_bodyAt_28).trans rfl
theorem k_X5_run_0 : lk 0 C_X5_run = some (.aload_n 0, (0, 0, 0, 0)) := by decide +kernel
theorem s_X5_run_0 {ca : Nat → List Value → tM → tO} {M : tM} {a1 a2 a3 a4 a5 : Option Value} {x : Nat} {S : List Value} : rn ca C_X5_run 0 [some (.ref x), a1, a2, a3, a4, a5] S M = rn ca C_X5_run 1 [some (.ref x), a1, a2, a3, a4, a5] (.ref x :: S) M := (rn_at k_X5_run_0).trans rfl
theorem k_X5_run_1 : lk 1 C_X5_run = some (.iload_n 1, (0, 0, 0, 0)) := by decide +kernel
theorem s_X5_run_1 {ca : Nat → List Value → tM → tO} {M : tM} {a0 a2 a3 a4 a5 : Option Value} {x : Int32} {S : List Value} : rn ca C_X5_run 1 [a0, some (.int x), a2, a3, a4, a5] S M = rn ca C_X5_run 2 [a0, some (.int x), a2, a3, a4, a5] (.int x :: S) M := (rn_at k_X5_run_1).trans rfl
theorem k_X5_run_2 : lk 2 C_X5_run = some (.putfield 19, (5, 2, 0, 139)) := by decide +kernel
theorem s_X5_run_2 {ca : Nat → List Value → tM → tO} {M : tM} {L : tL} {b : Nat} {v : Int32} {S : List Value} : rn ca C_X5_run 2 L (.int v :: .ref b :: S) M = if clsO b = some 5 then rn ca C_X5_run 5 L S (sI M b 2 v) else none := (rn_at k_X5_run_2).trans rnx_ite
theorem k_X5_run_5 : lk 5 C_X5_run = some (.aload_n 0, (0, 0, 0, 0)) := by decide +kernel
theorem s_X5_run_5 {ca : Nat → List Value → tM → tO} {M : tM} {a1 a2 a3 a4 a5 : Option Value} {x : Nat} {S : List Value} : rn ca C_X5_run 5 [some (.ref x), a1, a2, a3, a4, a5] S M = rn ca C_X5_run 6 [some (.ref x), a1, a2, a3, a4, a5] (.ref x :: S) M := (rn_at k_X5_run_5).trans rfl
theorem k_X5_run_6 : lk 6 C_X5_run = some (.iload_n 2, (0, 0, 0, 0)) := by decide +kernel
theorem s_X5_run_6 {ca : Nat → List Value → tM → tO} {M : tM} {a0 a1 a3 a4 a5 : Option Value} {x : Int32} {S : List Value} : rn ca C_X5_run 6 [a0, a1, some (.int x), a3, a4, a5] S M = rn ca C_X5_run 7 [a0, a1, some (.int x), a3, a4, a5] (.int x :: S) M := (rn_at k_X5_run_6).trans rfl
theorem k_X5_run_7 : lk 7 C_X5_run = some (.putfield 22, (5, 3, 0, 140)) := by decide +kernel
theorem s_X5_run_7 {ca : Nat → List Value → tM → tO} {M : tM} {L : tL} {b : Nat} {v : Int32} {S : List Value} : rn ca C_X5_run 7 L (.int v :: .ref b :: S) M = if clsO b = some 5 then rn ca C_X5_run 10 L S (sI M b 3 v) else none := (rn_at k_X5_run_7).trans rnx_ite
theorem k_X5_run_10 : lk 10 C_X5_run = some (.aload_n 0, (0, 0, 0, 0)) := by decide +kernel
theorem s_X5_run_10 {ca : Nat → List Value → tM → tO} {M : tM} {a1 a2 a3 a4 a5 : Option Value} {x : Nat} {S : List Value} : rn ca C_X5_run 10 [some (.ref x), a1, a2, a3, a4, a5] S M = rn ca C_X5_run 11 [some (.ref x), a1, a2, a3, a4, a5] (.ref x :: S) M := (rn_at k_X5_run_10).trans rfl
theorem k_X5_run_11 : lk 11 C_X5_run = some (.iload_n 3, (0, 0, 0, 0)) := by decide +kernel
theorem s_X5_run_11 {ca : Nat → List Value → tM → tO} {M : tM} {a0 a1 a2 a4 a5 : Option Value} {x : Int32} {S : List Value} : rn ca C_X5_run 11 [a0, a1, a2, some (.int x), a4, a5] S M = rn ca C_X5_run 12 [a0, a1, a2, some (.int x), a4, a5] (.int x :: S) M := (rn_at k_X5_run_11).trans rfl
theorem k_X5_run_12 : lk 12 C_X5_run = some (.putfield 25, (5, 4, 0, 141)) := by decide +kernel
theorem s_X5_run_12 {ca : Nat → List Value → tM → tO} {M : tM} {L : tL} {b : Nat} {v : Int32} {S : List Value} : rn ca C_X5_run 12 L (.int v :: .ref b :: S) M = if clsO b = some 5 then rn ca C_X5_run 15 L S (sI M b 4 v) else none := (rn_at k_X5_run_12).trans rnx_ite
theorem k_X5_run_15 : lk 15 C_X5_run = some (.iload 4, (0, 0, 0, 0)) := by decide +kernel
theorem s_X5_run_15 {ca : Nat → List Value → tM → tO} {M : tM} {a0 a1 a2 a3 a5 : Option Value} {x : Int32} {S : List Value} : rn ca C_X5_run 15 [a0, a1, a2, a3, some (.int x), a5] S M = rn ca C_X5_run 17 [a0, a1, a2, a3, some (.int x), a5] (.int x :: S) M := (rn_at k_X5_run_15).trans rfl
theorem k_X5_run_17 : lk 17 C_X5_run = some (.tableswitch 51 0 2 #[27, 35, 43], (0, 0, 0, 0)) := by decide +kernel
theorem s_X5_run_17 {ca : Nat → List Value → tM → tO} {M : tM} {L : tL} {x : Int32} {S : List Value} : rn ca C_X5_run 17 L (.int x :: S) M = if x = iI 0 then rn ca C_X5_run 44 L S M else if x = iI 1 then rn ca C_X5_run 52 L S M else if x = iI 2 then rn ca C_X5_run 60 L S M else rn ca C_X5_run 68 L S M := by rw [rn_at k_X5_run_17]; simp only [ta, tsw, lsw, rnx_ite]; rfl
theorem k_X5_run_44 : lk 44 C_X5_run = some (.aload_n 0, (0, 0, 0, 0)) := by decide +kernel
theorem s_X5_run_44 {ca : Nat → List Value → tM → tO} {M : tM} {a1 a2 a3 a4 a5 : Option Value} {x : Nat} {S : List Value} : rn ca C_X5_run 44 [some (.ref x), a1, a2, a3, a4, a5] S M = rn ca C_X5_run 45 [some (.ref x), a1, a2, a3, a4, a5] (.ref x :: S) M := (rn_at k_X5_run_44).trans rfl
theorem k_X5_run_45 : lk 45 C_X5_run = some (.iload_n 1, (0, 0, 0, 0)) := by decide +kernel
theorem s_X5_run_45 {ca : Nat → List Value → tM → tO} {M : tM} {a0 a2 a3 a4 a5 : Option Value} {x : Int32} {S : List Value} : rn ca C_X5_run 45 [a0, some (.int x), a2, a3, a4, a5] S M = rn ca C_X5_run 46 [a0, some (.int x), a2, a3, a4, a5] (.int x :: S) M := (rn_at k_X5_run_45).trans rfl
theorem k_X5_run_46 : lk 46 C_X5_run = some (.iload 5, (0, 0, 0, 0)) := by decide +kernel
theorem s_X5_run_46 {ca : Nat → List Value → tM → tO} {M : tM} {a0 a1 a2 a3 a4 : Option Value} {x : Int32} {S : List Value} : rn ca C_X5_run 46 [a0, a1, a2, a3, a4, some (.int x)] S M = rn ca C_X5_run 48 [a0, a1, a2, a3, a4, some (.int x)] (.int x :: S) M := (rn_at k_X5_run_46).trans rfl
theorem k_X5_run_48 : lk 48 C_X5_run = some (.invokevirtual 28, (41, 2, 5, 1174)) := by decide +kernel
theorem s_X5_run_48 {ca : Nat → List Value → tM → tO} {M : tM} {L : tL} {v1 v2 : Value} {b : Nat} : rn ca C_X5_run 48 L [v2, v1, .ref b] M = if clsO b = some 5 then rnk ca C_X5_run 51 L [] (ca m_X5_hissesFrom [.ref b, v1, v2] M) else none := (rn_at k_X5_run_48).trans rnx_ite
theorem k_X5_run_51 : lk 51 C_X5_run = some (.ireturn, (0, 0, 0, 0)) := by decide +kernel
theorem s_X5_run_51 {ca : Nat → List Value → tM → tO} {M : tM} {L : tL} {x : Int32} : rn ca C_X5_run 51 L [.int x] M = some (some (.int x), M) := (rn_at k_X5_run_51).trans rfl
theorem k_X5_run_52 : lk 52 C_X5_run = some (.aload_n 0, (0, 0, 0, 0)) := by decide +kernel
theorem s_X5_run_52 {ca : Nat → List Value → tM → tO} {M : tM} {a1 a2 a3 a4 a5 : Option Value} {x : Nat} {S : List Value} : rn ca C_X5_run 52 [some (.ref x), a1, a2, a3, a4, a5] S M = rn ca C_X5_run 53 [some (.ref x), a1, a2, a3, a4, a5] (.ref x :: S) M := (rn_at k_X5_run_52).trans rfl
theorem k_X5_run_53 : lk 53 C_X5_run = some (.iload_n 1, (0, 0, 0, 0)) := by decide +kernel
theorem s_X5_run_53 {ca : Nat → List Value → tM → tO} {M : tM} {a0 a2 a3 a4 a5 : Option Value} {x : Int32} {S : List Value} : rn ca C_X5_run 53 [a0, some (.int x), a2, a3, a4, a5] S M = rn ca C_X5_run 54 [a0, some (.int x), a2, a3, a4, a5] (.int x :: S) M := (rn_at k_X5_run_53).trans rfl
theorem k_X5_run_54 : lk 54 C_X5_run = some (.iload 5, (0, 0, 0, 0)) := by decide +kernel
theorem s_X5_run_54 {ca : Nat → List Value → tM → tO} {M : tM} {a0 a1 a2 a3 a4 : Option Value} {x : Int32} {S : List Value} : rn ca C_X5_run 54 [a0, a1, a2, a3, a4, some (.int x)] S M = rn ca C_X5_run 56 [a0, a1, a2, a3, a4, some (.int x)] (.int x :: S) M := (rn_at k_X5_run_54).trans rfl
theorem k_X5_run_56 : lk 56 C_X5_run = some (.invokevirtual 32, (42, 2, 5, 1182)) := by decide +kernel
theorem s_X5_run_56 {ca : Nat → List Value → tM → tO} {M : tM} {L : tL} {v1 v2 : Value} {b : Nat} : rn ca C_X5_run 56 L [v2, v1, .ref b] M = if clsO b = some 5 then rnk ca C_X5_run 59 L [] (ca m_X5_landsFrom [.ref b, v1, v2] M) else none := (rn_at k_X5_run_56).trans rnx_ite
theorem k_X5_run_59 : lk 59 C_X5_run = some (.ireturn, (0, 0, 0, 0)) := by decide +kernel
theorem s_X5_run_59 {ca : Nat → List Value → tM → tO} {M : tM} {L : tL} {x : Int32} : rn ca C_X5_run 59 L [.int x] M = some (some (.int x), M) := (rn_at k_X5_run_59).trans rfl
theorem k_X5_run_60 : lk 60 C_X5_run = some (.aload_n 0, (0, 0, 0, 0)) := by decide +kernel
theorem s_X5_run_60 {ca : Nat → List Value → tM → tO} {M : tM} {a1 a2 a3 a4 a5 : Option Value} {x : Nat} {S : List Value} : rn ca C_X5_run 60 [some (.ref x), a1, a2, a3, a4, a5] S M = rn ca C_X5_run 61 [some (.ref x), a1, a2, a3, a4, a5] (.ref x :: S) M := (rn_at k_X5_run_60).trans rfl
theorem k_X5_run_61 : lk 61 C_X5_run = some (.iload_n 1, (0, 0, 0, 0)) := by decide +kernel
theorem s_X5_run_61 {ca : Nat → List Value → tM → tO} {M : tM} {a0 a2 a3 a4 a5 : Option Value} {x : Int32} {S : List Value} : rn ca C_X5_run 61 [a0, some (.int x), a2, a3, a4, a5] S M = rn ca C_X5_run 62 [a0, some (.int x), a2, a3, a4, a5] (.int x :: S) M := (rn_at k_X5_run_61).trans rfl
theorem k_X5_run_62 : lk 62 C_X5_run = some (.iload 5, (0, 0, 0, 0)) := by decide +kernel
theorem s_X5_run_62 {ca : Nat → List Value → tM → tO} {M : tM} {a0 a1 a2 a3 a4 : Option Value} {x : Int32} {S : List Value} : rn ca C_X5_run 62 [a0, a1, a2, a3, a4, some (.int x)] S M = rn ca C_X5_run 64 [a0, a1, a2, a3, a4, some (.int x)] (.int x :: S) M := (rn_at k_X5_run_62).trans rfl
theorem k_X5_run_64 : lk 64 C_X5_run = some (.invokevirtual 35, (43, 2, 5, 1186)) := by decide +kernel
theorem s_X5_run_64 {ca : Nat → List Value → tM → tO} {M : tM} {L : tL} {v1 v2 : Value} {b : Nat} : rn ca C_X5_run 64 L [v2, v1, .ref b] M = if clsO b = some 5 then rnk ca C_X5_run 67 L [] (ca m_X5_signsFrom [.ref b, v1, v2] M) else none := (rn_at k_X5_run_64).trans rnx_ite
theorem k_X5_run_67 : lk 67 C_X5_run = some (.ireturn, (0, 0, 0, 0)) := by decide +kernel
theorem s_X5_run_67 {ca : Nat → List Value → tM → tO} {M : tM} {L : tL} {x : Int32} : rn ca C_X5_run 67 L [.int x] M = some (some (.int x), M) := (rn_at k_X5_run_67).trans rfl
theorem k_X5_run_68 : lk 68 C_X5_run = some (.iconst 0, (0, 0, 0, 0)) := by decide +kernel
theorem s_X5_run_68 {ca : Nat → List Value → tM → tO} {M : tM} {L : tL} {S : List Value} : rn ca C_X5_run 68 L S M = rn ca C_X5_run 69 L (.int (iI 0) :: S) M := (rn_at k_X5_run_68).trans rfl
theorem k_X5_run_69 : lk 69 C_X5_run = some (.ireturn, (0, 0, 0, 0)) := by decide +kernel
theorem s_X5_run_69 {ca : Nat → List Value → tM → tO} {M : tM} {L : tL} {x : Int32} : rn ca C_X5_run 69 L [.int x] M = some (some (.int x), M) := (rn_at k_X5_run_69).trans rfl
theorem k_X5_begin_0 : lk 0 C_X5_begin = some (.aload_n 0, (0, 0, 0, 0)) := by decide +kernel
theorem s_X5_begin_0 {ca : Nat → List Value → tM → tO} {M : tM} {a1 : Option Value} {x : Nat} {S : List Value} : rn ca C_X5_begin 0 [some (.ref x), a1] S M = rn ca C_X5_begin 1 [some (.ref x), a1] (.ref x :: S) M := (rn_at k_X5_begin_0).trans rfl
theorem k_X5_begin_1 : lk 1 C_X5_begin = some (.getfield 15, (5, 1, 0, 138)) := by decide +kernel
theorem s_X5_begin_1 {ca : Nat → List Value → tM → tO} {M : tM} {L : tL} {b : Nat} {S : List Value} : rn ca C_X5_begin 1 L (.ref b :: S) M = if clsO b = some 5 then rn ca C_X5_begin 4 L (fv M b 1 :: S) M else none := (rn_at k_X5_begin_1).trans rnx_ite
theorem k_X5_begin_4 : lk 4 C_X5_begin = some (.ifCond .lt 22, (26, 0, 0, 0)) := by decide +kernel
theorem s_X5_begin_4 {ca : Nat → List Value → tM → tO} {M : tM} {L : tL} {x : Int32} {S : List Value} : rn ca C_X5_begin 4 L (.int x :: S) M = if x < iI 0 then rn ca C_X5_begin 26 L S M else rn ca C_X5_begin 7 L S M := (rn_at k_X5_begin_4).trans rnx_ite
theorem k_X5_begin_7 : lk 7 C_X5_begin = some (.aload_n 0, (0, 0, 0, 0)) := by decide +kernel
theorem s_X5_begin_7 {ca : Nat → List Value → tM → tO} {M : tM} {a1 : Option Value} {x : Nat} {S : List Value} : rn ca C_X5_begin 7 [some (.ref x), a1] S M = rn ca C_X5_begin 8 [some (.ref x), a1] (.ref x :: S) M := (rn_at k_X5_begin_7).trans rfl
theorem k_X5_begin_8 : lk 8 C_X5_begin = some (.getfield 15, (5, 1, 0, 138)) := by decide +kernel
theorem s_X5_begin_8 {ca : Nat → List Value → tM → tO} {M : tM} {L : tL} {b : Nat} {S : List Value} : rn ca C_X5_begin 8 L (.ref b :: S) M = if clsO b = some 5 then rn ca C_X5_begin 11 L (fv M b 1 :: S) M else none := (rn_at k_X5_begin_8).trans rnx_ite
theorem k_X5_begin_11 : lk 11 C_X5_begin = some (.bipush 20, (0, 0, 0, 0)) := by decide +kernel
theorem s_X5_begin_11 {ca : Nat → List Value → tM → tO} {M : tM} {L : tL} {S : List Value} : rn ca C_X5_begin 11 L S M = rn ca C_X5_begin 13 L (.int (iI 20) :: S) M := (rn_at k_X5_begin_11).trans rfl
theorem k_X5_begin_13 : lk 13 C_X5_begin = some (.if_icmp .ge 13, (26, 0, 0, 0)) := by decide +kernel
theorem s_X5_begin_13 {ca : Nat → List Value → tM → tO} {M : tM} {L : tL} {x y : Int32} {S : List Value} : rn ca C_X5_begin 13 L (.int y :: .int x :: S) M = if y ≤ x then rn ca C_X5_begin 26 L S M else rn ca C_X5_begin 16 L S M := (rn_at k_X5_begin_13).trans rnx_ite
theorem k_X5_begin_16 : lk 16 C_X5_begin = some (.aload_n 0, (0, 0, 0, 0)) := by decide +kernel
theorem s_X5_begin_16 {ca : Nat → List Value → tM → tO} {M : tM} {a1 : Option Value} {x : Nat} {S : List Value} : rn ca C_X5_begin 16 [some (.ref x), a1] S M = rn ca C_X5_begin 17 [some (.ref x), a1] (.ref x :: S) M := (rn_at k_X5_begin_16).trans rfl
theorem k_X5_begin_17 : lk 17 C_X5_begin = some (.getfield 9, (5, 0, 0, 137)) := by decide +kernel
theorem s_X5_begin_17 {ca : Nat → List Value → tM → tO} {M : tM} {L : tL} {b : Nat} {S : List Value} : rn ca C_X5_begin 17 L (.ref b :: S) M = if clsO b = some 5 then rn ca C_X5_begin 20 L (fv M b 0 :: S) M else none := (rn_at k_X5_begin_17).trans rnx_ite
theorem k_X5_begin_20 : lk 20 C_X5_begin = some (.aload_n 0, (0, 0, 0, 0)) := by decide +kernel
theorem s_X5_begin_20 {ca : Nat → List Value → tM → tO} {M : tM} {a1 : Option Value} {x : Nat} {S : List Value} : rn ca C_X5_begin 20 [some (.ref x), a1] S M = rn ca C_X5_begin 21 [some (.ref x), a1] (.ref x :: S) M := (rn_at k_X5_begin_20).trans rfl
theorem k_X5_begin_21 : lk 21 C_X5_begin = some (.getfield 15, (5, 1, 0, 138)) := by decide +kernel
theorem s_X5_begin_21 {ca : Nat → List Value → tM → tO} {M : tM} {L : tL} {b : Nat} {S : List Value} : rn ca C_X5_begin 21 L (.ref b :: S) M = if clsO b = some 5 then rn ca C_X5_begin 24 L (fv M b 1 :: S) M else none := (rn_at k_X5_begin_21).trans rnx_ite
theorem k_X5_begin_24 : lk 24 C_X5_begin = some (.iload_n 1, (0, 0, 0, 0)) := by decide +kernel
theorem s_X5_begin_24 {ca : Nat → List Value → tM → tO} {M : tM} {a0 : Option Value} {x : Int32} {S : List Value} : rn ca C_X5_begin 24 [a0, some (.int x)] S M = rn ca C_X5_begin 25 [a0, some (.int x)] (.int x :: S) M := (rn_at k_X5_begin_24).trans rfl
theorem k_X5_begin_25 : lk 25 C_X5_begin = some (.iastore, (0, 0, 0, 0)) := by decide +kernel
theorem s_X5_begin_25 {ca : Nat → List Value → tM → tO} {M : tM} {L : tL} {a : Nat} {i x : Int32} {S : List Value} : rn ca C_X5_begin 25 L (.int x :: .int i :: .ref a :: S) M = if akind a = 0 ∧ inb i (alen M a) then rn ca C_X5_begin 26 L S (sI M a i.toInt.toNat x) else none := (rn_at k_X5_begin_25).trans rnx_ite
theorem k_X5_begin_26 : lk 26 C_X5_begin = some (.aload_n 0, (0, 0, 0, 0)) := by decide +kernel
theorem s_X5_begin_26 {ca : Nat → List Value → tM → tO} {M : tM} {a1 : Option Value} {x : Nat} {S : List Value} : rn ca C_X5_begin 26 [some (.ref x), a1] S M = rn ca C_X5_begin 27 [some (.ref x), a1] (.ref x :: S) M := (rn_at k_X5_begin_26).trans rfl
theorem k_X5_begin_27 : lk 27 C_X5_begin = some (.dup, (0, 0, 0, 0)) := by decide +kernel
theorem s_X5_begin_27 {ca : Nat → List Value → tM → tO} {M : tM} {L : tL} {x : Nat} {S : List Value} : rn ca C_X5_begin 27 L (.ref x :: S) M = rn ca C_X5_begin 28 L (.ref x :: .ref x :: S) M := (rn_at k_X5_begin_27).trans rfl
theorem s_X5_begin_27b {ca : Nat → List Value → tM → tO} {M : tM} {L : tL} {x : Int32} {S : List Value} : rn ca C_X5_begin 27 L (.int x :: S) M = rn ca C_X5_begin 28 L (.int x :: .int x :: S) M := (rn_at k_X5_begin_27).trans rfl
theorem k_X5_begin_28 : lk 28 C_X5_begin = some (.getfield 15, (5, 1, 0, 138)) := by decide +kernel
theorem s_X5_begin_28 {ca : Nat → List Value → tM → tO} {M : tM} {L : tL} {b : Nat} {S : List Value} : rn ca C_X5_begin 28 L (.ref b :: S) M = if clsO b = some 5 then rn ca C_X5_begin 31 L (fv M b 1 :: S) M else none := (rn_at k_X5_begin_28).trans rnx_ite
theorem k_X5_begin_31 : lk 31 C_X5_begin = some (.iconst 1, (0, 0, 0, 0)) := by decide +kernel
theorem s_X5_begin_31 {ca : Nat → List Value → tM → tO} {M : tM} {L : tL} {S : List Value} : rn ca C_X5_begin 31 L S M = rn ca C_X5_begin 32 L (.int (iI 1) :: S) M := (rn_at k_X5_begin_31).trans rfl
theorem k_X5_begin_32 : lk 32 C_X5_begin = some (.iadd, (0, 0, 0, 0)) := by decide +kernel
theorem s_X5_begin_32 {ca : Nat → List Value → tM → tO} {M : tM} {L : tL} {x y : Int32} {S : List Value} : rn ca C_X5_begin 32 L (.int y :: .int x :: S) M = rn ca C_X5_begin 33 L (.int (x + y) :: S) M := (rn_at k_X5_begin_32).trans rfl
theorem k_X5_begin_33 : lk 33 C_X5_begin = some (.putfield 15, (5, 1, 0, 138)) := by decide +kernel
theorem s_X5_begin_33 {ca : Nat → List Value → tM → tO} {M : tM} {L : tL} {b : Nat} {v : Int32} {S : List Value} : rn ca C_X5_begin 33 L (.int v :: .ref b :: S) M = if clsO b = some 5 then rn ca C_X5_begin 36 L S (sI M b 1 v) else none := (rn_at k_X5_begin_33).trans rnx_ite
theorem k_X5_begin_36 : lk 36 C_X5_begin = some (.return_, (0, 0, 0, 0)) := by decide +kernel
theorem s_X5_begin_36 {ca : Nat → List Value → tM → tO} {M : tM} {L : tL} : rn ca C_X5_begin 36 L [] M = some (none, M) := (rn_at k_X5_begin_36).trans rfl
theorem k_X5_hissesFrom_0 : lk 0 C_X5_hissesFrom = some (.iload_n 1, (0, 0, 0, 0)) := by decide +kernel
theorem s_X5_hissesFrom_0 {ca : Nat → List Value → tM → tO} {M : tM} {a0 a2 : Option Value} {x : Int32} {S : List Value} : rn ca C_X5_hissesFrom 0 [a0, some (.int x), a2] S M = rn ca C_X5_hissesFrom 1 [a0, some (.int x), a2] (.int x :: S) M := (rn_at k_X5_hissesFrom_0).trans rfl
theorem k_X5_hissesFrom_1 : lk 1 C_X5_hissesFrom = some (.tableswitch 103 1 6 #[39, 39, 61, 61, 103, 83], (0, 0, 0, 0)) := by decide +kernel
theorem s_X5_hissesFrom_1 {ca : Nat → List Value → tM → tO} {M : tM} {L : tL} {x : Int32} {S : List Value} : rn ca C_X5_hissesFrom 1 L (.int x :: S) M = if x = iI 1 then rn ca C_X5_hissesFrom 40 L S M else if x = iI 2 then rn ca C_X5_hissesFrom 40 L S M else if x = iI 3 then rn ca C_X5_hissesFrom 62 L S M else if x = iI 4 then rn ca C_X5_hissesFrom 62 L S M else if x = iI 5 then rn ca C_X5_hissesFrom 104 L S M else if x = iI 6 then rn ca C_X5_hissesFrom 84 L S M else rn ca C_X5_hissesFrom 104 L S M := by rw [rn_at k_X5_hissesFrom_1]; simp only [ta, tsw, lsw, rnx_ite]; rfl
theorem k_X5_hissesFrom_40 : lk 40 C_X5_hissesFrom = some (.aload_n 0, (0, 0, 0, 0)) := by decide +kernel
theorem s_X5_hissesFrom_40 {ca : Nat → List Value → tM → tO} {M : tM} {a1 a2 : Option Value} {x : Nat} {S : List Value} : rn ca C_X5_hissesFrom 40 [some (.ref x), a1, a2] S M = rn ca C_X5_hissesFrom 41 [some (.ref x), a1, a2] (.ref x :: S) M := (rn_at k_X5_hissesFrom_40).trans rfl
theorem k_X5_hissesFrom_41 : lk 41 C_X5_hissesFrom = some (.bipush 20, (0, 0, 0, 0)) := by decide +kernel
theorem s_X5_hissesFrom_41 {ca : Nat → List Value → tM → tO} {M : tM} {L : tL} {S : List Value} : rn ca C_X5_hissesFrom 41 L S M = rn ca C_X5_hissesFrom 43 L (.int (iI 20) :: S) M := (rn_at k_X5_hissesFrom_41).trans rfl
theorem k_X5_hissesFrom_43 : lk 43 C_X5_hissesFrom = some (.invokevirtual 38, (40, 1, 5, 1178)) := by decide +kernel
theorem s_X5_hissesFrom_43 {ca : Nat → List Value → tM → tO} {M : tM} {L : tL} {v1 : Value} {b : Nat} : rn ca C_X5_hissesFrom 43 L [v1, .ref b] M = if clsO b = some 5 then rnk ca C_X5_hissesFrom 46 L [] (ca m_X5_begin [.ref b, v1] M) else none := (rn_at k_X5_hissesFrom_43).trans rnx_ite
theorem k_X5_hissesFrom_46 : lk 46 C_X5_hissesFrom = some (.aload_n 0, (0, 0, 0, 0)) := by decide +kernel
theorem s_X5_hissesFrom_46 {ca : Nat → List Value → tM → tO} {M : tM} {a1 a2 : Option Value} {x : Nat} {S : List Value} : rn ca C_X5_hissesFrom 46 [some (.ref x), a1, a2] S M = rn ca C_X5_hissesFrom 47 [some (.ref x), a1, a2] (.ref x :: S) M := (rn_at k_X5_hissesFrom_46).trans rfl
theorem k_X5_hissesFrom_47 : lk 47 C_X5_hissesFrom = some (.getstatic 42, (120, 0, 0, 100046)) := by decide +kernel
theorem s_X5_hissesFrom_47 {ca : Nat → List Value → tM → tO} {M : tM} {L : tL} {S : List Value} : rn ca C_X5_hissesFrom 47 L S M = rn ca C_X5_hissesFrom 50 L (.ref 120 :: S) M := (rn_at k_X5_hissesFrom_47).trans rfl
theorem k_X5_hissesFrom_50 : lk 50 C_X5_hissesFrom = some (.iconst 1, (0, 0, 0, 0)) := by decide +kernel
theorem s_X5_hissesFrom_50 {ca : Nat → List Value → tM → tO} {M : tM} {L : tL} {S : List Value} : rn ca C_X5_hissesFrom 50 L S M = rn ca C_X5_hissesFrom 51 L (.int (iI 1) :: S) M := (rn_at k_X5_hissesFrom_50).trans rfl
theorem k_X5_hissesFrom_51 : lk 51 C_X5_hissesFrom = some (.iaload, (0, 0, 0, 0)) := by decide +kernel
theorem s_X5_hissesFrom_51 {ca : Nat → List Value → tM → tO} {M : tM} {L : tL} {a : Nat} {i : Int32} {S : List Value} : rn ca C_X5_hissesFrom 51 L (.int i :: .ref a :: S) M = if (akind a = 0 ∨ akind a = 6 ∨ akind a = 7) ∧ inb i (alen M a) then rn ca C_X5_hissesFrom 52 L (.int (M.1 a i.toInt.toNat) :: S) M else none := (rn_at k_X5_hissesFrom_51).trans rnx_ite
theorem k_X5_hissesFrom_52 : lk 52 C_X5_hissesFrom = some (.iload_n 2, (0, 0, 0, 0)) := by decide +kernel
theorem s_X5_hissesFrom_52 {ca : Nat → List Value → tM → tO} {M : tM} {a0 a1 : Option Value} {x : Int32} {S : List Value} : rn ca C_X5_hissesFrom 52 [a0, a1, some (.int x)] S M = rn ca C_X5_hissesFrom 53 [a0, a1, some (.int x)] (.int x :: S) M := (rn_at k_X5_hissesFrom_52).trans rfl
theorem k_X5_hissesFrom_53 : lk 53 C_X5_hissesFrom = some (.invokevirtual 28, (41, 2, 5, 1174)) := by decide +kernel
theorem s_X5_hissesFrom_53 {ca : Nat → List Value → tM → tO} {M : tM} {L : tL} {v1 v2 : Value} {b : Nat} : rn ca C_X5_hissesFrom 53 L [v2, v1, .ref b] M = if clsO b = some 5 then rnk ca C_X5_hissesFrom 56 L [] (ca m_X5_hissesFrom [.ref b, v1, v2] M) else none := (rn_at k_X5_hissesFrom_53).trans rnx_ite
theorem k_X5_hissesFrom_56 : lk 56 C_X5_hissesFrom = some (.aload_n 0, (0, 0, 0, 0)) := by decide +kernel
theorem s_X5_hissesFrom_56 {ca : Nat → List Value → tM → tO} {M : tM} {a1 a2 : Option Value} {x : Nat} {S : List Value} : rn ca C_X5_hissesFrom 56 [some (.ref x), a1, a2] S M = rn ca C_X5_hissesFrom 57 [some (.ref x), a1, a2] (.ref x :: S) M := (rn_at k_X5_hissesFrom_56).trans rfl
theorem k_X5_hissesFrom_57 : lk 57 C_X5_hissesFrom = some (.getfield 25, (5, 4, 0, 141)) := by decide +kernel
theorem s_X5_hissesFrom_57 {ca : Nat → List Value → tM → tO} {M : tM} {L : tL} {b : Nat} {S : List Value} : rn ca C_X5_hissesFrom 57 L (.ref b :: S) M = if clsO b = some 5 then rn ca C_X5_hissesFrom 60 L (fv M b 4 :: S) M else none := (rn_at k_X5_hissesFrom_57).trans rnx_ite
theorem k_X5_hissesFrom_60 : lk 60 C_X5_hissesFrom = some (.iadd, (0, 0, 0, 0)) := by decide +kernel
theorem s_X5_hissesFrom_60 {ca : Nat → List Value → tM → tO} {M : tM} {L : tL} {x y : Int32} {S : List Value} : rn ca C_X5_hissesFrom 60 L (.int y :: .int x :: S) M = rn ca C_X5_hissesFrom 61 L (.int (x + y) :: S) M := (rn_at k_X5_hissesFrom_60).trans rfl
theorem k_X5_hissesFrom_61 : lk 61 C_X5_hissesFrom = some (.ireturn, (0, 0, 0, 0)) := by decide +kernel
theorem s_X5_hissesFrom_61 {ca : Nat → List Value → tM → tO} {M : tM} {L : tL} {x : Int32} : rn ca C_X5_hissesFrom 61 L [.int x] M = some (some (.int x), M) := (rn_at k_X5_hissesFrom_61).trans rfl
theorem k_X5_hissesFrom_62 : lk 62 C_X5_hissesFrom = some (.aload_n 0, (0, 0, 0, 0)) := by decide +kernel
theorem s_X5_hissesFrom_62 {ca : Nat → List Value → tM → tO} {M : tM} {a1 a2 : Option Value} {x : Nat} {S : List Value} : rn ca C_X5_hissesFrom 62 [some (.ref x), a1, a2] S M = rn ca C_X5_hissesFrom 63 [some (.ref x), a1, a2] (.ref x :: S) M := (rn_at k_X5_hissesFrom_62).trans rfl
theorem k_X5_hissesFrom_63 : lk 63 C_X5_hissesFrom = some (.bipush 41, (0, 0, 0, 0)) := by decide +kernel
theorem s_X5_hissesFrom_63 {ca : Nat → List Value → tM → tO} {M : tM} {L : tL} {S : List Value} : rn ca C_X5_hissesFrom 63 L S M = rn ca C_X5_hissesFrom 65 L (.int (iI 41) :: S) M := (rn_at k_X5_hissesFrom_63).trans rfl
theorem k_X5_hissesFrom_65 : lk 65 C_X5_hissesFrom = some (.invokevirtual 38, (40, 1, 5, 1178)) := by decide +kernel
theorem s_X5_hissesFrom_65 {ca : Nat → List Value → tM → tO} {M : tM} {L : tL} {v1 : Value} {b : Nat} : rn ca C_X5_hissesFrom 65 L [v1, .ref b] M = if clsO b = some 5 then rnk ca C_X5_hissesFrom 68 L [] (ca m_X5_begin [.ref b, v1] M) else none := (rn_at k_X5_hissesFrom_65).trans rnx_ite
theorem k_X5_hissesFrom_68 : lk 68 C_X5_hissesFrom = some (.aload_n 0, (0, 0, 0, 0)) := by decide +kernel
theorem s_X5_hissesFrom_68 {ca : Nat → List Value → tM → tO} {M : tM} {a1 a2 : Option Value} {x : Nat} {S : List Value} : rn ca C_X5_hissesFrom 68 [some (.ref x), a1, a2] S M = rn ca C_X5_hissesFrom 69 [some (.ref x), a1, a2] (.ref x :: S) M := (rn_at k_X5_hissesFrom_68).trans rfl
theorem k_X5_hissesFrom_69 : lk 69 C_X5_hissesFrom = some (.getstatic 42, (120, 0, 0, 100046)) := by decide +kernel
theorem s_X5_hissesFrom_69 {ca : Nat → List Value → tM → tO} {M : tM} {L : tL} {S : List Value} : rn ca C_X5_hissesFrom 69 L S M = rn ca C_X5_hissesFrom 72 L (.ref 120 :: S) M := (rn_at k_X5_hissesFrom_69).trans rfl
theorem k_X5_hissesFrom_72 : lk 72 C_X5_hissesFrom = some (.iconst 3, (0, 0, 0, 0)) := by decide +kernel
theorem s_X5_hissesFrom_72 {ca : Nat → List Value → tM → tO} {M : tM} {L : tL} {S : List Value} : rn ca C_X5_hissesFrom 72 L S M = rn ca C_X5_hissesFrom 73 L (.int (iI 3) :: S) M := (rn_at k_X5_hissesFrom_72).trans rfl
theorem k_X5_hissesFrom_73 : lk 73 C_X5_hissesFrom = some (.iaload, (0, 0, 0, 0)) := by decide +kernel
theorem s_X5_hissesFrom_73 {ca : Nat → List Value → tM → tO} {M : tM} {L : tL} {a : Nat} {i : Int32} {S : List Value} : rn ca C_X5_hissesFrom 73 L (.int i :: .ref a :: S) M = if (akind a = 0 ∨ akind a = 6 ∨ akind a = 7) ∧ inb i (alen M a) then rn ca C_X5_hissesFrom 74 L (.int (M.1 a i.toInt.toNat) :: S) M else none := (rn_at k_X5_hissesFrom_73).trans rnx_ite
theorem k_X5_hissesFrom_74 : lk 74 C_X5_hissesFrom = some (.iload_n 2, (0, 0, 0, 0)) := by decide +kernel
theorem s_X5_hissesFrom_74 {ca : Nat → List Value → tM → tO} {M : tM} {a0 a1 : Option Value} {x : Int32} {S : List Value} : rn ca C_X5_hissesFrom 74 [a0, a1, some (.int x)] S M = rn ca C_X5_hissesFrom 75 [a0, a1, some (.int x)] (.int x :: S) M := (rn_at k_X5_hissesFrom_74).trans rfl
theorem k_X5_hissesFrom_75 : lk 75 C_X5_hissesFrom = some (.invokevirtual 28, (41, 2, 5, 1174)) := by decide +kernel
theorem s_X5_hissesFrom_75 {ca : Nat → List Value → tM → tO} {M : tM} {L : tL} {v1 v2 : Value} {b : Nat} : rn ca C_X5_hissesFrom 75 L [v2, v1, .ref b] M = if clsO b = some 5 then rnk ca C_X5_hissesFrom 78 L [] (ca m_X5_hissesFrom [.ref b, v1, v2] M) else none := (rn_at k_X5_hissesFrom_75).trans rnx_ite
theorem k_X5_hissesFrom_78 : lk 78 C_X5_hissesFrom = some (.aload_n 0, (0, 0, 0, 0)) := by decide +kernel
theorem s_X5_hissesFrom_78 {ca : Nat → List Value → tM → tO} {M : tM} {a1 a2 : Option Value} {x : Nat} {S : List Value} : rn ca C_X5_hissesFrom 78 [some (.ref x), a1, a2] S M = rn ca C_X5_hissesFrom 79 [some (.ref x), a1, a2] (.ref x :: S) M := (rn_at k_X5_hissesFrom_78).trans rfl
theorem k_X5_hissesFrom_79 : lk 79 C_X5_hissesFrom = some (.getfield 22, (5, 3, 0, 140)) := by decide +kernel
theorem s_X5_hissesFrom_79 {ca : Nat → List Value → tM → tO} {M : tM} {L : tL} {b : Nat} {S : List Value} : rn ca C_X5_hissesFrom 79 L (.ref b :: S) M = if clsO b = some 5 then rn ca C_X5_hissesFrom 82 L (fv M b 3 :: S) M else none := (rn_at k_X5_hissesFrom_79).trans rnx_ite
theorem k_X5_hissesFrom_82 : lk 82 C_X5_hissesFrom = some (.isub, (0, 0, 0, 0)) := by decide +kernel
theorem s_X5_hissesFrom_82 {ca : Nat → List Value → tM → tO} {M : tM} {L : tL} {x y : Int32} {S : List Value} : rn ca C_X5_hissesFrom 82 L (.int y :: .int x :: S) M = rn ca C_X5_hissesFrom 83 L (.int (x - y) :: S) M := (rn_at k_X5_hissesFrom_82).trans rfl
theorem k_X5_hissesFrom_83 : lk 83 C_X5_hissesFrom = some (.ireturn, (0, 0, 0, 0)) := by decide +kernel
theorem s_X5_hissesFrom_83 {ca : Nat → List Value → tM → tO} {M : tM} {L : tL} {x : Int32} : rn ca C_X5_hissesFrom 83 L [.int x] M = some (some (.int x), M) := (rn_at k_X5_hissesFrom_83).trans rfl
theorem k_X5_hissesFrom_84 : lk 84 C_X5_hissesFrom = some (.aload_n 0, (0, 0, 0, 0)) := by decide +kernel
theorem s_X5_hissesFrom_84 {ca : Nat → List Value → tM → tO} {M : tM} {a1 a2 : Option Value} {x : Nat} {S : List Value} : rn ca C_X5_hissesFrom 84 [some (.ref x), a1, a2] S M = rn ca C_X5_hissesFrom 85 [some (.ref x), a1, a2] (.ref x :: S) M := (rn_at k_X5_hissesFrom_84).trans rfl
theorem k_X5_hissesFrom_85 : lk 85 C_X5_hissesFrom = some (.bipush 70, (0, 0, 0, 0)) := by decide +kernel
theorem s_X5_hissesFrom_85 {ca : Nat → List Value → tM → tO} {M : tM} {L : tL} {S : List Value} : rn ca C_X5_hissesFrom 85 L S M = rn ca C_X5_hissesFrom 87 L (.int (iI 70) :: S) M := (rn_at k_X5_hissesFrom_85).trans rfl
theorem k_X5_hissesFrom_87 : lk 87 C_X5_hissesFrom = some (.invokevirtual 38, (40, 1, 5, 1178)) := by decide +kernel
theorem s_X5_hissesFrom_87 {ca : Nat → List Value → tM → tO} {M : tM} {L : tL} {v1 : Value} {b : Nat} : rn ca C_X5_hissesFrom 87 L [v1, .ref b] M = if clsO b = some 5 then rnk ca C_X5_hissesFrom 90 L [] (ca m_X5_begin [.ref b, v1] M) else none := (rn_at k_X5_hissesFrom_87).trans rnx_ite
theorem k_X5_hissesFrom_90 : lk 90 C_X5_hissesFrom = some (.aload_n 0, (0, 0, 0, 0)) := by decide +kernel
theorem s_X5_hissesFrom_90 {ca : Nat → List Value → tM → tO} {M : tM} {a1 a2 : Option Value} {x : Nat} {S : List Value} : rn ca C_X5_hissesFrom 90 [some (.ref x), a1, a2] S M = rn ca C_X5_hissesFrom 91 [some (.ref x), a1, a2] (.ref x :: S) M := (rn_at k_X5_hissesFrom_90).trans rfl
theorem k_X5_hissesFrom_91 : lk 91 C_X5_hissesFrom = some (.getstatic 42, (120, 0, 0, 100046)) := by decide +kernel
theorem s_X5_hissesFrom_91 {ca : Nat → List Value → tM → tO} {M : tM} {L : tL} {S : List Value} : rn ca C_X5_hissesFrom 91 L S M = rn ca C_X5_hissesFrom 94 L (.ref 120 :: S) M := (rn_at k_X5_hissesFrom_91).trans rfl
theorem k_X5_hissesFrom_94 : lk 94 C_X5_hissesFrom = some (.bipush 6, (0, 0, 0, 0)) := by decide +kernel
theorem s_X5_hissesFrom_94 {ca : Nat → List Value → tM → tO} {M : tM} {L : tL} {S : List Value} : rn ca C_X5_hissesFrom 94 L S M = rn ca C_X5_hissesFrom 96 L (.int (iI 6) :: S) M := (rn_at k_X5_hissesFrom_94).trans rfl
theorem k_X5_hissesFrom_96 : lk 96 C_X5_hissesFrom = some (.iaload, (0, 0, 0, 0)) := by decide +kernel
theorem s_X5_hissesFrom_96 {ca : Nat → List Value → tM → tO} {M : tM} {L : tL} {a : Nat} {i : Int32} {S : List Value} : rn ca C_X5_hissesFrom 96 L (.int i :: .ref a :: S) M = if (akind a = 0 ∨ akind a = 6 ∨ akind a = 7) ∧ inb i (alen M a) then rn ca C_X5_hissesFrom 97 L (.int (M.1 a i.toInt.toNat) :: S) M else none := (rn_at k_X5_hissesFrom_96).trans rnx_ite
theorem k_X5_hissesFrom_97 : lk 97 C_X5_hissesFrom = some (.iload_n 2, (0, 0, 0, 0)) := by decide +kernel
theorem s_X5_hissesFrom_97 {ca : Nat → List Value → tM → tO} {M : tM} {a0 a1 : Option Value} {x : Int32} {S : List Value} : rn ca C_X5_hissesFrom 97 [a0, a1, some (.int x)] S M = rn ca C_X5_hissesFrom 98 [a0, a1, some (.int x)] (.int x :: S) M := (rn_at k_X5_hissesFrom_97).trans rfl
theorem k_X5_hissesFrom_98 : lk 98 C_X5_hissesFrom = some (.invokevirtual 28, (41, 2, 5, 1174)) := by decide +kernel
theorem s_X5_hissesFrom_98 {ca : Nat → List Value → tM → tO} {M : tM} {L : tL} {v1 v2 : Value} {b : Nat} : rn ca C_X5_hissesFrom 98 L [v2, v1, .ref b] M = if clsO b = some 5 then rnk ca C_X5_hissesFrom 101 L [] (ca m_X5_hissesFrom [.ref b, v1, v2] M) else none := (rn_at k_X5_hissesFrom_98).trans rnx_ite
theorem k_X5_hissesFrom_101 : lk 101 C_X5_hissesFrom = some (.iconst 2, (0, 0, 0, 0)) := by decide +kernel
theorem s_X5_hissesFrom_101 {ca : Nat → List Value → tM → tO} {M : tM} {L : tL} {S : List Value} : rn ca C_X5_hissesFrom 101 L S M = rn ca C_X5_hissesFrom 102 L (.int (iI 2) :: S) M := (rn_at k_X5_hissesFrom_101).trans rfl
theorem k_X5_hissesFrom_102 : lk 102 C_X5_hissesFrom = some (.imul, (0, 0, 0, 0)) := by decide +kernel
theorem s_X5_hissesFrom_102 {ca : Nat → List Value → tM → tO} {M : tM} {L : tL} {x y : Int32} {S : List Value} : rn ca C_X5_hissesFrom 102 L (.int y :: .int x :: S) M = rn ca C_X5_hissesFrom 103 L (.int (x * y) :: S) M := (rn_at k_X5_hissesFrom_102).trans rfl
theorem k_X5_hissesFrom_103 : lk 103 C_X5_hissesFrom = some (.ireturn, (0, 0, 0, 0)) := by decide +kernel
theorem s_X5_hissesFrom_103 {ca : Nat → List Value → tM → tO} {M : tM} {L : tL} {x : Int32} : rn ca C_X5_hissesFrom 103 L [.int x] M = some (some (.int x), M) := (rn_at k_X5_hissesFrom_103).trans rfl
theorem k_X5_hissesFrom_104 : lk 104 C_X5_hissesFrom = some (.aload_n 0, (0, 0, 0, 0)) := by decide +kernel
theorem s_X5_hissesFrom_104 {ca : Nat → List Value → tM → tO} {M : tM} {a1 a2 : Option Value} {x : Nat} {S : List Value} : rn ca C_X5_hissesFrom 104 [some (.ref x), a1, a2] S M = rn ca C_X5_hissesFrom 105 [some (.ref x), a1, a2] (.ref x :: S) M := (rn_at k_X5_hissesFrom_104).trans rfl
theorem k_X5_hissesFrom_105 : lk 105 C_X5_hissesFrom = some (.bipush 10, (0, 0, 0, 0)) := by decide +kernel
theorem s_X5_hissesFrom_105 {ca : Nat → List Value → tM → tO} {M : tM} {L : tL} {S : List Value} : rn ca C_X5_hissesFrom 105 L S M = rn ca C_X5_hissesFrom 107 L (.int (iI 10) :: S) M := (rn_at k_X5_hissesFrom_105).trans rfl
theorem k_X5_hissesFrom_107 : lk 107 C_X5_hissesFrom = some (.invokevirtual 38, (40, 1, 5, 1178)) := by decide +kernel
theorem s_X5_hissesFrom_107 {ca : Nat → List Value → tM → tO} {M : tM} {L : tL} {v1 : Value} {b : Nat} : rn ca C_X5_hissesFrom 107 L [v1, .ref b] M = if clsO b = some 5 then rnk ca C_X5_hissesFrom 110 L [] (ca m_X5_begin [.ref b, v1] M) else none := (rn_at k_X5_hissesFrom_107).trans rnx_ite
theorem k_X5_hissesFrom_110 : lk 110 C_X5_hissesFrom = some (.iload_n 2, (0, 0, 0, 0)) := by decide +kernel
theorem s_X5_hissesFrom_110 {ca : Nat → List Value → tM → tO} {M : tM} {a0 a1 : Option Value} {x : Int32} {S : List Value} : rn ca C_X5_hissesFrom 110 [a0, a1, some (.int x)] S M = rn ca C_X5_hissesFrom 111 [a0, a1, some (.int x)] (.int x :: S) M := (rn_at k_X5_hissesFrom_110).trans rfl
theorem k_X5_hissesFrom_111 : lk 111 C_X5_hissesFrom = some (.aload_n 0, (0, 0, 0, 0)) := by decide +kernel
theorem s_X5_hissesFrom_111 {ca : Nat → List Value → tM → tO} {M : tM} {a1 a2 : Option Value} {x : Nat} {S : List Value} : rn ca C_X5_hissesFrom 111 [some (.ref x), a1, a2] S M = rn ca C_X5_hissesFrom 112 [some (.ref x), a1, a2] (.ref x :: S) M := (rn_at k_X5_hissesFrom_111).trans rfl
theorem k_X5_hissesFrom_112 : lk 112 C_X5_hissesFrom = some (.getfield 22, (5, 3, 0, 140)) := by decide +kernel
theorem s_X5_hissesFrom_112 {ca : Nat → List Value → tM → tO} {M : tM} {L : tL} {b : Nat} {S : List Value} : rn ca C_X5_hissesFrom 112 L (.ref b :: S) M = if clsO b = some 5 then rn ca C_X5_hissesFrom 115 L (fv M b 3 :: S) M else none := (rn_at k_X5_hissesFrom_112).trans rnx_ite
theorem k_X5_hissesFrom_115 : lk 115 C_X5_hissesFrom = some (.iadd, (0, 0, 0, 0)) := by decide +kernel
theorem s_X5_hissesFrom_115 {ca : Nat → List Value → tM → tO} {M : tM} {L : tL} {x y : Int32} {S : List Value} : rn ca C_X5_hissesFrom 115 L (.int y :: .int x :: S) M = rn ca C_X5_hissesFrom 116 L (.int (x + y) :: S) M := (rn_at k_X5_hissesFrom_115).trans rfl
theorem k_X5_hissesFrom_116 : lk 116 C_X5_hissesFrom = some (.ireturn, (0, 0, 0, 0)) := by decide +kernel
theorem s_X5_hissesFrom_116 {ca : Nat → List Value → tM → tO} {M : tM} {L : tL} {x : Int32} : rn ca C_X5_hissesFrom 116 L [.int x] M = some (some (.int x), M) := (rn_at k_X5_hissesFrom_116).trans rfl
theorem k_X5_landsFrom_0 : lk 0 C_X5_landsFrom = some (.iload_n 1, (0, 0, 0, 0)) := by decide +kernel
theorem s_X5_landsFrom_0 {ca : Nat → List Value → tM → tO} {M : tM} {a0 a2 : Option Value} {x : Int32} {S : List Value} : rn ca C_X5_landsFrom 0 [a0, some (.int x), a2] S M = rn ca C_X5_landsFrom 1 [a0, some (.int x), a2] (.int x :: S) M := (rn_at k_X5_landsFrom_0).trans rfl
theorem k_X5_landsFrom_1 : lk 1 C_X5_landsFrom = some (.tableswitch 96 2 6 #[35, 96, 54, 96, 73], (0, 0, 0, 0)) := by decide +kernel
theorem s_X5_landsFrom_1 {ca : Nat → List Value → tM → tO} {M : tM} {L : tL} {x : Int32} {S : List Value} : rn ca C_X5_landsFrom 1 L (.int x :: S) M = if x = iI 2 then rn ca C_X5_landsFrom 36 L S M else if x = iI 3 then rn ca C_X5_landsFrom 97 L S M else if x = iI 4 then rn ca C_X5_landsFrom 55 L S M else if x = iI 5 then rn ca C_X5_landsFrom 97 L S M else if x = iI 6 then rn ca C_X5_landsFrom 74 L S M else rn ca C_X5_landsFrom 97 L S M := by rw [rn_at k_X5_landsFrom_1]; simp only [ta, tsw, lsw, rnx_ite]; rfl
theorem k_X5_landsFrom_36 : lk 36 C_X5_landsFrom = some (.aload_n 0, (0, 0, 0, 0)) := by decide +kernel
theorem s_X5_landsFrom_36 {ca : Nat → List Value → tM → tO} {M : tM} {a1 a2 : Option Value} {x : Nat} {S : List Value} : rn ca C_X5_landsFrom 36 [some (.ref x), a1, a2] S M = rn ca C_X5_landsFrom 37 [some (.ref x), a1, a2] (.ref x :: S) M := (rn_at k_X5_landsFrom_36).trans rfl
theorem k_X5_landsFrom_37 : lk 37 C_X5_landsFrom = some (.bipush 30, (0, 0, 0, 0)) := by decide +kernel
theorem s_X5_landsFrom_37 {ca : Nat → List Value → tM → tO} {M : tM} {L : tL} {S : List Value} : rn ca C_X5_landsFrom 37 L S M = rn ca C_X5_landsFrom 39 L (.int (iI 30) :: S) M := (rn_at k_X5_landsFrom_37).trans rfl
theorem k_X5_landsFrom_39 : lk 39 C_X5_landsFrom = some (.invokevirtual 38, (40, 1, 5, 1178)) := by decide +kernel
theorem s_X5_landsFrom_39 {ca : Nat → List Value → tM → tO} {M : tM} {L : tL} {v1 : Value} {b : Nat} : rn ca C_X5_landsFrom 39 L [v1, .ref b] M = if clsO b = some 5 then rnk ca C_X5_landsFrom 42 L [] (ca m_X5_begin [.ref b, v1] M) else none := (rn_at k_X5_landsFrom_39).trans rnx_ite
theorem k_X5_landsFrom_42 : lk 42 C_X5_landsFrom = some (.aload_n 0, (0, 0, 0, 0)) := by decide +kernel
theorem s_X5_landsFrom_42 {ca : Nat → List Value → tM → tO} {M : tM} {a1 a2 : Option Value} {x : Nat} {S : List Value} : rn ca C_X5_landsFrom 42 [some (.ref x), a1, a2] S M = rn ca C_X5_landsFrom 43 [some (.ref x), a1, a2] (.ref x :: S) M := (rn_at k_X5_landsFrom_42).trans rfl
theorem k_X5_landsFrom_43 : lk 43 C_X5_landsFrom = some (.getstatic 42, (120, 0, 0, 100046)) := by decide +kernel
theorem s_X5_landsFrom_43 {ca : Nat → List Value → tM → tO} {M : tM} {L : tL} {S : List Value} : rn ca C_X5_landsFrom 43 L S M = rn ca C_X5_landsFrom 46 L (.ref 120 :: S) M := (rn_at k_X5_landsFrom_43).trans rfl
theorem k_X5_landsFrom_46 : lk 46 C_X5_landsFrom = some (.iconst 2, (0, 0, 0, 0)) := by decide +kernel
theorem s_X5_landsFrom_46 {ca : Nat → List Value → tM → tO} {M : tM} {L : tL} {S : List Value} : rn ca C_X5_landsFrom 46 L S M = rn ca C_X5_landsFrom 47 L (.int (iI 2) :: S) M := (rn_at k_X5_landsFrom_46).trans rfl
theorem k_X5_landsFrom_47 : lk 47 C_X5_landsFrom = some (.iaload, (0, 0, 0, 0)) := by decide +kernel
theorem s_X5_landsFrom_47 {ca : Nat → List Value → tM → tO} {M : tM} {L : tL} {a : Nat} {i : Int32} {S : List Value} : rn ca C_X5_landsFrom 47 L (.int i :: .ref a :: S) M = if (akind a = 0 ∨ akind a = 6 ∨ akind a = 7) ∧ inb i (alen M a) then rn ca C_X5_landsFrom 48 L (.int (M.1 a i.toInt.toNat) :: S) M else none := (rn_at k_X5_landsFrom_47).trans rnx_ite
theorem k_X5_landsFrom_48 : lk 48 C_X5_landsFrom = some (.iload_n 2, (0, 0, 0, 0)) := by decide +kernel
theorem s_X5_landsFrom_48 {ca : Nat → List Value → tM → tO} {M : tM} {a0 a1 : Option Value} {x : Int32} {S : List Value} : rn ca C_X5_landsFrom 48 [a0, a1, some (.int x)] S M = rn ca C_X5_landsFrom 49 [a0, a1, some (.int x)] (.int x :: S) M := (rn_at k_X5_landsFrom_48).trans rfl
theorem k_X5_landsFrom_49 : lk 49 C_X5_landsFrom = some (.invokevirtual 32, (42, 2, 5, 1182)) := by decide +kernel
theorem s_X5_landsFrom_49 {ca : Nat → List Value → tM → tO} {M : tM} {L : tL} {v1 v2 : Value} {b : Nat} : rn ca C_X5_landsFrom 49 L [v2, v1, .ref b] M = if clsO b = some 5 then rnk ca C_X5_landsFrom 52 L [] (ca m_X5_landsFrom [.ref b, v1, v2] M) else none := (rn_at k_X5_landsFrom_49).trans rnx_ite
theorem k_X5_landsFrom_52 : lk 52 C_X5_landsFrom = some (.iconst 3, (0, 0, 0, 0)) := by decide +kernel
theorem s_X5_landsFrom_52 {ca : Nat → List Value → tM → tO} {M : tM} {L : tL} {S : List Value} : rn ca C_X5_landsFrom 52 L S M = rn ca C_X5_landsFrom 53 L (.int (iI 3) :: S) M := (rn_at k_X5_landsFrom_52).trans rfl
theorem k_X5_landsFrom_53 : lk 53 C_X5_landsFrom = some (.imul, (0, 0, 0, 0)) := by decide +kernel
theorem s_X5_landsFrom_53 {ca : Nat → List Value → tM → tO} {M : tM} {L : tL} {x y : Int32} {S : List Value} : rn ca C_X5_landsFrom 53 L (.int y :: .int x :: S) M = rn ca C_X5_landsFrom 54 L (.int (x * y) :: S) M := (rn_at k_X5_landsFrom_53).trans rfl
theorem k_X5_landsFrom_54 : lk 54 C_X5_landsFrom = some (.ireturn, (0, 0, 0, 0)) := by decide +kernel
theorem s_X5_landsFrom_54 {ca : Nat → List Value → tM → tO} {M : tM} {L : tL} {x : Int32} : rn ca C_X5_landsFrom 54 L [.int x] M = some (some (.int x), M) := (rn_at k_X5_landsFrom_54).trans rfl
theorem k_X5_landsFrom_55 : lk 55 C_X5_landsFrom = some (.aload_n 0, (0, 0, 0, 0)) := by decide +kernel
theorem s_X5_landsFrom_55 {ca : Nat → List Value → tM → tO} {M : tM} {a1 a2 : Option Value} {x : Nat} {S : List Value} : rn ca C_X5_landsFrom 55 [some (.ref x), a1, a2] S M = rn ca C_X5_landsFrom 56 [some (.ref x), a1, a2] (.ref x :: S) M := (rn_at k_X5_landsFrom_55).trans rfl
theorem k_X5_landsFrom_56 : lk 56 C_X5_landsFrom = some (.bipush 50, (0, 0, 0, 0)) := by decide +kernel
theorem s_X5_landsFrom_56 {ca : Nat → List Value → tM → tO} {M : tM} {L : tL} {S : List Value} : rn ca C_X5_landsFrom 56 L S M = rn ca C_X5_landsFrom 58 L (.int (iI 50) :: S) M := (rn_at k_X5_landsFrom_56).trans rfl
theorem k_X5_landsFrom_58 : lk 58 C_X5_landsFrom = some (.invokevirtual 38, (40, 1, 5, 1178)) := by decide +kernel
theorem s_X5_landsFrom_58 {ca : Nat → List Value → tM → tO} {M : tM} {L : tL} {v1 : Value} {b : Nat} : rn ca C_X5_landsFrom 58 L [v1, .ref b] M = if clsO b = some 5 then rnk ca C_X5_landsFrom 61 L [] (ca m_X5_begin [.ref b, v1] M) else none := (rn_at k_X5_landsFrom_58).trans rnx_ite
theorem k_X5_landsFrom_61 : lk 61 C_X5_landsFrom = some (.aload_n 0, (0, 0, 0, 0)) := by decide +kernel
theorem s_X5_landsFrom_61 {ca : Nat → List Value → tM → tO} {M : tM} {a1 a2 : Option Value} {x : Nat} {S : List Value} : rn ca C_X5_landsFrom 61 [some (.ref x), a1, a2] S M = rn ca C_X5_landsFrom 62 [some (.ref x), a1, a2] (.ref x :: S) M := (rn_at k_X5_landsFrom_61).trans rfl
theorem k_X5_landsFrom_62 : lk 62 C_X5_landsFrom = some (.getstatic 42, (120, 0, 0, 100046)) := by decide +kernel
theorem s_X5_landsFrom_62 {ca : Nat → List Value → tM → tO} {M : tM} {L : tL} {S : List Value} : rn ca C_X5_landsFrom 62 L S M = rn ca C_X5_landsFrom 65 L (.ref 120 :: S) M := (rn_at k_X5_landsFrom_62).trans rfl
theorem k_X5_landsFrom_65 : lk 65 C_X5_landsFrom = some (.iconst 4, (0, 0, 0, 0)) := by decide +kernel
theorem s_X5_landsFrom_65 {ca : Nat → List Value → tM → tO} {M : tM} {L : tL} {S : List Value} : rn ca C_X5_landsFrom 65 L S M = rn ca C_X5_landsFrom 66 L (.int (iI 4) :: S) M := (rn_at k_X5_landsFrom_65).trans rfl
theorem k_X5_landsFrom_66 : lk 66 C_X5_landsFrom = some (.iaload, (0, 0, 0, 0)) := by decide +kernel
theorem s_X5_landsFrom_66 {ca : Nat → List Value → tM → tO} {M : tM} {L : tL} {a : Nat} {i : Int32} {S : List Value} : rn ca C_X5_landsFrom 66 L (.int i :: .ref a :: S) M = if (akind a = 0 ∨ akind a = 6 ∨ akind a = 7) ∧ inb i (alen M a) then rn ca C_X5_landsFrom 67 L (.int (M.1 a i.toInt.toNat) :: S) M else none := (rn_at k_X5_landsFrom_66).trans rnx_ite
theorem k_X5_landsFrom_67 : lk 67 C_X5_landsFrom = some (.iload_n 2, (0, 0, 0, 0)) := by decide +kernel
theorem s_X5_landsFrom_67 {ca : Nat → List Value → tM → tO} {M : tM} {a0 a1 : Option Value} {x : Int32} {S : List Value} : rn ca C_X5_landsFrom 67 [a0, a1, some (.int x)] S M = rn ca C_X5_landsFrom 68 [a0, a1, some (.int x)] (.int x :: S) M := (rn_at k_X5_landsFrom_67).trans rfl
theorem k_X5_landsFrom_68 : lk 68 C_X5_landsFrom = some (.iconst 1, (0, 0, 0, 0)) := by decide +kernel
theorem s_X5_landsFrom_68 {ca : Nat → List Value → tM → tO} {M : tM} {L : tL} {S : List Value} : rn ca C_X5_landsFrom 68 L S M = rn ca C_X5_landsFrom 69 L (.int (iI 1) :: S) M := (rn_at k_X5_landsFrom_68).trans rfl
theorem k_X5_landsFrom_69 : lk 69 C_X5_landsFrom = some (.iadd, (0, 0, 0, 0)) := by decide +kernel
theorem s_X5_landsFrom_69 {ca : Nat → List Value → tM → tO} {M : tM} {L : tL} {x y : Int32} {S : List Value} : rn ca C_X5_landsFrom 69 L (.int y :: .int x :: S) M = rn ca C_X5_landsFrom 70 L (.int (x + y) :: S) M := (rn_at k_X5_landsFrom_69).trans rfl
theorem k_X5_landsFrom_70 : lk 70 C_X5_landsFrom = some (.invokevirtual 32, (42, 2, 5, 1182)) := by decide +kernel
theorem s_X5_landsFrom_70 {ca : Nat → List Value → tM → tO} {M : tM} {L : tL} {v1 v2 : Value} {b : Nat} : rn ca C_X5_landsFrom 70 L [v2, v1, .ref b] M = if clsO b = some 5 then rnk ca C_X5_landsFrom 73 L [] (ca m_X5_landsFrom [.ref b, v1, v2] M) else none := (rn_at k_X5_landsFrom_70).trans rnx_ite
theorem k_X5_landsFrom_73 : lk 73 C_X5_landsFrom = some (.ireturn, (0, 0, 0, 0)) := by decide +kernel
theorem s_X5_landsFrom_73 {ca : Nat → List Value → tM → tO} {M : tM} {L : tL} {x : Int32} : rn ca C_X5_landsFrom 73 L [.int x] M = some (some (.int x), M) := (rn_at k_X5_landsFrom_73).trans rfl
theorem k_X5_landsFrom_74 : lk 74 C_X5_landsFrom = some (.aload_n 0, (0, 0, 0, 0)) := by decide +kernel
theorem s_X5_landsFrom_74 {ca : Nat → List Value → tM → tO} {M : tM} {a1 a2 : Option Value} {x : Nat} {S : List Value} : rn ca C_X5_landsFrom 74 [some (.ref x), a1, a2] S M = rn ca C_X5_landsFrom 75 [some (.ref x), a1, a2] (.ref x :: S) M := (rn_at k_X5_landsFrom_74).trans rfl
theorem k_X5_landsFrom_75 : lk 75 C_X5_landsFrom = some (.bipush 71, (0, 0, 0, 0)) := by decide +kernel
theorem s_X5_landsFrom_75 {ca : Nat → List Value → tM → tO} {M : tM} {L : tL} {S : List Value} : rn ca C_X5_landsFrom 75 L S M = rn ca C_X5_landsFrom 77 L (.int (iI 71) :: S) M := (rn_at k_X5_landsFrom_75).trans rfl
theorem k_X5_landsFrom_77 : lk 77 C_X5_landsFrom = some (.invokevirtual 38, (40, 1, 5, 1178)) := by decide +kernel
theorem s_X5_landsFrom_77 {ca : Nat → List Value → tM → tO} {M : tM} {L : tL} {v1 : Value} {b : Nat} : rn ca C_X5_landsFrom 77 L [v1, .ref b] M = if clsO b = some 5 then rnk ca C_X5_landsFrom 80 L [] (ca m_X5_begin [.ref b, v1] M) else none := (rn_at k_X5_landsFrom_77).trans rnx_ite
theorem k_X5_landsFrom_80 : lk 80 C_X5_landsFrom = some (.aload_n 0, (0, 0, 0, 0)) := by decide +kernel
theorem s_X5_landsFrom_80 {ca : Nat → List Value → tM → tO} {M : tM} {a1 a2 : Option Value} {x : Nat} {S : List Value} : rn ca C_X5_landsFrom 80 [some (.ref x), a1, a2] S M = rn ca C_X5_landsFrom 81 [some (.ref x), a1, a2] (.ref x :: S) M := (rn_at k_X5_landsFrom_80).trans rfl
theorem k_X5_landsFrom_81 : lk 81 C_X5_landsFrom = some (.getstatic 42, (120, 0, 0, 100046)) := by decide +kernel
theorem s_X5_landsFrom_81 {ca : Nat → List Value → tM → tO} {M : tM} {L : tL} {S : List Value} : rn ca C_X5_landsFrom 81 L S M = rn ca C_X5_landsFrom 84 L (.ref 120 :: S) M := (rn_at k_X5_landsFrom_81).trans rfl
theorem k_X5_landsFrom_84 : lk 84 C_X5_landsFrom = some (.bipush 6, (0, 0, 0, 0)) := by decide +kernel
theorem s_X5_landsFrom_84 {ca : Nat → List Value → tM → tO} {M : tM} {L : tL} {S : List Value} : rn ca C_X5_landsFrom 84 L S M = rn ca C_X5_landsFrom 86 L (.int (iI 6) :: S) M := (rn_at k_X5_landsFrom_84).trans rfl
theorem k_X5_landsFrom_86 : lk 86 C_X5_landsFrom = some (.iaload, (0, 0, 0, 0)) := by decide +kernel
theorem s_X5_landsFrom_86 {ca : Nat → List Value → tM → tO} {M : tM} {L : tL} {a : Nat} {i : Int32} {S : List Value} : rn ca C_X5_landsFrom 86 L (.int i :: .ref a :: S) M = if (akind a = 0 ∨ akind a = 6 ∨ akind a = 7) ∧ inb i (alen M a) then rn ca C_X5_landsFrom 87 L (.int (M.1 a i.toInt.toNat) :: S) M else none := (rn_at k_X5_landsFrom_86).trans rnx_ite
theorem k_X5_landsFrom_87 : lk 87 C_X5_landsFrom = some (.iload_n 2, (0, 0, 0, 0)) := by decide +kernel
theorem s_X5_landsFrom_87 {ca : Nat → List Value → tM → tO} {M : tM} {a0 a1 : Option Value} {x : Int32} {S : List Value} : rn ca C_X5_landsFrom 87 [a0, a1, some (.int x)] S M = rn ca C_X5_landsFrom 88 [a0, a1, some (.int x)] (.int x :: S) M := (rn_at k_X5_landsFrom_87).trans rfl
theorem k_X5_landsFrom_88 : lk 88 C_X5_landsFrom = some (.aload_n 0, (0, 0, 0, 0)) := by decide +kernel
theorem s_X5_landsFrom_88 {ca : Nat → List Value → tM → tO} {M : tM} {a1 a2 : Option Value} {x : Nat} {S : List Value} : rn ca C_X5_landsFrom 88 [some (.ref x), a1, a2] S M = rn ca C_X5_landsFrom 89 [some (.ref x), a1, a2] (.ref x :: S) M := (rn_at k_X5_landsFrom_88).trans rfl
theorem k_X5_landsFrom_89 : lk 89 C_X5_landsFrom = some (.getfield 25, (5, 4, 0, 141)) := by decide +kernel
theorem s_X5_landsFrom_89 {ca : Nat → List Value → tM → tO} {M : tM} {L : tL} {b : Nat} {S : List Value} : rn ca C_X5_landsFrom 89 L (.ref b :: S) M = if clsO b = some 5 then rn ca C_X5_landsFrom 92 L (fv M b 4 :: S) M else none := (rn_at k_X5_landsFrom_89).trans rnx_ite
theorem k_X5_landsFrom_92 : lk 92 C_X5_landsFrom = some (.isub, (0, 0, 0, 0)) := by decide +kernel
theorem s_X5_landsFrom_92 {ca : Nat → List Value → tM → tO} {M : tM} {L : tL} {x y : Int32} {S : List Value} : rn ca C_X5_landsFrom 92 L (.int y :: .int x :: S) M = rn ca C_X5_landsFrom 93 L (.int (x - y) :: S) M := (rn_at k_X5_landsFrom_92).trans rfl
theorem k_X5_landsFrom_93 : lk 93 C_X5_landsFrom = some (.invokevirtual 32, (42, 2, 5, 1182)) := by decide +kernel
theorem s_X5_landsFrom_93 {ca : Nat → List Value → tM → tO} {M : tM} {L : tL} {v1 v2 : Value} {b : Nat} : rn ca C_X5_landsFrom 93 L [v2, v1, .ref b] M = if clsO b = some 5 then rnk ca C_X5_landsFrom 96 L [] (ca m_X5_landsFrom [.ref b, v1, v2] M) else none := (rn_at k_X5_landsFrom_93).trans rnx_ite
theorem k_X5_landsFrom_96 : lk 96 C_X5_landsFrom = some (.ireturn, (0, 0, 0, 0)) := by decide +kernel
theorem s_X5_landsFrom_96 {ca : Nat → List Value → tM → tO} {M : tM} {L : tL} {x : Int32} : rn ca C_X5_landsFrom 96 L [.int x] M = some (some (.int x), M) := (rn_at k_X5_landsFrom_96).trans rfl
theorem k_X5_landsFrom_97 : lk 97 C_X5_landsFrom = some (.aload_n 0, (0, 0, 0, 0)) := by decide +kernel
theorem s_X5_landsFrom_97 {ca : Nat → List Value → tM → tO} {M : tM} {a1 a2 : Option Value} {x : Nat} {S : List Value} : rn ca C_X5_landsFrom 97 [some (.ref x), a1, a2] S M = rn ca C_X5_landsFrom 98 [some (.ref x), a1, a2] (.ref x :: S) M := (rn_at k_X5_landsFrom_97).trans rfl
theorem k_X5_landsFrom_98 : lk 98 C_X5_landsFrom = some (.bipush 11, (0, 0, 0, 0)) := by decide +kernel
theorem s_X5_landsFrom_98 {ca : Nat → List Value → tM → tO} {M : tM} {L : tL} {S : List Value} : rn ca C_X5_landsFrom 98 L S M = rn ca C_X5_landsFrom 100 L (.int (iI 11) :: S) M := (rn_at k_X5_landsFrom_98).trans rfl
theorem k_X5_landsFrom_100 : lk 100 C_X5_landsFrom = some (.invokevirtual 38, (40, 1, 5, 1178)) := by decide +kernel
theorem s_X5_landsFrom_100 {ca : Nat → List Value → tM → tO} {M : tM} {L : tL} {v1 : Value} {b : Nat} : rn ca C_X5_landsFrom 100 L [v1, .ref b] M = if clsO b = some 5 then rnk ca C_X5_landsFrom 103 L [] (ca m_X5_begin [.ref b, v1] M) else none := (rn_at k_X5_landsFrom_100).trans rnx_ite
theorem k_X5_landsFrom_103 : lk 103 C_X5_landsFrom = some (.aload_n 0, (0, 0, 0, 0)) := by decide +kernel
theorem s_X5_landsFrom_103 {ca : Nat → List Value → tM → tO} {M : tM} {a1 a2 : Option Value} {x : Nat} {S : List Value} : rn ca C_X5_landsFrom 103 [some (.ref x), a1, a2] S M = rn ca C_X5_landsFrom 104 [some (.ref x), a1, a2] (.ref x :: S) M := (rn_at k_X5_landsFrom_103).trans rfl
theorem k_X5_landsFrom_104 : lk 104 C_X5_landsFrom = some (.aload_n 0, (0, 0, 0, 0)) := by decide +kernel
theorem s_X5_landsFrom_104 {ca : Nat → List Value → tM → tO} {M : tM} {a1 a2 : Option Value} {x : Nat} {S : List Value} : rn ca C_X5_landsFrom 104 [some (.ref x), a1, a2] S M = rn ca C_X5_landsFrom 105 [some (.ref x), a1, a2] (.ref x :: S) M := (rn_at k_X5_landsFrom_104).trans rfl
theorem k_X5_landsFrom_105 : lk 105 C_X5_landsFrom = some (.getfield 19, (5, 2, 0, 139)) := by decide +kernel
theorem s_X5_landsFrom_105 {ca : Nat → List Value → tM → tO} {M : tM} {L : tL} {b : Nat} {S : List Value} : rn ca C_X5_landsFrom 105 L (.ref b :: S) M = if clsO b = some 5 then rn ca C_X5_landsFrom 108 L (fv M b 2 :: S) M else none := (rn_at k_X5_landsFrom_105).trans rnx_ite
theorem k_X5_landsFrom_108 : lk 108 C_X5_landsFrom = some (.iload_n 2, (0, 0, 0, 0)) := by decide +kernel
theorem s_X5_landsFrom_108 {ca : Nat → List Value → tM → tO} {M : tM} {a0 a1 : Option Value} {x : Int32} {S : List Value} : rn ca C_X5_landsFrom 108 [a0, a1, some (.int x)] S M = rn ca C_X5_landsFrom 109 [a0, a1, some (.int x)] (.int x :: S) M := (rn_at k_X5_landsFrom_108).trans rfl
theorem k_X5_landsFrom_109 : lk 109 C_X5_landsFrom = some (.invokevirtual 28, (41, 2, 5, 1174)) := by decide +kernel
theorem s_X5_landsFrom_109 {ca : Nat → List Value → tM → tO} {M : tM} {L : tL} {v1 v2 : Value} {b : Nat} : rn ca C_X5_landsFrom 109 L [v2, v1, .ref b] M = if clsO b = some 5 then rnk ca C_X5_landsFrom 112 L [] (ca m_X5_hissesFrom [.ref b, v1, v2] M) else none := (rn_at k_X5_landsFrom_109).trans rnx_ite
theorem k_X5_landsFrom_112 : lk 112 C_X5_landsFrom = some (.iconst 2, (0, 0, 0, 0)) := by decide +kernel
theorem s_X5_landsFrom_112 {ca : Nat → List Value → tM → tO} {M : tM} {L : tL} {S : List Value} : rn ca C_X5_landsFrom 112 L S M = rn ca C_X5_landsFrom 113 L (.int (iI 2) :: S) M := (rn_at k_X5_landsFrom_112).trans rfl
theorem k_X5_landsFrom_113 : lk 113 C_X5_landsFrom = some (.imul, (0, 0, 0, 0)) := by decide +kernel
theorem s_X5_landsFrom_113 {ca : Nat → List Value → tM → tO} {M : tM} {L : tL} {x y : Int32} {S : List Value} : rn ca C_X5_landsFrom 113 L (.int y :: .int x :: S) M = rn ca C_X5_landsFrom 114 L (.int (x * y) :: S) M := (rn_at k_X5_landsFrom_113).trans rfl
theorem k_X5_landsFrom_114 : lk 114 C_X5_landsFrom = some (.ireturn, (0, 0, 0, 0)) := by decide +kernel
theorem s_X5_landsFrom_114 {ca : Nat → List Value → tM → tO} {M : tM} {L : tL} {x : Int32} : rn ca C_X5_landsFrom 114 L [.int x] M = some (some (.int x), M) := (rn_at k_X5_landsFrom_114).trans rfl
theorem k_X5_signsFrom_0 : lk 0 C_X5_signsFrom = some (.iload_n 1, (0, 0, 0, 0)) := by decide +kernel
theorem s_X5_signsFrom_0 {ca : Nat → List Value → tM → tO} {M : tM} {a0 a2 : Option Value} {x : Int32} {S : List Value} : rn ca C_X5_signsFrom 0 [a0, some (.int x), a2] S M = rn ca C_X5_signsFrom 1 [a0, some (.int x), a2] (.int x :: S) M := (rn_at k_X5_signsFrom_0).trans rfl
theorem k_X5_signsFrom_1 : lk 1 C_X5_signsFrom = some (.tableswitch 64 3 5 #[27, 27, 45], (0, 0, 0, 0)) := by decide +kernel
theorem s_X5_signsFrom_1 {ca : Nat → List Value → tM → tO} {M : tM} {L : tL} {x : Int32} {S : List Value} : rn ca C_X5_signsFrom 1 L (.int x :: S) M = if x = iI 3 then rn ca C_X5_signsFrom 28 L S M else if x = iI 4 then rn ca C_X5_signsFrom 28 L S M else if x = iI 5 then rn ca C_X5_signsFrom 46 L S M else rn ca C_X5_signsFrom 65 L S M := by rw [rn_at k_X5_signsFrom_1]; simp only [ta, tsw, lsw, rnx_ite]; rfl
theorem k_X5_signsFrom_28 : lk 28 C_X5_signsFrom = some (.aload_n 0, (0, 0, 0, 0)) := by decide +kernel
theorem s_X5_signsFrom_28 {ca : Nat → List Value → tM → tO} {M : tM} {a1 a2 : Option Value} {x : Nat} {S : List Value} : rn ca C_X5_signsFrom 28 [some (.ref x), a1, a2] S M = rn ca C_X5_signsFrom 29 [some (.ref x), a1, a2] (.ref x :: S) M := (rn_at k_X5_signsFrom_28).trans rfl
theorem k_X5_signsFrom_29 : lk 29 C_X5_signsFrom = some (.bipush 40, (0, 0, 0, 0)) := by decide +kernel
theorem s_X5_signsFrom_29 {ca : Nat → List Value → tM → tO} {M : tM} {L : tL} {S : List Value} : rn ca C_X5_signsFrom 29 L S M = rn ca C_X5_signsFrom 31 L (.int (iI 40) :: S) M := (rn_at k_X5_signsFrom_29).trans rfl
theorem k_X5_signsFrom_31 : lk 31 C_X5_signsFrom = some (.invokevirtual 38, (40, 1, 5, 1178)) := by decide +kernel
theorem s_X5_signsFrom_31 {ca : Nat → List Value → tM → tO} {M : tM} {L : tL} {v1 : Value} {b : Nat} : rn ca C_X5_signsFrom 31 L [v1, .ref b] M = if clsO b = some 5 then rnk ca C_X5_signsFrom 34 L [] (ca m_X5_begin [.ref b, v1] M) else none := (rn_at k_X5_signsFrom_31).trans rnx_ite
theorem k_X5_signsFrom_34 : lk 34 C_X5_signsFrom = some (.aload_n 0, (0, 0, 0, 0)) := by decide +kernel
theorem s_X5_signsFrom_34 {ca : Nat → List Value → tM → tO} {M : tM} {a1 a2 : Option Value} {x : Nat} {S : List Value} : rn ca C_X5_signsFrom 34 [some (.ref x), a1, a2] S M = rn ca C_X5_signsFrom 35 [some (.ref x), a1, a2] (.ref x :: S) M := (rn_at k_X5_signsFrom_34).trans rfl
theorem k_X5_signsFrom_35 : lk 35 C_X5_signsFrom = some (.getstatic 42, (120, 0, 0, 100046)) := by decide +kernel
theorem s_X5_signsFrom_35 {ca : Nat → List Value → tM → tO} {M : tM} {L : tL} {S : List Value} : rn ca C_X5_signsFrom 35 L S M = rn ca C_X5_signsFrom 38 L (.ref 120 :: S) M := (rn_at k_X5_signsFrom_35).trans rfl
theorem k_X5_signsFrom_38 : lk 38 C_X5_signsFrom = some (.iconst 3, (0, 0, 0, 0)) := by decide +kernel
theorem s_X5_signsFrom_38 {ca : Nat → List Value → tM → tO} {M : tM} {L : tL} {S : List Value} : rn ca C_X5_signsFrom 38 L S M = rn ca C_X5_signsFrom 39 L (.int (iI 3) :: S) M := (rn_at k_X5_signsFrom_38).trans rfl
theorem k_X5_signsFrom_39 : lk 39 C_X5_signsFrom = some (.iaload, (0, 0, 0, 0)) := by decide +kernel
theorem s_X5_signsFrom_39 {ca : Nat → List Value → tM → tO} {M : tM} {L : tL} {a : Nat} {i : Int32} {S : List Value} : rn ca C_X5_signsFrom 39 L (.int i :: .ref a :: S) M = if (akind a = 0 ∨ akind a = 6 ∨ akind a = 7) ∧ inb i (alen M a) then rn ca C_X5_signsFrom 40 L (.int (M.1 a i.toInt.toNat) :: S) M else none := (rn_at k_X5_signsFrom_39).trans rnx_ite
theorem k_X5_signsFrom_40 : lk 40 C_X5_signsFrom = some (.iload_n 2, (0, 0, 0, 0)) := by decide +kernel
theorem s_X5_signsFrom_40 {ca : Nat → List Value → tM → tO} {M : tM} {a0 a1 : Option Value} {x : Int32} {S : List Value} : rn ca C_X5_signsFrom 40 [a0, a1, some (.int x)] S M = rn ca C_X5_signsFrom 41 [a0, a1, some (.int x)] (.int x :: S) M := (rn_at k_X5_signsFrom_40).trans rfl
theorem k_X5_signsFrom_41 : lk 41 C_X5_signsFrom = some (.invokevirtual 35, (43, 2, 5, 1186)) := by decide +kernel
theorem s_X5_signsFrom_41 {ca : Nat → List Value → tM → tO} {M : tM} {L : tL} {v1 v2 : Value} {b : Nat} : rn ca C_X5_signsFrom 41 L [v2, v1, .ref b] M = if clsO b = some 5 then rnk ca C_X5_signsFrom 44 L [] (ca m_X5_signsFrom [.ref b, v1, v2] M) else none := (rn_at k_X5_signsFrom_41).trans rnx_ite
theorem k_X5_signsFrom_44 : lk 44 C_X5_signsFrom = some (.ineg, (0, 0, 0, 0)) := by decide +kernel
theorem s_X5_signsFrom_44 {ca : Nat → List Value → tM → tO} {M : tM} {L : tL} {x : Int32} {S : List Value} : rn ca C_X5_signsFrom 44 L (.int x :: S) M = rn ca C_X5_signsFrom 45 L (.int (-x) :: S) M := (rn_at k_X5_signsFrom_44).trans rfl
theorem k_X5_signsFrom_45 : lk 45 C_X5_signsFrom = some (.ireturn, (0, 0, 0, 0)) := by decide +kernel
theorem s_X5_signsFrom_45 {ca : Nat → List Value → tM → tO} {M : tM} {L : tL} {x : Int32} : rn ca C_X5_signsFrom 45 L [.int x] M = some (some (.int x), M) := (rn_at k_X5_signsFrom_45).trans rfl
theorem k_X5_signsFrom_46 : lk 46 C_X5_signsFrom = some (.aload_n 0, (0, 0, 0, 0)) := by decide +kernel
theorem s_X5_signsFrom_46 {ca : Nat → List Value → tM → tO} {M : tM} {a1 a2 : Option Value} {x : Nat} {S : List Value} : rn ca C_X5_signsFrom 46 [some (.ref x), a1, a2] S M = rn ca C_X5_signsFrom 47 [some (.ref x), a1, a2] (.ref x :: S) M := (rn_at k_X5_signsFrom_46).trans rfl
theorem k_X5_signsFrom_47 : lk 47 C_X5_signsFrom = some (.bipush 60, (0, 0, 0, 0)) := by decide +kernel
theorem s_X5_signsFrom_47 {ca : Nat → List Value → tM → tO} {M : tM} {L : tL} {S : List Value} : rn ca C_X5_signsFrom 47 L S M = rn ca C_X5_signsFrom 49 L (.int (iI 60) :: S) M := (rn_at k_X5_signsFrom_47).trans rfl
theorem k_X5_signsFrom_49 : lk 49 C_X5_signsFrom = some (.invokevirtual 38, (40, 1, 5, 1178)) := by decide +kernel
theorem s_X5_signsFrom_49 {ca : Nat → List Value → tM → tO} {M : tM} {L : tL} {v1 : Value} {b : Nat} : rn ca C_X5_signsFrom 49 L [v1, .ref b] M = if clsO b = some 5 then rnk ca C_X5_signsFrom 52 L [] (ca m_X5_begin [.ref b, v1] M) else none := (rn_at k_X5_signsFrom_49).trans rnx_ite
theorem k_X5_signsFrom_52 : lk 52 C_X5_signsFrom = some (.aload_n 0, (0, 0, 0, 0)) := by decide +kernel
theorem s_X5_signsFrom_52 {ca : Nat → List Value → tM → tO} {M : tM} {a1 a2 : Option Value} {x : Nat} {S : List Value} : rn ca C_X5_signsFrom 52 [some (.ref x), a1, a2] S M = rn ca C_X5_signsFrom 53 [some (.ref x), a1, a2] (.ref x :: S) M := (rn_at k_X5_signsFrom_52).trans rfl
theorem k_X5_signsFrom_53 : lk 53 C_X5_signsFrom = some (.getstatic 42, (120, 0, 0, 100046)) := by decide +kernel
theorem s_X5_signsFrom_53 {ca : Nat → List Value → tM → tO} {M : tM} {L : tL} {S : List Value} : rn ca C_X5_signsFrom 53 L S M = rn ca C_X5_signsFrom 56 L (.ref 120 :: S) M := (rn_at k_X5_signsFrom_53).trans rfl
theorem k_X5_signsFrom_56 : lk 56 C_X5_signsFrom = some (.iconst 5, (0, 0, 0, 0)) := by decide +kernel
theorem s_X5_signsFrom_56 {ca : Nat → List Value → tM → tO} {M : tM} {L : tL} {S : List Value} : rn ca C_X5_signsFrom 56 L S M = rn ca C_X5_signsFrom 57 L (.int (iI 5) :: S) M := (rn_at k_X5_signsFrom_56).trans rfl
theorem k_X5_signsFrom_57 : lk 57 C_X5_signsFrom = some (.iaload, (0, 0, 0, 0)) := by decide +kernel
theorem s_X5_signsFrom_57 {ca : Nat → List Value → tM → tO} {M : tM} {L : tL} {a : Nat} {i : Int32} {S : List Value} : rn ca C_X5_signsFrom 57 L (.int i :: .ref a :: S) M = if (akind a = 0 ∨ akind a = 6 ∨ akind a = 7) ∧ inb i (alen M a) then rn ca C_X5_signsFrom 58 L (.int (M.1 a i.toInt.toNat) :: S) M else none := (rn_at k_X5_signsFrom_57).trans rnx_ite
theorem k_X5_signsFrom_58 : lk 58 C_X5_signsFrom = some (.iload_n 2, (0, 0, 0, 0)) := by decide +kernel
theorem s_X5_signsFrom_58 {ca : Nat → List Value → tM → tO} {M : tM} {a0 a1 : Option Value} {x : Int32} {S : List Value} : rn ca C_X5_signsFrom 58 [a0, a1, some (.int x)] S M = rn ca C_X5_signsFrom 59 [a0, a1, some (.int x)] (.int x :: S) M := (rn_at k_X5_signsFrom_58).trans rfl
theorem k_X5_signsFrom_59 : lk 59 C_X5_signsFrom = some (.invokevirtual 35, (43, 2, 5, 1186)) := by decide +kernel
theorem s_X5_signsFrom_59 {ca : Nat → List Value → tM → tO} {M : tM} {L : tL} {v1 v2 : Value} {b : Nat} : rn ca C_X5_signsFrom 59 L [v2, v1, .ref b] M = if clsO b = some 5 then rnk ca C_X5_signsFrom 62 L [] (ca m_X5_signsFrom [.ref b, v1, v2] M) else none := (rn_at k_X5_signsFrom_59).trans rnx_ite
theorem k_X5_signsFrom_62 : lk 62 C_X5_signsFrom = some (.iconst 5, (0, 0, 0, 0)) := by decide +kernel
theorem s_X5_signsFrom_62 {ca : Nat → List Value → tM → tO} {M : tM} {L : tL} {S : List Value} : rn ca C_X5_signsFrom 62 L S M = rn ca C_X5_signsFrom 63 L (.int (iI 5) :: S) M := (rn_at k_X5_signsFrom_62).trans rfl
theorem k_X5_signsFrom_63 : lk 63 C_X5_signsFrom = some (.ixor, (0, 0, 0, 0)) := by decide +kernel
theorem s_X5_signsFrom_63 {ca : Nat → List Value → tM → tO} {M : tM} {L : tL} {x y : Int32} {S : List Value} : rn ca C_X5_signsFrom 63 L (.int y :: .int x :: S) M = rn ca C_X5_signsFrom 64 L (.int (x ^^^ y) :: S) M := (rn_at k_X5_signsFrom_63).trans rfl
theorem k_X5_signsFrom_64 : lk 64 C_X5_signsFrom = some (.ireturn, (0, 0, 0, 0)) := by decide +kernel
theorem s_X5_signsFrom_64 {ca : Nat → List Value → tM → tO} {M : tM} {L : tL} {x : Int32} : rn ca C_X5_signsFrom 64 L [.int x] M = some (some (.int x), M) := (rn_at k_X5_signsFrom_64).trans rfl
theorem k_X5_signsFrom_65 : lk 65 C_X5_signsFrom = some (.aload_n 0, (0, 0, 0, 0)) := by decide +kernel
theorem s_X5_signsFrom_65 {ca : Nat → List Value → tM → tO} {M : tM} {a1 a2 : Option Value} {x : Nat} {S : List Value} : rn ca C_X5_signsFrom 65 [some (.ref x), a1, a2] S M = rn ca C_X5_signsFrom 66 [some (.ref x), a1, a2] (.ref x :: S) M := (rn_at k_X5_signsFrom_65).trans rfl
theorem k_X5_signsFrom_66 : lk 66 C_X5_signsFrom = some (.bipush 12, (0, 0, 0, 0)) := by decide +kernel
theorem s_X5_signsFrom_66 {ca : Nat → List Value → tM → tO} {M : tM} {L : tL} {S : List Value} : rn ca C_X5_signsFrom 66 L S M = rn ca C_X5_signsFrom 68 L (.int (iI 12) :: S) M := (rn_at k_X5_signsFrom_66).trans rfl
theorem k_X5_signsFrom_68 : lk 68 C_X5_signsFrom = some (.invokevirtual 38, (40, 1, 5, 1178)) := by decide +kernel
theorem s_X5_signsFrom_68 {ca : Nat → List Value → tM → tO} {M : tM} {L : tL} {v1 : Value} {b : Nat} : rn ca C_X5_signsFrom 68 L [v1, .ref b] M = if clsO b = some 5 then rnk ca C_X5_signsFrom 71 L [] (ca m_X5_begin [.ref b, v1] M) else none := (rn_at k_X5_signsFrom_68).trans rnx_ite
theorem k_X5_signsFrom_71 : lk 71 C_X5_signsFrom = some (.aload_n 0, (0, 0, 0, 0)) := by decide +kernel
theorem s_X5_signsFrom_71 {ca : Nat → List Value → tM → tO} {M : tM} {a1 a2 : Option Value} {x : Nat} {S : List Value} : rn ca C_X5_signsFrom 71 [some (.ref x), a1, a2] S M = rn ca C_X5_signsFrom 72 [some (.ref x), a1, a2] (.ref x :: S) M := (rn_at k_X5_signsFrom_71).trans rfl
theorem k_X5_signsFrom_72 : lk 72 C_X5_signsFrom = some (.aload_n 0, (0, 0, 0, 0)) := by decide +kernel
theorem s_X5_signsFrom_72 {ca : Nat → List Value → tM → tO} {M : tM} {a1 a2 : Option Value} {x : Nat} {S : List Value} : rn ca C_X5_signsFrom 72 [some (.ref x), a1, a2] S M = rn ca C_X5_signsFrom 73 [some (.ref x), a1, a2] (.ref x :: S) M := (rn_at k_X5_signsFrom_72).trans rfl
theorem k_X5_signsFrom_73 : lk 73 C_X5_signsFrom = some (.getfield 19, (5, 2, 0, 139)) := by decide +kernel
theorem s_X5_signsFrom_73 {ca : Nat → List Value → tM → tO} {M : tM} {L : tL} {b : Nat} {S : List Value} : rn ca C_X5_signsFrom 73 L (.ref b :: S) M = if clsO b = some 5 then rn ca C_X5_signsFrom 76 L (fv M b 2 :: S) M else none := (rn_at k_X5_signsFrom_73).trans rnx_ite
theorem k_X5_signsFrom_76 : lk 76 C_X5_signsFrom = some (.iload_n 2, (0, 0, 0, 0)) := by decide +kernel
theorem s_X5_signsFrom_76 {ca : Nat → List Value → tM → tO} {M : tM} {a0 a1 : Option Value} {x : Int32} {S : List Value} : rn ca C_X5_signsFrom 76 [a0, a1, some (.int x)] S M = rn ca C_X5_signsFrom 77 [a0, a1, some (.int x)] (.int x :: S) M := (rn_at k_X5_signsFrom_76).trans rfl
theorem k_X5_signsFrom_77 : lk 77 C_X5_signsFrom = some (.invokevirtual 32, (42, 2, 5, 1182)) := by decide +kernel
theorem s_X5_signsFrom_77 {ca : Nat → List Value → tM → tO} {M : tM} {L : tL} {v1 v2 : Value} {b : Nat} : rn ca C_X5_signsFrom 77 L [v2, v1, .ref b] M = if clsO b = some 5 then rnk ca C_X5_signsFrom 80 L [] (ca m_X5_landsFrom [.ref b, v1, v2] M) else none := (rn_at k_X5_signsFrom_77).trans rnx_ite
theorem k_X5_signsFrom_80 : lk 80 C_X5_signsFrom = some (.aload_n 0, (0, 0, 0, 0)) := by decide +kernel
theorem s_X5_signsFrom_80 {ca : Nat → List Value → tM → tO} {M : tM} {a1 a2 : Option Value} {x : Nat} {S : List Value} : rn ca C_X5_signsFrom 80 [some (.ref x), a1, a2] S M = rn ca C_X5_signsFrom 81 [some (.ref x), a1, a2] (.ref x :: S) M := (rn_at k_X5_signsFrom_80).trans rfl
theorem k_X5_signsFrom_81 : lk 81 C_X5_signsFrom = some (.aload_n 0, (0, 0, 0, 0)) := by decide +kernel
theorem s_X5_signsFrom_81 {ca : Nat → List Value → tM → tO} {M : tM} {a1 a2 : Option Value} {x : Nat} {S : List Value} : rn ca C_X5_signsFrom 81 [some (.ref x), a1, a2] S M = rn ca C_X5_signsFrom 82 [some (.ref x), a1, a2] (.ref x :: S) M := (rn_at k_X5_signsFrom_81).trans rfl
theorem k_X5_signsFrom_82 : lk 82 C_X5_signsFrom = some (.getfield 19, (5, 2, 0, 139)) := by decide +kernel
theorem s_X5_signsFrom_82 {ca : Nat → List Value → tM → tO} {M : tM} {L : tL} {b : Nat} {S : List Value} : rn ca C_X5_signsFrom 82 L (.ref b :: S) M = if clsO b = some 5 then rn ca C_X5_signsFrom 85 L (fv M b 2 :: S) M else none := (rn_at k_X5_signsFrom_82).trans rnx_ite
theorem k_X5_signsFrom_85 : lk 85 C_X5_signsFrom = some (.iload_n 2, (0, 0, 0, 0)) := by decide +kernel
theorem s_X5_signsFrom_85 {ca : Nat → List Value → tM → tO} {M : tM} {a0 a1 : Option Value} {x : Int32} {S : List Value} : rn ca C_X5_signsFrom 85 [a0, a1, some (.int x)] S M = rn ca C_X5_signsFrom 86 [a0, a1, some (.int x)] (.int x :: S) M := (rn_at k_X5_signsFrom_85).trans rfl
theorem k_X5_signsFrom_86 : lk 86 C_X5_signsFrom = some (.aload_n 0, (0, 0, 0, 0)) := by decide +kernel
theorem s_X5_signsFrom_86 {ca : Nat → List Value → tM → tO} {M : tM} {a1 a2 : Option Value} {x : Nat} {S : List Value} : rn ca C_X5_signsFrom 86 [some (.ref x), a1, a2] S M = rn ca C_X5_signsFrom 87 [some (.ref x), a1, a2] (.ref x :: S) M := (rn_at k_X5_signsFrom_86).trans rfl
theorem k_X5_signsFrom_87 : lk 87 C_X5_signsFrom = some (.getfield 25, (5, 4, 0, 141)) := by decide +kernel
theorem s_X5_signsFrom_87 {ca : Nat → List Value → tM → tO} {M : tM} {L : tL} {b : Nat} {S : List Value} : rn ca C_X5_signsFrom 87 L (.ref b :: S) M = if clsO b = some 5 then rn ca C_X5_signsFrom 90 L (fv M b 4 :: S) M else none := (rn_at k_X5_signsFrom_87).trans rnx_ite
theorem k_X5_signsFrom_90 : lk 90 C_X5_signsFrom = some (.isub, (0, 0, 0, 0)) := by decide +kernel
theorem s_X5_signsFrom_90 {ca : Nat → List Value → tM → tO} {M : tM} {L : tL} {x y : Int32} {S : List Value} : rn ca C_X5_signsFrom 90 L (.int y :: .int x :: S) M = rn ca C_X5_signsFrom 91 L (.int (x - y) :: S) M := (rn_at k_X5_signsFrom_90).trans rfl
theorem k_X5_signsFrom_91 : lk 91 C_X5_signsFrom = some (.invokevirtual 28, (41, 2, 5, 1174)) := by decide +kernel
theorem s_X5_signsFrom_91 {ca : Nat → List Value → tM → tO} {M : tM} {L : tL} {v1 v2 : Value} {r0 : Int32} {b : Nat} : rn ca C_X5_signsFrom 91 L [v2, v1, .ref b, .int r0] M = if clsO b = some 5 then rnk ca C_X5_signsFrom 94 L [.int r0] (ca m_X5_hissesFrom [.ref b, v1, v2] M) else none := (rn_at k_X5_signsFrom_91).trans rnx_ite
theorem k_X5_signsFrom_94 : lk 94 C_X5_signsFrom = some (.ixor, (0, 0, 0, 0)) := by decide +kernel
theorem s_X5_signsFrom_94 {ca : Nat → List Value → tM → tO} {M : tM} {L : tL} {x y : Int32} {S : List Value} : rn ca C_X5_signsFrom 94 L (.int y :: .int x :: S) M = rn ca C_X5_signsFrom 95 L (.int (x ^^^ y) :: S) M := (rn_at k_X5_signsFrom_94).trans rfl
theorem k_X5_signsFrom_95 : lk 95 C_X5_signsFrom = some (.ireturn, (0, 0, 0, 0)) := by decide +kernel
theorem s_X5_signsFrom_95 {ca : Nat → List Value → tM → tO} {M : tM} {L : tL} {x : Int32} : rn ca C_X5_signsFrom 95 L [.int x] M = some (some (.int x), M) := (rn_at k_X5_signsFrom_95).trans rfl
